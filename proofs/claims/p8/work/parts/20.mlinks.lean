theorem tbg {T : List Cond} (hT : ∀ w ∈ T, w ∈ lw_tbl) {w : Cond} (i : Nat) (h : T[i]? = some w) (g : goodWord w = true) : w ∈ tb := List.mem_filter.mpr ⟨hT w (List.mem_of_getElem? h), g⟩
theorem sg_ (w : Cond) (h : w ∈ tables_1) : w ∈ lw_tbl := List.mem_append_right _ h
theorem sg1 : ∀ w ∈ tables_1_1, w ∈ lw_tbl := fun w h => sg_ w (List.mem_append_left _ h)
theorem sg2 : ∀ w ∈ tables_1_2, w ∈ lw_tbl := fun w h => sg_ w (List.mem_append_right _ (List.mem_append_left _ h))
theorem sg3 : ∀ w ∈ tables_1_3, w ∈ lw_tbl := fun w h => sg_ w (List.mem_append_right _ (List.mem_append_right _ (List.mem_append_left _ h)))
theorem sg4 : ∀ w ∈ tables_1_4, w ∈ lw_tbl := fun w h => sg_ w (List.mem_append_right _ (List.mem_append_right _ (List.mem_append_right _ (List.mem_append_left _ h))))
theorem sg5 : ∀ w ∈ tables_1_5, w ∈ lw_tbl := fun w h => sg_ w (List.mem_append_right _ (List.mem_append_right _ (List.mem_append_right _ (List.mem_append_right _ (List.mem_append_left _ h)))))
theorem sg6 : ∀ w ∈ tables_1_6, w ∈ lw_tbl := fun w h => sg_ w (List.mem_append_right _ (List.mem_append_right _ (List.mem_append_right _ (List.mem_append_right _ (List.mem_append_right _ (List.mem_append_left _ h))))))
theorem sg7 : ∀ w ∈ tables_1_7, w ∈ lw_tbl := fun w h => sg_ w (List.mem_append_right _ (List.mem_append_right _ (List.mem_append_right _ (List.mem_append_right _ (List.mem_append_right _ (List.mem_append_right _ (List.mem_append_left _ h)))))))
theorem sg8 : ∀ w ∈ tables_1_8, w ∈ lw_tbl := fun w h => sg_ w (List.mem_append_right _ (List.mem_append_right _ (List.mem_append_right _ (List.mem_append_right _ (List.mem_append_right _ (List.mem_append_right _ (List.mem_append_right _ (List.mem_append_left _ h))))))))
theorem sg9 : ∀ w ∈ tables_1_9, w ∈ lw_tbl := fun w h => sg_ w (List.mem_append_right _ (List.mem_append_right _ (List.mem_append_right _ (List.mem_append_right _ (List.mem_append_right _ (List.mem_append_right _ (List.mem_append_right _ (List.mem_append_right _ (List.mem_append_left _ h)))))))))
theorem sg10 : ∀ w ∈ tables_1_10, w ∈ lw_tbl := fun w h => sg_ w (List.mem_append_right _ (List.mem_append_right _ (List.mem_append_right _ (List.mem_append_right _ (List.mem_append_right _ (List.mem_append_right _ (List.mem_append_right _ (List.mem_append_right _ (List.mem_append_right _ (List.mem_append_left _ h))))))))))
theorem sg11 : ∀ w ∈ tables_1_11, w ∈ lw_tbl := fun w h => sg_ w (List.mem_append_right _ (List.mem_append_right _ (List.mem_append_right _ (List.mem_append_right _ (List.mem_append_right _ (List.mem_append_right _ (List.mem_append_right _ (List.mem_append_right _ (List.mem_append_right _ (List.mem_append_right _ (h)))))))))))
theorem zfit {E : En} {S : Sg} {x : Int} (h : okv E S (0, 0, 1) x) : narrow .boolean (tv (0, x)) = tv (0, x) ∧ fits .boolean (tv (0, x)) = true := by
  rcases (by have := h.1; have := h.2; dsimp only at *; omega : x = 0 ∨ x = 1) with rfl | rfl <;> exact ⟨rfl, rfl⟩
theorem cf12 : Cf 12 138 := ⟨RX12, TX12, tyX12, rfl, tbs [1855, 1857, 1859, 1861, 1863, 1865, 1867, 1869, 1871, 1873, 1875, 1877, 1879, 1881, 1883, 1885, 1887, 1889, 1891, 1893, 1895, 1897, 1899, 1901, 1903, 1905, 1907, 1909, 1911, 1913, 1915, 1917, 1919, 1921, 1923, 1925, 1927, 1929, 1931, 1933, 1935, 1937, 1939, 1941, 1943, 1945, 1947, 1949, 1951, 1953, 1955, 1957, 1959, 1961, 1963, 1965, 1967, 1969, 1971, 1973, 1975, 1977, 1979, 1981, 1983, 1985, 1987, 1989, 1991, 1993, 1995, 1997, 1999, 2001, 2003, 2005, 2007, 2009, 2011, 2013, 2015, 2017, 2019, 2021, 2023, 2025, 2027, 2029, 2031, 2033, 2035, 2037, 2039, 2041, 2043, 2045, 2047, 2049, 2051, 2053, 2055, 2057, 2059, 2061, 2063, 2065, 2067, 2069, 2071, 2073, 2075, 2077, 2079, 2081, 2083, 2085, 2087, 2089, 2091, 2093, 2095, 2097, 2099, 2101, 2103, 2105, 2107, 2109, 2111, 2113, 2115, 2117, 2119, 2121, 2123, 2125, 2127, 2129] (by decide +kernel), tyX12_ok, nmX12⟩
theorem fl_12_10 : Fl RX12 10 1 2 (0, 0, 40000) := ⟨12, 138, fs_1, RX12, TX12, rfl, rfl, by decide, rfl, by decide, rfl, cf12, (tbg sg7 133 rfl rfl)⟩
theorem fp_12_10 : Fp RX12 10 1 2 (0, 0, 40000) := ⟨fl_12_10, 12, 138, fs_1, RX12, TX12, .int, rfl, rfl, rfl, by decide +kernel, fun E S x h => ⟨rfl, rfl⟩⟩
theorem fl_12_14 : Fl RX12 14 1 5 (1, (-9223372036854775808), 9223372036854775807) := ⟨12, 138, fs_1, RX12, TX12, rfl, rfl, by decide, rfl, by decide, rfl, cf12, (tbg sg7 136 rfl rfl)⟩
theorem fp_12_14 : Fp RX12 14 1 5 (1, (-9223372036854775808), 9223372036854775807) := ⟨fl_12_14, 12, 138, fs_1, RX12, TX12, .long, rfl, rfl, rfl, by decide +kernel, fun E S x h => ⟨rfl, rfl⟩⟩
theorem fl_12_18 : Fl RX12 18 1 14 (4, 2, 0) := ⟨12, 138, fs_1, RX12, TX12, rfl, rfl, by decide, rfl, by decide, rfl, cf12, (tbg sg7 145 rfl rfl)⟩
theorem fl_12_22 : Fl RX12 22 1 15 (4, 3, 0) := ⟨12, 138, fs_1, RX12, TX12, rfl, rfl, by decide, rfl, by decide, rfl, cf12, (tbg sg7 146 rfl rfl)⟩
theorem fl_12_25 : Fl RX12 25 1 16 (4, 4, 0) := ⟨12, 138, fs_1, RX12, TX12, rfl, rfl, by decide, rfl, by decide, rfl, cf12, (tbg sg7 147 rfl rfl)⟩
theorem fl_12_28 : Fl RX12 28 1 17 (4, 5, 0) := ⟨12, 138, fs_1, RX12, TX12, rfl, rfl, by decide, rfl, by decide, rfl, cf12, (tbg sg7 148 rfl rfl)⟩
theorem fl_12_31 : Fl RX12 31 1 18 (4, 6, 0) := ⟨12, 138, fs_1, RX12, TX12, rfl, rfl, by decide, rfl, by decide, rfl, cf12, (tbg sg7 149 rfl rfl)⟩
theorem fl_12_34 : Fl RX12 34 1 19 (4, 7, 0) := ⟨12, 138, fs_1, RX12, TX12, rfl, rfl, by decide, rfl, by decide, rfl, cf12, (tbg sg7 150 rfl rfl)⟩
theorem fl_12_37 : Fl RX12 37 1 20 (4, 8, 0) := ⟨12, 138, fs_1, RX12, TX12, rfl, rfl, by decide, rfl, by decide, rfl, cf12, (tbg sg7 151 rfl rfl)⟩
theorem fl_12_40 : Fl RX12 40 1 21 (4, 9, 0) := ⟨12, 138, fs_1, RX12, TX12, rfl, rfl, by decide, rfl, by decide, rfl, cf12, (tbg sg7 152 rfl rfl)⟩
theorem fl_12_43 : Fl RX12 43 1 22 (4, 10, 0) := ⟨12, 138, fs_1, RX12, TX12, rfl, rfl, by decide, rfl, by decide, rfl, cf12, (tbg sg7 153 rfl rfl)⟩
theorem fl_12_46 : Fl RX12 46 1 23 (4, 11, 0) := ⟨12, 138, fs_1, RX12, TX12, rfl, rfl, by decide, rfl, by decide, rfl, cf12, (tbg sg7 154 rfl rfl)⟩
theorem fl_12_49 : Fl RX12 49 1 24 (4, 12, 0) := ⟨12, 138, fs_1, RX12, TX12, rfl, rfl, by decide, rfl, by decide, rfl, cf12, (tbg sg7 155 rfl rfl)⟩
theorem fl_12_52 : Fl RX12 52 1 25 (4, 13, 0) := ⟨12, 138, fs_1, RX12, TX12, rfl, rfl, by decide, rfl, by decide, rfl, cf12, (tbg sg7 156 rfl rfl)⟩
theorem fl_12_55 : Fl RX12 55 1 26 (4, 14, 0) := ⟨12, 138, fs_1, RX12, TX12, rfl, rfl, by decide, rfl, by decide, rfl, cf12, (tbg sg7 157 rfl rfl)⟩
theorem fl_12_58 : Fl RX12 58 1 27 (4, 15, 0) := ⟨12, 138, fs_1, RX12, TX12, rfl, rfl, by decide, rfl, by decide, rfl, cf12, (tbg sg7 158 rfl rfl)⟩
theorem fl_12_61 : Fl RX12 61 1 28 (4, 16, 0) := ⟨12, 138, fs_1, RX12, TX12, rfl, rfl, by decide, rfl, by decide, rfl, cf12, (tbg sg7 159 rfl rfl)⟩
theorem fl_12_64 : Fl RX12 64 1 29 (4, 17, 0) := ⟨12, 138, fs_1, RX12, TX12, rfl, rfl, by decide, rfl, by decide, rfl, cf12, (tbg sg7 160 rfl rfl)⟩
theorem fl_12_67 : Fl RX12 67 1 30 (4, 18, 0) := ⟨12, 138, fs_1, RX12, TX12, rfl, rfl, by decide, rfl, by decide, rfl, cf12, (tbg sg7 161 rfl rfl)⟩
theorem fl_12_70 : Fl RX12 70 1 31 (4, 19, 0) := ⟨12, 138, fs_1, RX12, TX12, rfl, rfl, by decide, rfl, by decide, rfl, cf12, (tbg sg7 162 rfl rfl)⟩
theorem fl_12_74 : Fl RX12 74 1 32 (4, 20, 0) := ⟨12, 138, fs_1, RX12, TX12, rfl, rfl, by decide, rfl, by decide, rfl, cf12, (tbg sg7 163 rfl rfl)⟩
theorem fl_12_77 : Fl RX12 77 1 33 (4, 21, 0) := ⟨12, 138, fs_1, RX12, TX12, rfl, rfl, by decide, rfl, by decide, rfl, cf12, (tbg sg7 164 rfl rfl)⟩
theorem fl_12_80 : Fl RX12 80 1 34 (4, 22, 0) := ⟨12, 138, fs_1, RX12, TX12, rfl, rfl, by decide, rfl, by decide, rfl, cf12, (tbg sg7 165 rfl rfl)⟩
theorem fl_12_83 : Fl RX12 83 1 35 (4, 23, 0) := ⟨12, 138, fs_1, RX12, TX12, rfl, rfl, by decide, rfl, by decide, rfl, cf12, (tbg sg7 166 rfl rfl)⟩
theorem fl_12_86 : Fl RX12 86 1 36 (4, 24, 0) := ⟨12, 138, fs_1, RX12, TX12, rfl, rfl, by decide, rfl, by decide, rfl, cf12, (tbg sg7 167 rfl rfl)⟩
theorem fl_12_89 : Fl RX12 89 1 37 (4, 25, 0) := ⟨12, 138, fs_1, RX12, TX12, rfl, rfl, by decide, rfl, by decide, rfl, cf12, (tbg sg7 168 rfl rfl)⟩
theorem fl_12_92 : Fl RX12 92 1 38 (4, 26, 0) := ⟨12, 138, fs_1, RX12, TX12, rfl, rfl, by decide, rfl, by decide, rfl, cf12, (tbg sg7 169 rfl rfl)⟩
theorem fl_12_95 : Fl RX12 95 1 39 (4, 27, 0) := ⟨12, 138, fs_1, RX12, TX12, rfl, rfl, by decide, rfl, by decide, rfl, cf12, (tbg sg7 170 rfl rfl)⟩
theorem fl_12_98 : Fl RX12 98 1 40 (4, 28, 0) := ⟨12, 138, fs_1, RX12, TX12, rfl, rfl, by decide, rfl, by decide, rfl, cf12, (tbg sg7 171 rfl rfl)⟩
theorem fl_12_101 : Fl RX12 101 1 41 (4, 29, 0) := ⟨12, 138, fs_1, RX12, TX12, rfl, rfl, by decide, rfl, by decide, rfl, cf12, (tbg sg7 172 rfl rfl)⟩
theorem fl_12_104 : Fl RX12 104 1 42 (4, 30, 0) := ⟨12, 138, fs_1, RX12, TX12, rfl, rfl, by decide, rfl, by decide, rfl, cf12, (tbg sg7 173 rfl rfl)⟩
theorem fl_12_107 : Fl RX12 107 1 43 (4, 31, 0) := ⟨12, 138, fs_1, RX12, TX12, rfl, rfl, by decide, rfl, by decide, rfl, cf12, (tbg sg7 174 rfl rfl)⟩
theorem fl_12_110 : Fl RX12 110 1 44 (4, 32, 0) := ⟨12, 138, fs_1, RX12, TX12, rfl, rfl, by decide, rfl, by decide, rfl, cf12, (tbg sg7 175 rfl rfl)⟩
theorem fl_12_113 : Fl RX12 113 1 45 (4, 33, 0) := ⟨12, 138, fs_1, RX12, TX12, rfl, rfl, by decide, rfl, by decide, rfl, cf12, (tbg sg7 176 rfl rfl)⟩
theorem fl_12_116 : Fl RX12 116 1 46 (4, 34, 0) := ⟨12, 138, fs_1, RX12, TX12, rfl, rfl, by decide, rfl, by decide, rfl, cf12, (tbg sg7 177 rfl rfl)⟩
theorem fl_12_119 : Fl RX12 119 1 47 (4, 35, 0) := ⟨12, 138, fs_1, RX12, TX12, rfl, rfl, by decide, rfl, by decide, rfl, cf12, (tbg sg7 178 rfl rfl)⟩
theorem fl_12_122 : Fl RX12 122 1 48 (4, 36, 0) := ⟨12, 138, fs_1, RX12, TX12, rfl, rfl, by decide, rfl, by decide, rfl, cf12, (tbg sg7 179 rfl rfl)⟩
theorem fl_12_125 : Fl RX12 125 1 49 (4, 37, 0) := ⟨12, 138, fs_1, RX12, TX12, rfl, rfl, by decide, rfl, by decide, rfl, cf12, (tbg sg7 180 rfl rfl)⟩
theorem fl_12_128 : Fl RX12 128 1 50 (4, 38, 0) := ⟨12, 138, fs_1, RX12, TX12, rfl, rfl, by decide, rfl, by decide, rfl, cf12, (tbg sg7 181 rfl rfl)⟩
theorem fl_12_131 : Fl RX12 131 1 51 (4, 39, 0) := ⟨12, 138, fs_1, RX12, TX12, rfl, rfl, by decide, rfl, by decide, rfl, cf12, (tbg sg7 182 rfl rfl)⟩
theorem fl_12_134 : Fl RX12 134 1 52 (4, 40, 0) := ⟨12, 138, fs_1, RX12, TX12, rfl, rfl, by decide, rfl, by decide, rfl, cf12, (tbg sg7 183 rfl rfl)⟩
theorem fl_12_137 : Fl RX12 137 1 53 (4, 41, 0) := ⟨12, 138, fs_1, RX12, TX12, rfl, rfl, by decide, rfl, by decide, rfl, cf12, (tbg sg7 184 rfl rfl)⟩
theorem fl_12_140 : Fl RX12 140 1 54 (4, 42, 0) := ⟨12, 138, fs_1, RX12, TX12, rfl, rfl, by decide, rfl, by decide, rfl, cf12, (tbg sg7 185 rfl rfl)⟩
theorem fl_12_143 : Fl RX12 143 1 55 (4, 43, 0) := ⟨12, 138, fs_1, RX12, TX12, rfl, rfl, by decide, rfl, by decide, rfl, cf12, (tbg sg7 186 rfl rfl)⟩
theorem fl_12_146 : Fl RX12 146 1 56 (4, 44, 0) := ⟨12, 138, fs_1, RX12, TX12, rfl, rfl, by decide, rfl, by decide, rfl, cf12, (tbg sg7 187 rfl rfl)⟩
theorem fl_12_149 : Fl RX12 149 1 57 (4, 45, 0) := ⟨12, 138, fs_1, RX12, TX12, rfl, rfl, by decide, rfl, by decide, rfl, cf12, (tbg sg7 188 rfl rfl)⟩
theorem fl_12_152 : Fl RX12 152 1 58 (4, 46, 0) := ⟨12, 138, fs_1, RX12, TX12, rfl, rfl, by decide, rfl, by decide, rfl, cf12, (tbg sg7 189 rfl rfl)⟩
theorem fl_12_155 : Fl RX12 155 1 59 (4, 47, 0) := ⟨12, 138, fs_1, RX12, TX12, rfl, rfl, by decide, rfl, by decide, rfl, cf12, (tbg sg7 190 rfl rfl)⟩
theorem fl_12_158 : Fl RX12 158 1 60 (4, 48, 0) := ⟨12, 138, fs_1, RX12, TX12, rfl, rfl, by decide, rfl, by decide, rfl, cf12, (tbg sg7 191 rfl rfl)⟩
theorem fl_12_161 : Fl RX12 161 1 61 (4, 49, 0) := ⟨12, 138, fs_1, RX12, TX12, rfl, rfl, by decide, rfl, by decide, rfl, cf12, (tbg sg7 192 rfl rfl)⟩
theorem fl_12_164 : Fl RX12 164 1 62 (4, 50, 0) := ⟨12, 138, fs_1, RX12, TX12, rfl, rfl, by decide, rfl, by decide, rfl, cf12, (tbg sg7 193 rfl rfl)⟩
theorem fl_12_167 : Fl RX12 167 1 63 (4, 51, 0) := ⟨12, 138, fs_1, RX12, TX12, rfl, rfl, by decide, rfl, by decide, rfl, cf12, (tbg sg7 194 rfl rfl)⟩
theorem fl_12_170 : Fl RX12 170 1 64 (4, 52, 0) := ⟨12, 138, fs_1, RX12, TX12, rfl, rfl, by decide, rfl, by decide, rfl, cf12, (tbg sg7 195 rfl rfl)⟩
theorem fl_12_173 : Fl RX12 173 1 65 (4, 53, 0) := ⟨12, 138, fs_1, RX12, TX12, rfl, rfl, by decide, rfl, by decide, rfl, cf12, (tbg sg7 196 rfl rfl)⟩
theorem fl_12_176 : Fl RX12 176 1 66 (4, 54, 0) := ⟨12, 138, fs_1, RX12, TX12, rfl, rfl, by decide, rfl, by decide, rfl, cf12, (tbg sg7 197 rfl rfl)⟩
theorem fl_12_179 : Fl RX12 179 1 67 (4, 55, 0) := ⟨12, 138, fs_1, RX12, TX12, rfl, rfl, by decide, rfl, by decide, rfl, cf12, (tbg sg7 198 rfl rfl)⟩
theorem fl_12_182 : Fl RX12 182 1 68 (4, 56, 0) := ⟨12, 138, fs_1, RX12, TX12, rfl, rfl, by decide, rfl, by decide, rfl, cf12, (tbg sg7 199 rfl rfl)⟩
theorem fl_12_185 : Fl RX12 185 1 69 (4, 57, 0) := ⟨12, 138, fs_1, RX12, TX12, rfl, rfl, by decide, rfl, by decide, rfl, cf12, (tbg sg7 200 rfl rfl)⟩
theorem fl_12_188 : Fl RX12 188 1 70 (4, 58, 0) := ⟨12, 138, fs_1, RX12, TX12, rfl, rfl, by decide, rfl, by decide, rfl, cf12, (tbg sg7 201 rfl rfl)⟩
theorem fl_12_191 : Fl RX12 191 1 71 (4, 59, 0) := ⟨12, 138, fs_1, RX12, TX12, rfl, rfl, by decide, rfl, by decide, rfl, cf12, (tbg sg7 202 rfl rfl)⟩
theorem fl_12_194 : Fl RX12 194 1 72 (4, 60, 0) := ⟨12, 138, fs_1, RX12, TX12, rfl, rfl, by decide, rfl, by decide, rfl, cf12, (tbg sg7 203 rfl rfl)⟩
theorem fl_12_197 : Fl RX12 197 1 73 (0, (-2147483648), 2147483647) := ⟨12, 138, fs_1, RX12, TX12, rfl, rfl, by decide, rfl, by decide, rfl, cf12, (tbg sg7 204 rfl rfl)⟩
theorem fp_12_197 : Fp RX12 197 1 73 (0, (-2147483648), 2147483647) := ⟨fl_12_197, 12, 138, fs_1, RX12, TX12, .int, rfl, rfl, rfl, by decide +kernel, fun E S x h => ⟨rfl, rfl⟩⟩
theorem fl_12_200 : Fl RX12 200 1 75 (4, 61, 0) := ⟨12, 138, fs_1, RX12, TX12, rfl, rfl, by decide, rfl, by decide, rfl, cf12, (tbg sg7 206 rfl rfl)⟩
theorem fl_12_204 : Fl RX12 204 1 78 (0, (-2147483648), 2147483647) := ⟨12, 138, fs_1, RX12, TX12, rfl, rfl, by decide, rfl, by decide, rfl, cf12, (tbg sg7 209 rfl rfl)⟩
theorem fp_12_204 : Fp RX12 204 1 78 (0, (-2147483648), 2147483647) := ⟨fl_12_204, 12, 138, fs_1, RX12, TX12, .int, rfl, rfl, rfl, by decide +kernel, fun E S x h => ⟨rfl, rfl⟩⟩
theorem fl_12_207 : Fl RX12 207 1 79 (0, (-2147483648), 2147483647) := ⟨12, 138, fs_1, RX12, TX12, rfl, rfl, by decide, rfl, by decide, rfl, cf12, (tbg sg7 210 rfl rfl)⟩
theorem fp_12_207 : Fp RX12 207 1 79 (0, (-2147483648), 2147483647) := ⟨fl_12_207, 12, 138, fs_1, RX12, TX12, .int, rfl, rfl, rfl, by decide +kernel, fun E S x h => ⟨rfl, rfl⟩⟩
theorem fl_12_210 : Fl RX12 210 1 93 (4, 62, 0) := ⟨12, 138, fs_1, RX12, TX12, rfl, rfl, by decide, rfl, by decide, rfl, cf12, (tbg sg7 224 rfl rfl)⟩
theorem fl_12_214 : Fl RX12 214 1 94 (4, 63, 0) := ⟨12, 138, fs_1, RX12, TX12, rfl, rfl, by decide, rfl, by decide, rfl, cf12, (tbg sg7 225 rfl rfl)⟩
theorem fl_12_217 : Fl RX12 217 1 95 (4, 64, 0) := ⟨12, 138, fs_1, RX12, TX12, rfl, rfl, by decide, rfl, by decide, rfl, cf12, (tbg sg7 226 rfl rfl)⟩
theorem fl_12_220 : Fl RX12 220 1 96 (4, 65, 0) := ⟨12, 138, fs_1, RX12, TX12, rfl, rfl, by decide, rfl, by decide, rfl, cf12, (tbg sg7 227 rfl rfl)⟩
theorem fl_12_223 : Fl RX12 223 1 97 (4, 66, 0) := ⟨12, 138, fs_1, RX12, TX12, rfl, rfl, by decide, rfl, by decide, rfl, cf12, (tbg sg7 228 rfl rfl)⟩
theorem fl_12_226 : Fl RX12 226 1 98 (4, 67, 0) := ⟨12, 138, fs_1, RX12, TX12, rfl, rfl, by decide, rfl, by decide, rfl, cf12, (tbg sg7 229 rfl rfl)⟩
theorem fl_12_229 : Fl RX12 229 1 99 (4, 68, 0) := ⟨12, 138, fs_1, RX12, TX12, rfl, rfl, by decide, rfl, by decide, rfl, cf12, (tbg sg7 230 rfl rfl)⟩
theorem fl_12_232 : Fl RX12 232 1 100 (4, 69, 0) := ⟨12, 138, fs_1, RX12, TX12, rfl, rfl, by decide, rfl, by decide, rfl, cf12, (tbg sg7 231 rfl rfl)⟩
theorem fl_12_235 : Fl RX12 235 1 101 (4, 70, 0) := ⟨12, 138, fs_1, RX12, TX12, rfl, rfl, by decide, rfl, by decide, rfl, cf12, (tbg sg7 232 rfl rfl)⟩
theorem fl_12_238 : Fl RX12 238 1 102 (4, 71, 0) := ⟨12, 138, fs_1, RX12, TX12, rfl, rfl, by decide, rfl, by decide, rfl, cf12, (tbg sg7 233 rfl rfl)⟩
theorem fl_12_241 : Fl RX12 241 1 103 (4, 72, 0) := ⟨12, 138, fs_1, RX12, TX12, rfl, rfl, by decide, rfl, by decide, rfl, cf12, (tbg sg7 234 rfl rfl)⟩
theorem fl_12_244 : Fl RX12 244 1 104 (4, 73, 0) := ⟨12, 138, fs_1, RX12, TX12, rfl, rfl, by decide, rfl, by decide, rfl, cf12, (tbg sg7 235 rfl rfl)⟩
theorem fl_12_247 : Fl RX12 247 1 105 (4, 74, 0) := ⟨12, 138, fs_1, RX12, TX12, rfl, rfl, by decide, rfl, by decide, rfl, cf12, (tbg sg7 236 rfl rfl)⟩
theorem fl_12_250 : Fl RX12 250 1 106 (4, 75, 0) := ⟨12, 138, fs_1, RX12, TX12, rfl, rfl, by decide, rfl, by decide, rfl, cf12, (tbg sg7 237 rfl rfl)⟩
theorem fl_12_253 : Fl RX12 253 1 107 (4, 76, 0) := ⟨12, 138, fs_1, RX12, TX12, rfl, rfl, by decide, rfl, by decide, rfl, cf12, (tbg sg7 238 rfl rfl)⟩
theorem fl_12_256 : Fl RX12 256 1 108 (4, 77, 0) := ⟨12, 138, fs_1, RX12, TX12, rfl, rfl, by decide, rfl, by decide, rfl, cf12, (tbg sg7 239 rfl rfl)⟩
theorem fl_12_259 : Fl RX12 259 1 109 (4, 78, 0) := ⟨12, 138, fs_1, RX12, TX12, rfl, rfl, by decide, rfl, by decide, rfl, cf12, (tbg sg8 0 rfl rfl)⟩
theorem fl_12_262 : Fl RX12 262 1 110 (4, 79, 0) := ⟨12, 138, fs_1, RX12, TX12, rfl, rfl, by decide, rfl, by decide, rfl, cf12, (tbg sg8 1 rfl rfl)⟩
theorem fl_12_265 : Fl RX12 265 1 111 (4, 80, 0) := ⟨12, 138, fs_1, RX12, TX12, rfl, rfl, by decide, rfl, by decide, rfl, cf12, (tbg sg8 2 rfl rfl)⟩
theorem fl_12_268 : Fl RX12 268 1 112 (4, 81, 0) := ⟨12, 138, fs_1, RX12, TX12, rfl, rfl, by decide, rfl, by decide, rfl, cf12, (tbg sg8 3 rfl rfl)⟩
theorem fl_12_271 : Fl RX12 271 1 113 (4, 82, 0) := ⟨12, 138, fs_1, RX12, TX12, rfl, rfl, by decide, rfl, by decide, rfl, cf12, (tbg sg8 4 rfl rfl)⟩
theorem fl_12_274 : Fl RX12 274 1 114 (4, 83, 0) := ⟨12, 138, fs_1, RX12, TX12, rfl, rfl, by decide, rfl, by decide, rfl, cf12, (tbg sg8 5 rfl rfl)⟩
theorem fl_12_277 : Fl RX12 277 1 115 (4, 84, 0) := ⟨12, 138, fs_1, RX12, TX12, rfl, rfl, by decide, rfl, by decide, rfl, cf12, (tbg sg8 6 rfl rfl)⟩
theorem fl_12_280 : Fl RX12 280 1 116 (4, 85, 0) := ⟨12, 138, fs_1, RX12, TX12, rfl, rfl, by decide, rfl, by decide, rfl, cf12, (tbg sg8 7 rfl rfl)⟩
theorem fl_12_283 : Fl RX12 283 1 117 (4, 86, 0) := ⟨12, 138, fs_1, RX12, TX12, rfl, rfl, by decide, rfl, by decide, rfl, cf12, (tbg sg8 8 rfl rfl)⟩
theorem fl_12_286 : Fl RX12 286 1 118 (4, 87, 0) := ⟨12, 138, fs_1, RX12, TX12, rfl, rfl, by decide, rfl, by decide, rfl, cf12, (tbg sg8 9 rfl rfl)⟩
theorem fl_12_289 : Fl RX12 289 1 119 (4, 88, 0) := ⟨12, 138, fs_1, RX12, TX12, rfl, rfl, by decide, rfl, by decide, rfl, cf12, (tbg sg8 10 rfl rfl)⟩
theorem fl_12_292 : Fl RX12 292 1 121 (4, 89, 0) := ⟨12, 138, fs_1, RX12, TX12, rfl, rfl, by decide, rfl, by decide, rfl, cf12, (tbg sg8 12 rfl rfl)⟩
theorem fl_12_295 : Fl RX12 295 1 125 (4, 90, 0) := ⟨12, 138, fs_1, RX12, TX12, rfl, rfl, by decide, rfl, by decide, rfl, cf12, (tbg sg8 16 rfl rfl)⟩
theorem fl_12_298 : Fl RX12 298 1 126 (4, 91, 0) := ⟨12, 138, fs_1, RX12, TX12, rfl, rfl, by decide, rfl, by decide, rfl, cf12, (tbg sg8 17 rfl rfl)⟩
theorem fl_12_301 : Fl RX12 301 1 127 (4, 92, 0) := ⟨12, 138, fs_1, RX12, TX12, rfl, rfl, by decide, rfl, by decide, rfl, cf12, (tbg sg8 18 rfl rfl)⟩
theorem fl_12_304 : Fl RX12 304 1 1 (0, 0, 0) := ⟨12, 138, fs_1, RX12, TX12, rfl, rfl, by decide, rfl, by decide, rfl, cf12, (tbg sg7 132 rfl rfl)⟩
theorem fp_12_304 : Fp RX12 304 1 1 (0, 0, 0) := ⟨fl_12_304, 12, 138, fs_1, RX12, TX12, .int, rfl, rfl, rfl, by decide +kernel, fun E S x h => ⟨rfl, rfl⟩⟩
theorem fl_12_307 : Fl RX12 307 1 0 (0, 0, 8) := ⟨12, 138, fs_1, RX12, TX12, rfl, rfl, by decide, rfl, by decide, rfl, cf12, (tbg sg7 131 rfl rfl)⟩
theorem fp_12_307 : Fp RX12 307 1 0 (0, 0, 8) := ⟨fl_12_307, 12, 138, fs_1, RX12, TX12, .int, rfl, rfl, rfl, by decide +kernel, fun E S x h => ⟨rfl, rfl⟩⟩
theorem fl_12_314 : Fl RX12 314 1 6 (0, 0, 20) := ⟨12, 138, fs_1, RX12, TX12, rfl, rfl, by decide, rfl, by decide, rfl, cf12, (tbg sg7 137 rfl rfl)⟩
theorem fp_12_314 : Fp RX12 314 1 6 (0, 0, 20) := ⟨fl_12_314, 12, 138, fs_1, RX12, TX12, .int, rfl, rfl, rfl, by decide +kernel, fun E S x h => ⟨rfl, rfl⟩⟩
theorem fl_12_336 : Fl RX12 336 1 7 (0, 0, 40) := ⟨12, 138, fs_1, RX12, TX12, rfl, rfl, by decide, rfl, by decide, rfl, cf12, (tbg sg7 138 rfl rfl)⟩
theorem fp_12_336 : Fp RX12 336 1 7 (0, 0, 40) := ⟨fl_12_336, 12, 138, fs_1, RX12, TX12, .int, rfl, rfl, rfl, by decide +kernel, fun E S x h => ⟨rfl, rfl⟩⟩
theorem fl_12_339 : Fl RX12 339 1 3 (0, 0, 40000) := ⟨12, 138, fs_1, RX12, TX12, rfl, rfl, by decide, rfl, by decide, rfl, cf12, (tbg sg7 134 rfl rfl)⟩
theorem fp_12_339 : Fp RX12 339 1 3 (0, 0, 40000) := ⟨fl_12_339, 12, 138, fs_1, RX12, TX12, .int, rfl, rfl, rfl, by decide +kernel, fun E S x h => ⟨rfl, rfl⟩⟩
theorem fl_12_342 : Fl RX12 342 1 8 (0, 0, 40) := ⟨12, 138, fs_1, RX12, TX12, rfl, rfl, by decide, rfl, by decide, rfl, cf12, (tbg sg7 139 rfl rfl)⟩
theorem fp_12_342 : Fp RX12 342 1 8 (0, 0, 40) := ⟨fl_12_342, 12, 138, fs_1, RX12, TX12, .int, rfl, rfl, rfl, by decide +kernel, fun E S x h => ⟨rfl, rfl⟩⟩
theorem fl_12_346 : Fl RX12 346 1 77 (0, 0, 400) := ⟨12, 138, fs_1, RX12, TX12, rfl, rfl, by decide, rfl, by decide, rfl, cf12, (tbg sg7 208 rfl rfl)⟩
theorem fp_12_346 : Fp RX12 346 1 77 (0, 0, 400) := ⟨fl_12_346, 12, 138, fs_1, RX12, TX12, .int, rfl, rfl, rfl, by decide +kernel, fun E S x h => ⟨rfl, rfl⟩⟩
theorem fl_12_349 : Fl RX12 349 1 84 (0, 0, 400) := ⟨12, 138, fs_1, RX12, TX12, rfl, rfl, by decide, rfl, by decide, rfl, cf12, (tbg sg7 215 rfl rfl)⟩
theorem fp_12_349 : Fp RX12 349 1 84 (0, 0, 400) := ⟨fl_12_349, 12, 138, fs_1, RX12, TX12, .int, rfl, rfl, rfl, by decide +kernel, fun E S x h => ⟨rfl, rfl⟩⟩
theorem fl_12_352 : Fl RX12 352 1 83 (0, 0, 400) := ⟨12, 138, fs_1, RX12, TX12, rfl, rfl, by decide, rfl, by decide, rfl, cf12, (tbg sg7 214 rfl rfl)⟩
theorem fp_12_352 : Fp RX12 352 1 83 (0, 0, 400) := ⟨fl_12_352, 12, 138, fs_1, RX12, TX12, .int, rfl, rfl, rfl, by decide +kernel, fun E S x h => ⟨rfl, rfl⟩⟩
theorem fl_12_358 : Fl RX12 358 1 82 (0, 0, 4) := ⟨12, 138, fs_1, RX12, TX12, rfl, rfl, by decide, rfl, by decide, rfl, cf12, (tbg sg7 213 rfl rfl)⟩
theorem fp_12_358 : Fp RX12 358 1 82 (0, 0, 4) := ⟨fl_12_358, 12, 138, fs_1, RX12, TX12, .int, rfl, rfl, rfl, by decide +kernel, fun E S x h => ⟨rfl, rfl⟩⟩
theorem fl_12_364 : Fl RX12 364 1 87 (1, (-9223372036854775808), 9223372036854775807) := ⟨12, 138, fs_1, RX12, TX12, rfl, rfl, by decide, rfl, by decide, rfl, cf12, (tbg sg7 218 rfl rfl)⟩
theorem fp_12_364 : Fp RX12 364 1 87 (1, (-9223372036854775808), 9223372036854775807) := ⟨fl_12_364, 12, 138, fs_1, RX12, TX12, .long, rfl, rfl, rfl, by decide +kernel, fun E S x h => ⟨rfl, rfl⟩⟩
theorem fl_12_373 : Fl RX12 373 1 86 (0, (-2147483648), 2147483647) := ⟨12, 138, fs_1, RX12, TX12, rfl, rfl, by decide, rfl, by decide, rfl, cf12, (tbg sg7 217 rfl rfl)⟩
theorem fp_12_373 : Fp RX12 373 1 86 (0, (-2147483648), 2147483647) := ⟨fl_12_373, 12, 138, fs_1, RX12, TX12, .int, rfl, rfl, rfl, by decide +kernel, fun E S x h => ⟨rfl, rfl⟩⟩
theorem fl_12_379 : Fl RX12 379 1 85 (0, (-2147483648), 2147483647) := ⟨12, 138, fs_1, RX12, TX12, rfl, rfl, by decide, rfl, by decide, rfl, cf12, (tbg sg7 216 rfl rfl)⟩
theorem fp_12_379 : Fp RX12 379 1 85 (0, (-2147483648), 2147483647) := ⟨fl_12_379, 12, 138, fs_1, RX12, TX12, .int, rfl, rfl, rfl, by decide +kernel, fun E S x h => ⟨rfl, rfl⟩⟩
theorem fl_12_382 : Fl RX12 382 1 80 (0, 0, 6) := ⟨12, 138, fs_1, RX12, TX12, rfl, rfl, by decide, rfl, by decide, rfl, cf12, (tbg sg7 211 rfl rfl)⟩
theorem fp_12_382 : Fp RX12 382 1 80 (0, 0, 6) := ⟨fl_12_382, 12, 138, fs_1, RX12, TX12, .int, rfl, rfl, rfl, by decide +kernel, fun E S x h => ⟨rfl, rfl⟩⟩
theorem fl_12_385 : Fl RX12 385 1 81 (0, (-2147483648), 2147483647) := ⟨12, 138, fs_1, RX12, TX12, rfl, rfl, by decide, rfl, by decide, rfl, cf12, (tbg sg7 212 rfl rfl)⟩
theorem fp_12_385 : Fp RX12 385 1 81 (0, (-2147483648), 2147483647) := ⟨fl_12_385, 12, 138, fs_1, RX12, TX12, .int, rfl, rfl, rfl, by decide +kernel, fun E S x h => ⟨rfl, rfl⟩⟩
theorem fl_12_421 : Fl RX12 421 1 89 (0, 0, 3) := ⟨12, 138, fs_1, RX12, TX12, rfl, rfl, by decide, rfl, by decide, rfl, cf12, (tbg sg7 220 rfl rfl)⟩
theorem fp_12_421 : Fp RX12 421 1 89 (0, 0, 3) := ⟨fl_12_421, 12, 138, fs_1, RX12, TX12, .int, rfl, rfl, rfl, by decide +kernel, fun E S x h => ⟨rfl, rfl⟩⟩
theorem fl_12_438 : Fl RX12 438 1 88 (0, 0, 30) := ⟨12, 138, fs_1, RX12, TX12, rfl, rfl, by decide, rfl, by decide, rfl, cf12, (tbg sg7 219 rfl rfl)⟩
theorem fp_12_438 : Fp RX12 438 1 88 (0, 0, 30) := ⟨fl_12_438, 12, 138, fs_1, RX12, TX12, .int, rfl, rfl, rfl, by decide +kernel, fun E S x h => ⟨rfl, rfl⟩⟩
theorem fl_12_441 : Fl RX12 441 1 90 (0, (-1), 2) := ⟨12, 138, fs_1, RX12, TX12, rfl, rfl, by decide, rfl, by decide, rfl, cf12, (tbg sg7 221 rfl rfl)⟩
theorem fp_12_441 : Fp RX12 441 1 90 (0, (-1), 2) := ⟨fl_12_441, 12, 138, fs_1, RX12, TX12, .int, rfl, rfl, rfl, by decide +kernel, fun E S x h => ⟨rfl, rfl⟩⟩
theorem fl_12_444 : Fl RX12 444 1 91 (0, 0, 1) := ⟨12, 138, fs_1, RX12, TX12, rfl, rfl, by decide, rfl, by decide, rfl, cf12, (tbg sg7 222 rfl rfl)⟩
theorem fp_12_444 : Fp RX12 444 1 91 (0, 0, 1) := ⟨fl_12_444, 12, 138, fs_1, RX12, TX12, .boolean, rfl, rfl, rfl, by decide +kernel, fun E S x h => zfit h⟩
theorem fl_12_448 : Fl RX12 448 1 92 (0, 0, 1) := ⟨12, 138, fs_1, RX12, TX12, rfl, rfl, by decide, rfl, by decide, rfl, cf12, (tbg sg7 223 rfl rfl)⟩
theorem fp_12_448 : Fp RX12 448 1 92 (0, 0, 1) := ⟨fl_12_448, 12, 138, fs_1, RX12, TX12, .boolean, rfl, rfl, rfl, by decide +kernel, fun E S x h => zfit h⟩
theorem fl_12_484 : Fl RX12 484 1 76 (0, 0, 400) := ⟨12, 138, fs_1, RX12, TX12, rfl, rfl, by decide, rfl, by decide, rfl, cf12, (tbg sg7 207 rfl rfl)⟩
theorem fp_12_484 : Fp RX12 484 1 76 (0, 0, 400) := ⟨fl_12_484, 12, 138, fs_1, RX12, TX12, .int, rfl, rfl, rfl, by decide +kernel, fun E S x h => ⟨rfl, rfl⟩⟩
theorem fl_12_490 : Fl RX12 490 1 9 (0, 0, 16) := ⟨12, 138, fs_1, RX12, TX12, rfl, rfl, by decide, rfl, by decide, rfl, cf12, (tbg sg7 140 rfl rfl)⟩
theorem fp_12_490 : Fp RX12 490 1 9 (0, 0, 16) := ⟨fl_12_490, 12, 138, fs_1, RX12, TX12, .int, rfl, rfl, rfl, by decide +kernel, fun E S x h => ⟨rfl, rfl⟩⟩
theorem fl_12_496 : Fl RX12 496 1 10 (0, 0, 60) := ⟨12, 138, fs_1, RX12, TX12, rfl, rfl, by decide, rfl, by decide, rfl, cf12, (tbg sg7 141 rfl rfl)⟩
theorem fp_12_496 : Fp RX12 496 1 10 (0, 0, 60) := ⟨fl_12_496, 12, 138, fs_1, RX12, TX12, .int, rfl, rfl, rfl, by decide +kernel, fun E S x h => ⟨rfl, rfl⟩⟩
theorem fl_12_566 : Fl RX12 566 1 120 (0, (-2147483648), 2147483647) := ⟨12, 138, fs_1, RX12, TX12, rfl, rfl, by decide, rfl, by decide, rfl, cf12, (tbg sg8 11 rfl rfl)⟩
theorem fp_12_566 : Fp RX12 566 1 120 (0, (-2147483648), 2147483647) := ⟨fl_12_566, 12, 138, fs_1, RX12, TX12, .int, rfl, rfl, rfl, by decide +kernel, fun E S x h => ⟨rfl, rfl⟩⟩
theorem fl_12_615 : Fl RX12 615 1 122 (1, (-9223372036854775808), 9223372036854775807) := ⟨12, 138, fs_1, RX12, TX12, rfl, rfl, by decide, rfl, by decide, rfl, cf12, (tbg sg8 13 rfl rfl)⟩
theorem fp_12_615 : Fp RX12 615 1 122 (1, (-9223372036854775808), 9223372036854775807) := ⟨fl_12_615, 12, 138, fs_1, RX12, TX12, .long, rfl, rfl, rfl, by decide +kernel, fun E S x h => ⟨rfl, rfl⟩⟩
theorem fl_12_618 : Fl RX12 618 1 124 (1, (-9223372036854775808), 9223372036854775807) := ⟨12, 138, fs_1, RX12, TX12, rfl, rfl, by decide, rfl, by decide, rfl, cf12, (tbg sg8 15 rfl rfl)⟩
theorem fp_12_618 : Fp RX12 618 1 124 (1, (-9223372036854775808), 9223372036854775807) := ⟨fl_12_618, 12, 138, fs_1, RX12, TX12, .long, rfl, rfl, rfl, by decide +kernel, fun E S x h => ⟨rfl, rfl⟩⟩
theorem fl_12_621 : Fl RX12 621 1 123 (1, (-9223372036854775808), 9223372036854775807) := ⟨12, 138, fs_1, RX12, TX12, rfl, rfl, by decide, rfl, by decide, rfl, cf12, (tbg sg8 14 rfl rfl)⟩
theorem fp_12_621 : Fp RX12 621 1 123 (1, (-9223372036854775808), 9223372036854775807) := ⟨fl_12_621, 12, 138, fs_1, RX12, TX12, .long, rfl, rfl, rfl, by decide +kernel, fun E S x h => ⟨rfl, rfl⟩⟩
theorem fl_12_628 : Fl RX12 628 1 11 (0, 0, 10) := ⟨12, 138, fs_1, RX12, TX12, rfl, rfl, by decide, rfl, by decide, rfl, cf12, (tbg sg7 142 rfl rfl)⟩
theorem fp_12_628 : Fp RX12 628 1 11 (0, 0, 10) := ⟨fl_12_628, 12, 138, fs_1, RX12, TX12, .int, rfl, rfl, rfl, by decide +kernel, fun E S x h => ⟨rfl, rfl⟩⟩
theorem fl_12_635 : Fl RX12 635 1 133 (1, (-9223372036854775808), 9223372036854775807) := ⟨12, 138, fs_1, RX12, TX12, rfl, rfl, by decide, rfl, by decide, rfl, cf12, (tbg sg8 24 rfl rfl)⟩
theorem fp_12_635 : Fp RX12 635 1 133 (1, (-9223372036854775808), 9223372036854775807) := ⟨fl_12_635, 12, 138, fs_1, RX12, TX12, .long, rfl, rfl, rfl, by decide +kernel, fun E S x h => ⟨rfl, rfl⟩⟩
theorem fl_12_638 : Fl RX12 638 1 134 (1, (-9223372036854775808), 9223372036854775807) := ⟨12, 138, fs_1, RX12, TX12, rfl, rfl, by decide, rfl, by decide, rfl, cf12, (tbg sg8 25 rfl rfl)⟩
theorem fp_12_638 : Fp RX12 638 1 134 (1, (-9223372036854775808), 9223372036854775807) := ⟨fl_12_638, 12, 138, fs_1, RX12, TX12, .long, rfl, rfl, rfl, by decide +kernel, fun E S x h => ⟨rfl, rfl⟩⟩
theorem fl_12_644 : Fl RX12 644 1 135 (0, 0, 1) := ⟨12, 138, fs_1, RX12, TX12, rfl, rfl, by decide, rfl, by decide, rfl, cf12, (tbg sg8 26 rfl rfl)⟩
theorem fp_12_644 : Fp RX12 644 1 135 (0, 0, 1) := ⟨fl_12_644, 12, 138, fs_1, RX12, TX12, .boolean, rfl, rfl, rfl, by decide +kernel, fun E S x h => zfit h⟩
theorem fl_12_649 : Fl RX12 649 1 136 (1, (-9223372036854775808), 9223372036854775807) := ⟨12, 138, fs_1, RX12, TX12, rfl, rfl, by decide, rfl, by decide, rfl, cf12, (tbg sg8 27 rfl rfl)⟩
theorem fp_12_649 : Fp RX12 649 1 136 (1, (-9223372036854775808), 9223372036854775807) := ⟨fl_12_649, 12, 138, fs_1, RX12, TX12, .long, rfl, rfl, rfl, by decide +kernel, fun E S x h => ⟨rfl, rfl⟩⟩
theorem fl_12_652 : Fl RX12 652 1 137 (1, (-9223372036854775808), 9223372036854775807) := ⟨12, 138, fs_1, RX12, TX12, rfl, rfl, by decide, rfl, by decide, rfl, cf12, (tbg sg8 28 rfl rfl)⟩
theorem fp_12_652 : Fp RX12 652 1 137 (1, (-9223372036854775808), 9223372036854775807) := ⟨fl_12_652, 12, 138, fs_1, RX12, TX12, .long, rfl, rfl, rfl, by decide +kernel, fun E S x h => ⟨rfl, rfl⟩⟩
theorem fl_12_655 : Fl RX12 655 1 128 (0, (-1), 19) := ⟨12, 138, fs_1, RX12, TX12, rfl, rfl, by decide, rfl, by decide, rfl, cf12, (tbg sg8 19 rfl rfl)⟩
theorem fp_12_655 : Fp RX12 655 1 128 (0, (-1), 19) := ⟨fl_12_655, 12, 138, fs_1, RX12, TX12, .int, rfl, rfl, rfl, by decide +kernel, fun E S x h => ⟨rfl, rfl⟩⟩
theorem fl_12_662 : Fl RX12 662 1 131 (1, (-9223372036854775808), 9223372036854775807) := ⟨12, 138, fs_1, RX12, TX12, rfl, rfl, by decide, rfl, by decide, rfl, cf12, (tbg sg8 22 rfl rfl)⟩
theorem fp_12_662 : Fp RX12 662 1 131 (1, (-9223372036854775808), 9223372036854775807) := ⟨fl_12_662, 12, 138, fs_1, RX12, TX12, .long, rfl, rfl, rfl, by decide +kernel, fun E S x h => ⟨rfl, rfl⟩⟩
theorem fl_12_665 : Fl RX12 665 1 132 (1, (-9223372036854775808), 9223372036854775807) := ⟨12, 138, fs_1, RX12, TX12, rfl, rfl, by decide, rfl, by decide, rfl, cf12, (tbg sg8 23 rfl rfl)⟩
theorem fp_12_665 : Fp RX12 665 1 132 (1, (-9223372036854775808), 9223372036854775807) := ⟨fl_12_665, 12, 138, fs_1, RX12, TX12, .long, rfl, rfl, rfl, by decide +kernel, fun E S x h => ⟨rfl, rfl⟩⟩
theorem fl_12_672 : Fl RX12 672 1 129 (1, (-9223372036854775808), 9223372036854775807) := ⟨12, 138, fs_1, RX12, TX12, rfl, rfl, by decide, rfl, by decide, rfl, cf12, (tbg sg8 20 rfl rfl)⟩
theorem fp_12_672 : Fp RX12 672 1 129 (1, (-9223372036854775808), 9223372036854775807) := ⟨fl_12_672, 12, 138, fs_1, RX12, TX12, .long, rfl, rfl, rfl, by decide +kernel, fun E S x h => ⟨rfl, rfl⟩⟩
theorem fl_12_675 : Fl RX12 675 1 130 (1, (-9223372036854775808), 9223372036854775807) := ⟨12, 138, fs_1, RX12, TX12, rfl, rfl, by decide, rfl, by decide, rfl, cf12, (tbg sg8 21 rfl rfl)⟩
theorem fp_12_675 : Fp RX12 675 1 130 (1, (-9223372036854775808), 9223372036854775807) := ⟨fl_12_675, 12, 138, fs_1, RX12, TX12, .long, rfl, rfl, rfl, by decide +kernel, fun E S x h => ⟨rfl, rfl⟩⟩
theorem fl_12_690 : Fl RX12 690 1 4 (1, (-9223372036854775808), 9223372036854775807) := ⟨12, 138, fs_1, RX12, TX12, rfl, rfl, by decide, rfl, by decide, rfl, cf12, (tbg sg7 135 rfl rfl)⟩
theorem fp_12_690 : Fp RX12 690 1 4 (1, (-9223372036854775808), 9223372036854775807) := ⟨fl_12_690, 12, 138, fs_1, RX12, TX12, .long, rfl, rfl, rfl, by decide +kernel, fun E S x h => ⟨rfl, rfl⟩⟩
theorem fl_12_698 : Fl RX12 698 1 12 (0, 0, 60) := ⟨12, 138, fs_1, RX12, TX12, rfl, rfl, by decide, rfl, by decide, rfl, cf12, (tbg sg7 143 rfl rfl)⟩
theorem fp_12_698 : Fp RX12 698 1 12 (0, 0, 60) := ⟨fl_12_698, 12, 138, fs_1, RX12, TX12, .int, rfl, rfl, rfl, by decide +kernel, fun E S x h => ⟨rfl, rfl⟩⟩
theorem fl_12_704 : Fl RX12 704 1 13 (0, 0, 12) := ⟨12, 138, fs_1, RX12, TX12, rfl, rfl, by decide, rfl, by decide, rfl, cf12, (tbg sg7 144 rfl rfl)⟩
theorem fp_12_704 : Fp RX12 704 1 13 (0, 0, 12) := ⟨fl_12_704, 12, 138, fs_1, RX12, TX12, .int, rfl, rfl, rfl, by decide +kernel, fun E S x h => ⟨rfl, rfl⟩⟩
theorem fl_12_719 : Fl RX12 719 1 74 (0, (-2147483648), 2147483647) := ⟨12, 138, fs_1, RX12, TX12, rfl, rfl, by decide, rfl, by decide, rfl, cf12, (tbg sg7 205 rfl rfl)⟩
theorem fp_12_719 : Fp RX12 719 1 74 (0, (-2147483648), 2147483647) := ⟨fl_12_719, 12, 138, fs_1, RX12, TX12, .int, rfl, rfl, rfl, by decide +kernel, fun E S x h => ⟨rfl, rfl⟩⟩
theorem al_2 : Al 2 0 20 (0, (-1), 19) := ⟨rfl, by decide, by decide⟩
theorem al_3 : Al 3 0 20 (0, 0, 30) := ⟨rfl, by decide, by decide⟩
theorem al_4 : Al 4 0 20 (0, 0, 30) := ⟨rfl, by decide, by decide⟩
theorem al_5 : Al 5 0 40 (0, 0, 19) := ⟨rfl, by decide, by decide⟩
theorem al_6 : Al 6 0 40 (0, 0, 19) := ⟨rfl, by decide, by decide⟩
theorem al_7 : Al 7 0 40 (0, 0, 40000) := ⟨rfl, by decide, by decide⟩
theorem al_8 : Al 8 0 40 (0, 0, 1000000) := ⟨rfl, by decide, by decide⟩
theorem al_9 : Al 9 0 40 (0, 0, 100000000) := ⟨rfl, by decide, by decide⟩
theorem al_10 : Al 10 0 40 (0, 0, 40000) := ⟨rfl, by decide, by decide⟩
theorem al_11 : Al 11 0 40 (0, 0, 19) := ⟨rfl, by decide, by decide⟩
theorem al_12 : Al 12 0 40 (0, 0, 19) := ⟨rfl, by decide, by decide⟩
theorem al_13 : Al 13 0 40 (0, 0, 19) := ⟨rfl, by decide, by decide⟩
theorem al_14 : Al 14 0 40 (0, 0, 1000000) := ⟨rfl, by decide, by decide⟩
theorem al_15 : Al 15 0 40 (0, 0, 40000) := ⟨rfl, by decide, by decide⟩
theorem al_16 : Al 16 0 40 (0, 0, 40000) := ⟨rfl, by decide, by decide⟩
theorem al_17 : Al 17 0 40 (0, 0, 40000) := ⟨rfl, by decide, by decide⟩
theorem al_18 : Al 18 0 40 (0, 0, 1000000000) := ⟨rfl, by decide, by decide⟩
theorem al_19 : Al 19 3 40 (0, 0, 1) := ⟨rfl, by decide, by decide⟩
theorem al_20 : Al 20 0 16 (0, 0, 19) := ⟨rfl, by decide, by decide⟩
theorem al_21 : Al 21 0 16 (0, 0, 40000) := ⟨rfl, by decide, by decide⟩
theorem al_22 : Al 22 0 16 (0, 0, 40000) := ⟨rfl, by decide, by decide⟩
theorem al_23 : Al 23 0 16 (0, 0, 40000) := ⟨rfl, by decide, by decide⟩
theorem al_24 : Al 24 0 16 (0, 0, 40000) := ⟨rfl, by decide, by decide⟩
theorem al_25 : Al 25 0 16 (0, 0, 1000000000) := ⟨rfl, by decide, by decide⟩
theorem al_26 : Al 26 0 16 (0, 0, 30) := ⟨rfl, by decide, by decide⟩
theorem al_27 : Al 27 0 16 (0, 0, 3) := ⟨rfl, by decide, by decide⟩
theorem al_28 : Al 28 0 16 (0, (-1), 2) := ⟨rfl, by decide, by decide⟩
theorem al_29 : Al 29 0 480 (0, 0, 9) := ⟨rfl, by decide, by decide⟩
theorem al_30 : Al 30 0 480 (0, (-3), 9999999) := ⟨rfl, by decide, by decide⟩
theorem al_31 : Al 31 0 480 (0, 0, 1000) := ⟨rfl, by decide, by decide⟩
theorem al_32 : Al 32 0 480 (0, 0, 19) := ⟨rfl, by decide, by decide⟩
theorem al_33 : Al 33 0 480 (0, 0, 30) := ⟨rfl, by decide, by decide⟩
theorem al_34 : Al 34 0 480 (0, 0, 30) := ⟨rfl, by decide, by decide⟩
theorem al_35 : Al 35 0 48 (0, 0, 30) := ⟨rfl, by decide, by decide⟩
theorem al_36 : Al 36 0 48 (0, (-1), 9999999) := ⟨rfl, by decide, by decide⟩
theorem al_37 : Al 37 0 48 (0, (-1), 9999999) := ⟨rfl, by decide, by decide⟩
theorem al_38 : Al 38 0 60 (0, 0, 15) := ⟨rfl, by decide, by decide⟩
theorem al_39 : Al 39 0 60 (0, 0, 19) := ⟨rfl, by decide, by decide⟩
theorem al_40 : Al 40 0 60 (0, 0, 2) := ⟨rfl, by decide, by decide⟩
theorem al_41 : Al 41 0 60 (0, 0, 40000) := ⟨rfl, by decide, by decide⟩
theorem al_42 : Al 42 0 60 (0, 0, 40000) := ⟨rfl, by decide, by decide⟩
theorem al_43 : Al 43 0 60 (0, 0, 1000000000) := ⟨rfl, by decide, by decide⟩
theorem al_44 : Al 44 0 10 (0, 0, 19) := ⟨rfl, by decide, by decide⟩
theorem al_45 : Al 45 0 10 (0, 0, 40000) := ⟨rfl, by decide, by decide⟩
theorem al_46 : Al 46 0 10 (0, 0, 1000000) := ⟨rfl, by decide, by decide⟩
theorem al_47 : Al 47 0 10 (0, 0, 10000) := ⟨rfl, by decide, by decide⟩
theorem al_48 : Al 48 0 10 (0, 0, 40000) := ⟨rfl, by decide, by decide⟩
theorem al_49 : Al 49 0 20 (0, 0, 100000) := ⟨rfl, by decide, by decide⟩
theorem al_50 : Al 50 0 60 (0, 0, 19) := ⟨rfl, by decide, by decide⟩
theorem al_51 : Al 51 0 60 (0, 0, 9999) := ⟨rfl, by decide, by decide⟩
theorem al_52 : Al 52 0 60 (0, 0, 40000) := ⟨rfl, by decide, by decide⟩
theorem al_53 : Al 53 0 60 (0, 0, 40000) := ⟨rfl, by decide, by decide⟩
theorem al_54 : Al 54 0 12 (0, 0, 19) := ⟨rfl, by decide, by decide⟩
theorem al_55 : Al 55 0 12 (0, 0, 19) := ⟨rfl, by decide, by decide⟩
theorem al_56 : Al 56 0 12 (0, 0, 40000) := ⟨rfl, by decide, by decide⟩
theorem al_57 : Al 57 0 12 (0, 0, 1000) := ⟨rfl, by decide, by decide⟩
theorem al_58 : Al 58 0 12 (0, 0, 1000) := ⟨rfl, by decide, by decide⟩
theorem al_59 : Al 59 0 12 (0, 0, 11) := ⟨rfl, by decide, by decide⟩
theorem al_60 : Al 60 3 12 (0, 0, 1) := ⟨rfl, by decide, by decide⟩
theorem al_61 : Al 61 2 400 (0, (-128), 127) := ⟨rfl, by decide, by decide⟩
theorem al_62 : Al 62 1 3 (1, (-9223372036854775808), 9223372036854775807) := ⟨rfl, by decide, by decide⟩
theorem al_63 : Al 63 0 30 (0, 0, 9) := ⟨rfl, by decide, by decide⟩
theorem al_64 : Al 64 0 30 (0, (-3), 9999999) := ⟨rfl, by decide, by decide⟩
theorem al_65 : Al 65 0 30 (0, 0, 1000) := ⟨rfl, by decide, by decide⟩
theorem al_66 : Al 66 0 30 (0, 0, 19) := ⟨rfl, by decide, by decide⟩
theorem al_67 : Al 67 0 30 (0, 0, 30) := ⟨rfl, by decide, by decide⟩
theorem al_68 : Al 68 0 30 (0, 0, 30) := ⟨rfl, by decide, by decide⟩
theorem al_69 : Al 69 0 3 (0, 0, 30) := ⟨rfl, by decide, by decide⟩
theorem al_70 : Al 70 0 3 (0, (-1), 9999999) := ⟨rfl, by decide, by decide⟩
theorem al_71 : Al 71 0 3 (0, (-1), 9999999) := ⟨rfl, by decide, by decide⟩
theorem al_72 : Al 72 1 400 (1, (-9223372036854775808), 9223372036854775807) := ⟨rfl, by decide, by decide⟩
theorem al_73 : Al 73 1 400 (1, (-9223372036854775808), 9223372036854775807) := ⟨rfl, by decide, by decide⟩
theorem al_74 : Al 74 1 20 (1, (-9223372036854775808), 9223372036854775807) := ⟨rfl, by decide, by decide⟩
theorem al_75 : Al 75 1 20 (1, (-9223372036854775808), 9223372036854775807) := ⟨rfl, by decide, by decide⟩
theorem al_76 : Al 76 1 20 (1, (-9223372036854775808), 9223372036854775807) := ⟨rfl, by decide, by decide⟩
theorem al_77 : Al 77 1 80 (1, (-9223372036854775808), 9223372036854775807) := ⟨rfl, by decide, by decide⟩
theorem al_78 : Al 78 1 60 (1, (-9223372036854775808), 9223372036854775807) := ⟨rfl, by decide, by decide⟩
theorem al_79 : Al 79 1 400 (1, (-9223372036854775808), 9223372036854775807) := ⟨rfl, by decide, by decide⟩
theorem al_80 : Al 80 1 20 (1, (-9223372036854775808), 9223372036854775807) := ⟨rfl, by decide, by decide⟩
theorem al_81 : Al 81 1 20 (1, (-9223372036854775808), 9223372036854775807) := ⟨rfl, by decide, by decide⟩
theorem al_82 : Al 82 1 20 (1, (-9223372036854775808), 9223372036854775807) := ⟨rfl, by decide, by decide⟩
theorem al_83 : Al 83 1 20 (1, (-9223372036854775808), 9223372036854775807) := ⟨rfl, by decide, by decide⟩
theorem al_84 : Al 84 1 20 (1, (-9223372036854775808), 9223372036854775807) := ⟨rfl, by decide, by decide⟩
theorem al_85 : Al 85 1 80 (1, (-9223372036854775808), 9223372036854775807) := ⟨rfl, by decide, by decide⟩
theorem al_86 : Al 86 1 20 (1, (-9223372036854775808), 9223372036854775807) := ⟨rfl, by decide, by decide⟩
theorem al_87 : Al 87 0 20 (0, (-1), 2) := ⟨rfl, by decide, by decide⟩
theorem al_88 : Al 88 0 20 (0, (-1), 19) := ⟨rfl, by decide, by decide⟩
theorem al_89 : Al 89 1 20 (1, (-9223372036854775808), 9223372036854775807) := ⟨rfl, by decide, by decide⟩
theorem al_90 : Al 90 1 21 (1, (-9223372036854775808), 9223372036854775807) := ⟨rfl, by decide, by decide⟩
theorem al_91 : Al 91 1 21 (1, (-9223372036854775808), 9223372036854775807) := ⟨rfl, by decide, by decide⟩
theorem al_92 : Al 92 3 20 (0, 0, 1) := ⟨rfl, by decide, by decide⟩
theorem co_X12_isIn : Co mX12_isIn 3 := ⟨(tbg sg9 79 rfl rfl), (tbg sg1 10 rfl rfl), by decide, by decide, by decide +kernel, by decide⟩
theorem cs_12_310 : Cs RX12 310 mX12_isIn 3 := ⟨co_X12_isIn, (tbg sg9 77 rfl rfl), (tbg sg9 78 rfl rfl)⟩
theorem co_X12_isDay : Co mX12_isDay 1 := ⟨(tbg sg9 76 rfl rfl), (tbg sg1 10 rfl rfl), by decide, by decide, by decide +kernel, by decide⟩
theorem cs_12_317 : Cs RX12 317 mX12_isDay 1 := ⟨co_X12_isDay, (tbg sg9 74 rfl rfl), (tbg sg9 75 rfl rfl)⟩
theorem co_X12_no : Co mX12_no 1 := ⟨(tbg sg9 83 rfl rfl), (tbg sg1 10 rfl rfl), by decide, by decide, by decide +kernel, by decide⟩
theorem cv_12_321 : Cv RX12 321 mX12_no 1 1 := ⟨co_X12_no, (tbg sg9 80 rfl rfl), (tbg sg9 82 rfl rfl), 12, 138, fs_1, RX12, TX12, rfl, by decide, rfl, (tbm 81 (by decide +kernel) rfl)⟩
theorem co_X12_isAccount : Co mX12_isAccount 1 := ⟨(tbg sg9 91 rfl rfl), (tbg sg1 10 rfl rfl), by decide, by decide, by decide +kernel, by decide⟩
theorem cv_12_324 : Cv RX12 324 mX12_isAccount 1 1 := ⟨co_X12_isAccount, (tbg sg9 88 rfl rfl), (tbg sg9 90 rfl rfl), 12, 138, fs_1, RX12, TX12, rfl, by decide, rfl, (tbm 82 (by decide +kernel) rfl)⟩
theorem co_X12_refuse : Co mX12_refuse 1 := ⟨(tbg sg9 95 rfl rfl), (tbg sg1 10 rfl rfl), by decide, by decide, by decide +kernel, by decide⟩
theorem cv_12_327 : Cv RX12 327 mX12_refuse 1 1 := ⟨co_X12_refuse, (tbg sg9 92 rfl rfl), (tbg sg9 94 rfl rfl), 12, 138, fs_1, RX12, TX12, rfl, by decide, rfl, (tbm 83 (by decide +kernel) rfl)⟩
theorem co_X12_isPaper : Co mX12_isPaper 1 := ⟨(tbg sg9 102 rfl rfl), (tbg sg1 10 rfl rfl), by decide, by decide, by decide +kernel, by decide⟩
theorem cs_12_331 : Cs RX12 331 mX12_isPaper 1 := ⟨co_X12_isPaper, (tbg sg9 100 rfl rfl), (tbg sg9 101 rfl rfl)⟩
theorem co_X12_look : Co mX12_look 1 := ⟨(tbg sg9 129 rfl rfl), (tbg sg1 10 rfl rfl), by decide, by decide, by decide +kernel, by decide⟩
theorem cv_12_355 : Cv RX12 355 mX12_look 1 1 := ⟨co_X12_look, (tbg sg9 126 rfl rfl), (tbg sg9 128 rfl rfl), 12, 138, fs_1, RX12, TX12, rfl, by decide, rfl, (tbm 86 (by decide +kernel) rfl)⟩
theorem co_X12_isLetter : Co mX12_isLetter 1 := ⟨(tbg sg9 132 rfl rfl), (tbg sg1 10 rfl rfl), by decide, by decide, by decide +kernel, by decide⟩
theorem cs_12_361 : Cs RX12 361 mX12_isLetter 1 := ⟨co_X12_isLetter, (tbg sg9 130 rfl rfl), (tbg sg9 131 rfl rfl)⟩
theorem co_X12_isDigit : Co mX12_isDigit 1 := ⟨(tbg sg9 138 rfl rfl), (tbg sg1 10 rfl rfl), by decide, by decide, by decide +kernel, by decide⟩
theorem cs_12_376 : Cs RX12 376 mX12_isDigit 1 := ⟨co_X12_isDigit, (tbg sg9 136 rfl rfl), (tbg sg9 137 rfl rfl)⟩
theorem co_X12_fail : Co mX12_fail 2 := ⟨(tbg sg9 177 rfl rfl), (tbg sg1 10 rfl rfl), by decide, by decide, by decide +kernel, by decide⟩
theorem cv_12_388 : Cv RX12 388 mX12_fail 1 2 := ⟨co_X12_fail, (tbg sg9 174 rfl rfl), (tbg sg9 176 rfl rfl), 12, 138, fs_1, RX12, TX12, rfl, by decide, rfl, (tbm 94 (by decide +kernel) rfl)⟩
theorem co_X12_isSign : Co mX12_isSign 1 := ⟨(tbg sg9 146 rfl rfl), (tbg sg1 10 rfl rfl), by decide, by decide, by decide +kernel, by decide⟩
theorem cv_12_392 : Cv RX12 392 mX12_isSign 1 1 := ⟨co_X12_isSign, (tbg sg9 143 rfl rfl), (tbg sg9 145 rfl rfl), 12, 138, fs_1, RX12, TX12, rfl, by decide, rfl, (tbm 88 (by decide +kernel) rfl)⟩
theorem co_X12_wrong : Co mX12_wrong 0 := ⟨(tbg sg9 173 rfl rfl), (tbg sg1 10 rfl rfl), by decide, by decide, by decide +kernel, by decide⟩
theorem cv_12_395 : Cv RX12 395 mX12_wrong 1 0 := ⟨co_X12_wrong, (tbg sg9 170 rfl rfl), (tbg sg9 172 rfl rfl), 12, 138, fs_1, RX12, TX12, rfl, by decide, rfl, (tbm 93 (by decide +kernel) rfl)⟩
theorem co_X12_next : Co mX12_next 0 := ⟨(tbg sg9 125 rfl rfl), (tbg sg1 10 rfl rfl), by decide, by decide, by decide +kernel, by decide⟩
theorem cv_12_398 : Cv RX12 398 mX12_next 1 0 := ⟨co_X12_next, (tbg sg9 122 rfl rfl), (tbg sg9 124 rfl rfl), 12, 138, fs_1, RX12, TX12, rfl, by decide, rfl, (tbm 85 (by decide +kernel) rfl)⟩
theorem co_X12_isWord : Co mX12_isWord 1 := ⟨(tbg sg9 161 rfl rfl), (tbg sg1 10 rfl rfl), by decide, by decide, by decide +kernel, by decide⟩
theorem cv_12_401 : Cv RX12 401 mX12_isWord 1 1 := ⟨co_X12_isWord, (tbg sg9 158 rfl rfl), (tbg sg9 160 rfl rfl), 12, 138, fs_1, RX12, TX12, rfl, by decide, rfl, (tbm 91 (by decide +kernel) rfl)⟩
theorem co_X12_spelled : Co mX12_spelled 6 := ⟨(tbg sg9 157 rfl rfl), (tbg sg1 10 rfl rfl), by decide, by decide, by decide +kernel, by decide⟩
theorem cs_12_405 : Cs RX12 405 mX12_spelled 6 := ⟨co_X12_spelled, (tbg sg9 155 rfl rfl), (tbg sg9 156 rfl rfl)⟩
theorem co_X12_isFraction : Co mX12_isFraction 0 := ⟨(tbg sg9 165 rfl rfl), (tbg sg1 10 rfl rfl), by decide, by decide, by decide +kernel, by decide⟩
theorem cv_12_409 : Cv RX12 409 mX12_isFraction 1 0 := ⟨co_X12_isFraction, (tbg sg9 162 rfl rfl), (tbg sg9 164 rfl rfl), 12, 138, fs_1, RX12, TX12, rfl, by decide, rfl, (tbm 92 (by decide +kernel) rfl)⟩
theorem co_X12_readClause : Co mX12_readClause 2 := ⟨(tbg sg9 150 rfl rfl), (tbg sg1 10 rfl rfl), by decide, by decide, by decide +kernel, by decide⟩
theorem cv_12_424 : Cv RX12 424 mX12_readClause 1 2 := ⟨co_X12_readClause, (tbg sg9 147 rfl rfl), (tbg sg9 149 rfl rfl), 12, 138, fs_1, RX12, TX12, rfl, by decide, rfl, (tbm 89 (by decide +kernel) rfl)⟩
theorem co_X12_sign : Co mX12_sign 1 := ⟨(tbg sg9 198 rfl rfl), (tbg sg1 10 rfl rfl), by decide, by decide, by decide +kernel, by decide⟩
theorem cv_12_427 : Cv RX12 427 mX12_sign 1 1 := ⟨co_X12_sign, (tbg sg9 195 rfl rfl), (tbg sg9 197 rfl rfl), 12, 138, fs_1, RX12, TX12, rfl, by decide, rfl, (tbm 99 (by decide +kernel) rfl)⟩
theorem co_X12_readAll : Co mX12_readAll 2 := ⟨(tbg sg9 142 rfl rfl), (tbg sg1 10 rfl rfl), by decide, by decide, by decide +kernel, by decide⟩
theorem cv_12_431 : Cv RX12 431 mX12_readAll 1 2 := ⟨co_X12_readAll, (tbg sg9 139 rfl rfl), (tbg sg9 141 rfl rfl), 12, 138, fs_1, RX12, TX12, rfl, by decide, rfl, (tbm 87 (by decide +kernel) rfl)⟩
theorem co_X12_clauseKind : Co mX12_clauseKind 0 := ⟨(tbg sg9 154 rfl rfl), (tbg sg1 10 rfl rfl), by decide, by decide, by decide +kernel, by decide⟩
theorem cv_12_434 : Cv RX12 434 mX12_clauseKind 1 0 := ⟨co_X12_clauseKind, (tbg sg9 151 rfl rfl), (tbg sg9 153 rfl rfl), 12, 138, fs_1, RX12, TX12, rfl, by decide, rfl, (tbm 90 (by decide +kernel) rfl)⟩
theorem co_X12_readWhen : Co mX12_readWhen 3 := ⟨(tbg sg9 181 rfl rfl), (tbg sg1 10 rfl rfl), by decide, by decide, by decide +kernel, by decide⟩
theorem cv_12_451 : Cv RX12 451 mX12_readWhen 1 3 := ⟨co_X12_readWhen, (tbg sg9 178 rfl rfl), (tbg sg9 180 rfl rfl), 12, 138, fs_1, RX12, TX12, rfl, by decide, rfl, (tbm 95 (by decide +kernel) rfl)⟩
theorem co_X12_readChoice : Co mX12_readChoice 1 := ⟨(tbg sg9 202 rfl rfl), (tbg sg1 10 rfl rfl), by decide, by decide, by decide +kernel, by decide⟩
theorem cv_12_455 : Cv RX12 455 mX12_readChoice 1 1 := ⟨co_X12_readChoice, (tbg sg9 199 rfl rfl), (tbg sg9 201 rfl rfl), 12, 138, fs_1, RX12, TX12, rfl, by decide, rfl, (tbm 100 (by decide +kernel) rfl)⟩
theorem co_X12_readPlain : Co mX12_readPlain 3 := ⟨(tbg sg9 214 rfl rfl), (tbg sg1 10 rfl rfl), by decide, by decide, by decide +kernel, by decide⟩
theorem cv_12_458 : Cv RX12 458 mX12_readPlain 1 3 := ⟨co_X12_readPlain, (tbg sg9 211 rfl rfl), (tbg sg9 213 rfl rfl), 12, 138, fs_1, RX12, TX12, rfl, by decide, rfl, (tbm 103 (by decide +kernel) rfl)⟩
theorem co_X12_count : Co mX12_count 2 := ⟨(tbg sg9 190 rfl rfl), (tbg sg1 10 rfl rfl), by decide, by decide, by decide +kernel, by decide⟩
theorem cv_12_461 : Cv RX12 461 mX12_count 1 2 := ⟨co_X12_count, (tbg sg9 187 rfl rfl), (tbg sg9 189 rfl rfl), 12, 138, fs_1, RX12, TX12, rfl, by decide, rfl, (tbm 97 (by decide +kernel) rfl)⟩
theorem co_X12_wordIs : Co mX12_wordIs 1 := ⟨(tbg sg9 185 rfl rfl), (tbg sg1 10 rfl rfl), by decide, by decide, by decide +kernel, by decide⟩
theorem cv_12_466 : Cv RX12 466 mX12_wordIs 1 1 := ⟨co_X12_wordIs, (tbg sg9 182 rfl rfl), (tbg sg9 184 rfl rfl), 12, 138, fs_1, RX12, TX12, rfl, by decide, rfl, (tbm 96 (by decide +kernel) rfl)⟩
theorem co_X12_isName : Co mX12_isName 0 := ⟨(tbg sg9 206 rfl rfl), (tbg sg1 10 rfl rfl), by decide, by decide, by decide +kernel, by decide⟩
theorem cv_12_475 : Cv RX12 475 mX12_isName 1 0 := ⟨co_X12_isName, (tbg sg9 203 rfl rfl), (tbg sg9 205 rfl rfl), 12, 138, fs_1, RX12, TX12, rfl, by decide, rfl, (tbm 101 (by decide +kernel) rfl)⟩
theorem co_X12_named : Co mX12_named 0 := ⟨(tbg sg9 210 rfl rfl), (tbg sg1 10 rfl rfl), by decide, by decide, by decide +kernel, by decide⟩
theorem cv_12_478 : Cv RX12 478 mX12_named 1 0 := ⟨co_X12_named, (tbg sg9 207 rfl rfl), (tbg sg9 209 rfl rfl), 12, 138, fs_1, RX12, TX12, rfl, by decide, rfl, (tbm 102 (by decide +kernel) rfl)⟩
theorem co_X12_braces : Co mX12_braces 2 := ⟨(tbg sg9 194 rfl rfl), (tbg sg1 10 rfl rfl), by decide, by decide, by decide +kernel, by decide⟩
theorem cv_12_481 : Cv RX12 481 mX12_braces 1 2 := ⟨co_X12_braces, (tbg sg9 191 rfl rfl), (tbg sg9 193 rfl rfl), 12, 138, fs_1, RX12, TX12, rfl, by decide, rfl, (tbm 98 (by decide +kernel) rfl)⟩
theorem co_X12_lay : Co mX12_lay 1 := ⟨(tbg sg9 117 rfl rfl), (tbg sg1 10 rfl rfl), by decide, by decide, by decide +kernel, by decide⟩
theorem cv_12_487 : Cv RX12 487 mX12_lay 1 1 := ⟨co_X12_lay, (tbg sg9 114 rfl rfl), (tbg sg9 116 rfl rfl), 12, 138, fs_1, RX12, TX12, rfl, by decide, rfl, (tbm 84 (by decide +kernel) rfl)⟩
theorem co_X12_isEvent : Co mX12_isEvent 1 := ⟨(tbg sg9 227 rfl rfl), (tbg sg1 10 rfl rfl), by decide, by decide, by decide +kernel, by decide⟩
theorem cv_12_493 : Cv RX12 493 mX12_isEvent 1 1 := ⟨co_X12_isEvent, (tbg sg9 224 rfl rfl), (tbg sg9 226 rfl rfl), 12, 138, fs_1, RX12, TX12, rfl, by decide, rfl, (tbm 104 (by decide +kernel) rfl)⟩
theorem co_X12_isKnown : Co mX12_isKnown 2 := ⟨(tbg sg10 7 rfl rfl), (tbg sg1 10 rfl rfl), by decide, by decide, by decide +kernel, by decide⟩
theorem cv_12_499 : Cv RX12 499 mX12_isKnown 1 2 := ⟨co_X12_isKnown, (tbg sg10 4 rfl rfl), (tbg sg10 6 rfl rfl), 12, 138, fs_1, RX12, TX12, rfl, by decide, rfl, (tbm 106 (by decide +kernel) rfl)⟩
theorem co_X12_daysUp : Co mX12_daysUp 1 := ⟨(tbg sg10 23 rfl rfl), (tbg sg1 10 rfl rfl), by decide, by decide, by decide +kernel, by decide⟩
theorem cv_12_503 : Cv RX12 503 mX12_daysUp 1 1 := ⟨co_X12_daysUp, (tbg sg10 20 rfl rfl), (tbg sg10 22 rfl rfl), 12, 138, fs_1, RX12, TX12, rfl, by decide, rfl, (tbm 110 (by decide +kernel) rfl)⟩
theorem co_X12_sayCounts : Co mX12_sayCounts 1 := ⟨(tbg sg10 15 rfl rfl), (tbg sg1 10 rfl rfl), by decide, by decide, by decide +kernel, by decide⟩
theorem cv_12_506 : Cv RX12 506 mX12_sayCounts 1 1 := ⟨co_X12_sayCounts, (tbg sg10 12 rfl rfl), (tbg sg10 14 rfl rfl), 12, 138, fs_1, RX12, TX12, rfl, by decide, rfl, (tbm 108 (by decide +kernel) rfl)⟩
theorem co_X12_inTime : Co mX12_inTime 1 := ⟨(tbg sg10 19 rfl rfl), (tbg sg1 10 rfl rfl), by decide, by decide, by decide +kernel, by decide⟩
theorem cv_12_509 : Cv RX12 509 mX12_inTime 1 1 := ⟨co_X12_inTime, (tbg sg10 16 rfl rfl), (tbg sg10 18 rfl rfl), 12, 138, fs_1, RX12, TX12, rfl, by decide, rfl, (tbm 109 (by decide +kernel) rfl)⟩
theorem co_X12_eventCounts : Co mX12_eventCounts 1 := ⟨(tbg sg10 3 rfl rfl), (tbg sg1 10 rfl rfl), by decide, by decide, by decide +kernel, by decide⟩
theorem cv_12_512 : Cv RX12 512 mX12_eventCounts 1 1 := ⟨co_X12_eventCounts, (tbg sg10 0 rfl rfl), (tbg sg10 2 rfl rfl), 12, 138, fs_1, RX12, TX12, rfl, by decide, rfl, (tbm 105 (by decide +kernel) rfl)⟩
theorem co_X12_chosenOf : Co mX12_chosenOf 2 := ⟨(tbg sg10 11 rfl rfl), (tbg sg1 10 rfl rfl), by decide, by decide, by decide +kernel, by decide⟩
theorem cv_12_515 : Cv RX12 515 mX12_chosenOf 1 2 := ⟨co_X12_chosenOf, (tbg sg10 8 rfl rfl), (tbg sg10 10 rfl rfl), 12, 138, fs_1, RX12, TX12, rfl, by decide, rfl, (tbm 107 (by decide +kernel) rfl)⟩
theorem co_X12_leadsUp : Co mX12_leadsUp 1 := ⟨(tbg sg10 31 rfl rfl), (tbg sg1 10 rfl rfl), by decide, by decide, by decide +kernel, by decide⟩
theorem cv_12_518 : Cv RX12 518 mX12_leadsUp 1 1 := ⟨co_X12_leadsUp, (tbg sg10 28 rfl rfl), (tbg sg10 30 rfl rfl), 12, 138, fs_1, RX12, TX12, rfl, by decide, rfl, (tbm 111 (by decide +kernel) rfl)⟩
theorem co_X12_sumUp : Co mX12_sumUp 0 := ⟨(tbg sg10 76 rfl rfl), (tbg sg1 10 rfl rfl), by decide, by decide, by decide +kernel, by decide⟩
theorem cv_12_521 : Cv RX12 521 mX12_sumUp 1 0 := ⟨co_X12_sumUp, (tbg sg10 73 rfl rfl), (tbg sg10 75 rfl rfl), 12, 138, fs_1, RX12, TX12, rfl, by decide, rfl, (tbm 121 (by decide +kernel) rfl)⟩
theorem co_X12_partOne : Co mX12_partOne 1 := ⟨(tbg sg10 88 rfl rfl), (tbg sg1 10 rfl rfl), by decide, by decide, by decide +kernel, by decide⟩
theorem cv_12_524 : Cv RX12 524 mX12_partOne 1 1 := ⟨co_X12_partOne, (tbg sg10 85 rfl rfl), (tbg sg10 87 rfl rfl), 12, 138, fs_1, RX12, TX12, rfl, by decide, rfl, (tbm 124 (by decide +kernel) rfl)⟩
theorem co_X12_tradeCounts : Co mX12_tradeCounts 1 := ⟨(tbg sg10 56 rfl rfl), (tbg sg1 10 rfl rfl), by decide, by decide, by decide +kernel, by decide⟩
theorem cv_12_530 : Cv RX12 530 mX12_tradeCounts 1 1 := ⟨co_X12_tradeCounts, (tbg sg10 53 rfl rfl), (tbg sg10 55 rfl rfl), 12, 138, fs_1, RX12, TX12, rfl, by decide, rfl, (tbm 116 (by decide +kernel) rfl)⟩
theorem co_X12_begin : Co mX12_begin 0 := ⟨(tbg sg10 47 rfl rfl), (tbg sg1 10 rfl rfl), by decide, by decide, by decide +kernel, by decide⟩
theorem cv_12_533 : Cv RX12 533 mX12_begin 1 0 := ⟨co_X12_begin, (tbg sg10 44 rfl rfl), (tbg sg10 46 rfl rfl), 12, 138, fs_1, RX12, TX12, rfl, by decide, rfl, (tbm 114 (by decide +kernel) rfl)⟩
theorem co_X12_nextDay : Co mX12_nextDay 1 := ⟨(tbg sg10 51 rfl rfl), (tbg sg1 10 rfl rfl), by decide, by decide, by decide +kernel, by decide⟩
theorem cv_12_536 : Cv RX12 536 mX12_nextDay 1 1 := ⟨co_X12_nextDay, (tbg sg10 48 rfl rfl), (tbg sg10 50 rfl rfl), 12, 138, fs_1, RX12, TX12, rfl, by decide, rfl, (tbm 115 (by decide +kernel) rfl)⟩
theorem co_X12_settles : Co mX12_settles 1 := ⟨(tbg sg10 60 rfl rfl), (tbg sg1 10 rfl rfl), by decide, by decide, by decide +kernel, by decide⟩
theorem cv_12_539 : Cv RX12 539 mX12_settles 1 1 := ⟨co_X12_settles, (tbg sg10 57 rfl rfl), (tbg sg10 59 rfl rfl), 12, 138, fs_1, RX12, TX12, rfl, by decide, rfl, (tbm 117 (by decide +kernel) rfl)⟩
theorem co_X12_happens : Co mX12_happens 1 := ⟨(tbg sg10 64 rfl rfl), (tbg sg1 10 rfl rfl), by decide, by decide, by decide +kernel, by decide⟩
theorem cv_12_542 : Cv RX12 542 mX12_happens 1 1 := ⟨co_X12_happens, (tbg sg10 61 rfl rfl), (tbg sg10 63 rfl rfl), 12, 138, fs_1, RX12, TX12, rfl, by decide, rfl, (tbm 118 (by decide +kernel) rfl)⟩
theorem co_X12_isTooMuch : Co mX12_isTooMuch 0 := ⟨(tbg sg10 123 rfl rfl), (tbg sg1 10 rfl rfl), by decide, by decide, by decide +kernel, by decide⟩
theorem cv_12_545 : Cv RX12 545 mX12_isTooMuch 1 0 := ⟨co_X12_isTooMuch, (tbg sg10 120 rfl rfl), (tbg sg10 122 rfl rfl), 12, 138, fs_1, RX12, TX12, rfl, by decide, rfl, (tbm 132 (by decide +kernel) rfl)⟩
theorem co_X12_stays : Co mX12_stays 2 := ⟨(tbg sg10 72 rfl rfl), (tbg sg1 10 rfl rfl), by decide, by decide, by decide +kernel, by decide⟩
theorem cv_12_550 : Cv RX12 550 mX12_stays 1 2 := ⟨co_X12_stays, (tbg sg10 69 rfl rfl), (tbg sg10 71 rfl rfl), 12, 138, fs_1, RX12, TX12, rfl, by decide, rfl, (tbm 120 (by decide +kernel) rfl)⟩
theorem co_X12_cutBack : Co mX12_cutBack 2 := ⟨(tbg sg10 80 rfl rfl), (tbg sg1 10 rfl rfl), by decide, by decide, by decide +kernel, by decide⟩
theorem cv_12_553 : Cv RX12 553 mX12_cutBack 1 2 := ⟨co_X12_cutBack, (tbg sg10 77 rfl rfl), (tbg sg10 79 rfl rfl), 12, 138, fs_1, RX12, TX12, rfl, by decide, rfl, (tbm 122 (by decide +kernel) rfl)⟩
theorem co_X12_parts : Co mX12_parts 2 := ⟨(tbg sg10 84 rfl rfl), (tbg sg1 10 rfl rfl), by decide, by decide, by decide +kernel, by decide⟩
theorem cv_12_557 : Cv RX12 557 mX12_parts 1 2 := ⟨co_X12_parts, (tbg sg10 81 rfl rfl), (tbg sg10 83 rfl rfl), 12, 138, fs_1, RX12, TX12, rfl, by decide, rfl, (tbm 123 (by decide +kernel) rfl)⟩
theorem co_X12_cuts : Co mX12_cuts 1 := ⟨(tbg sg10 68 rfl rfl), (tbg sg1 10 rfl rfl), by decide, by decide, by decide +kernel, by decide⟩
theorem cv_12_560 : Cv RX12 560 mX12_cuts 1 1 := ⟨co_X12_cuts, (tbg sg10 65 rfl rfl), (tbg sg10 67 rfl rfl), 12, 138, fs_1, RX12, TX12, rfl, by decide, rfl, (tbm 119 (by decide +kernel) rfl)⟩
theorem co_X12_happensTo : Co mX12_happensTo 2 := ⟨(tbg sg10 92 rfl rfl), (tbg sg1 10 rfl rfl), by decide, by decide, by decide +kernel, by decide⟩
theorem cv_12_563 : Cv RX12 563 mX12_happensTo 1 2 := ⟨co_X12_happensTo, (tbg sg10 89 rfl rfl), (tbg sg10 91 rfl rfl), 12, 138, fs_1, RX12, TX12, rfl, by decide, rfl, (tbm 125 (by decide +kernel) rfl)⟩
theorem co_X12_totalAhead : Co mX12_totalAhead 1 := ⟨(tbg sg10 96 rfl rfl), (tbg sg1 10 rfl rfl), by decide, by decide, by decide +kernel, by decide⟩
theorem cv_12_569 : Cv RX12 569 mX12_totalAhead 1 1 := ⟨co_X12_totalAhead, (tbg sg10 93 rfl rfl), (tbg sg10 95 rfl rfl), 12, 138, fs_1, RX12, TX12, rfl, by decide, rfl, (tbm 126 (by decide +kernel) rfl)⟩
theorem co_X12_does : Co mX12_does 6 := ⟨(tbg sg10 104 rfl rfl), (tbg sg1 10 rfl rfl), by decide, by decide, by decide +kernel, by decide⟩
theorem cv_12_573 : Cv RX12 573 mX12_does 1 6 := ⟨co_X12_does, (tbg sg10 101 rfl rfl), (tbg sg10 103 rfl rfl), 12, 138, fs_1, RX12, TX12, rfl, by decide, rfl, (tbm 128 (by decide +kernel) rfl)⟩
theorem co_X12_lay_ : Co mX12_lay_ 3 := ⟨(tbg sg10 108 rfl rfl), (tbg sg1 10 rfl rfl), by decide, by decide, by decide +kernel, by decide⟩
theorem cv_12_577 : Cv RX12 577 mX12_lay_ 1 3 := ⟨co_X12_lay_, (tbg sg10 105 rfl rfl), (tbg sg10 107 rfl rfl), 12, 138, fs_1, RX12, TX12, rfl, by decide, rfl, (tbm 129 (by decide +kernel) rfl)⟩
theorem co_X12_isBelow : Co mX12_isBelow 2 := ⟨(tbg sg10 100 rfl rfl), (tbg sg1 10 rfl rfl), by decide, by decide, by decide +kernel, by decide⟩
theorem cv_12_582 : Cv RX12 582 mX12_isBelow 1 2 := ⟨co_X12_isBelow, (tbg sg10 97 rfl rfl), (tbg sg10 99 rfl rfl), 12, 138, fs_1, RX12, TX12, rfl, by decide, rfl, (tbm 127 (by decide +kernel) rfl)⟩
theorem co_X12_doesOne : Co mX12_doesOne 4 := ⟨(tbg sg10 112 rfl rfl), (tbg sg1 10 rfl rfl), by decide, by decide, by decide +kernel, by decide⟩
theorem cv_12_585 : Cv RX12 585 mX12_doesOne 1 4 := ⟨co_X12_doesOne, (tbg sg10 109 rfl rfl), (tbg sg10 111 rfl rfl), 12, 138, fs_1, RX12, TX12, rfl, by decide, rfl, (tbm 130 (by decide +kernel) rfl)⟩
theorem co_X12_pays : Co mX12_pays 3 := ⟨(tbg sg10 117 rfl rfl), (tbg sg1 10 rfl rfl), by decide, by decide, by decide +kernel, by decide⟩
theorem cv_12_591 : Cv RX12 591 mX12_pays 1 3 := ⟨co_X12_pays, (tbg sg10 114 rfl rfl), (tbg sg10 116 rfl rfl), 12, 138, fs_1, RX12, TX12, rfl, by decide, rfl, (tbm 131 (by decide +kernel) rfl)⟩
theorem co_X12_runs : Co mX12_runs 2 := ⟨(tbg sg10 43 rfl rfl), (tbg sg1 10 rfl rfl), by decide, by decide, by decide +kernel, by decide⟩
theorem cv_12_597 : Cv RX12 597 mX12_runs 1 2 := ⟨co_X12_runs, (tbg sg10 40 rfl rfl), (tbg sg10 42 rfl rfl), 12, 138, fs_1, RX12, TX12, rfl, by decide, rfl, (tbm 113 (by decide +kernel) rfl)⟩
theorem co_X12_asks : Co mX12_asks 3 := ⟨(tbg sg10 39 rfl rfl), (tbg sg1 10 rfl rfl), by decide, by decide, by decide +kernel, by decide⟩
theorem cv_12_600 : Cv RX12 600 mX12_asks 1 3 := ⟨co_X12_asks, (tbg sg10 36 rfl rfl), (tbg sg10 38 rfl rfl), 12, 138, fs_1, RX12, TX12, rfl, by decide, rfl, (tbm 112 (by decide +kernel) rfl)⟩
theorem co_X12_isTrade : Co mX12_isTrade 1 := ⟨(tbg sg10 148 rfl rfl), (tbg sg1 10 rfl rfl), by decide, by decide, by decide +kernel, by decide⟩
theorem cv_12_604 : Cv RX12 604 mX12_isTrade 1 1 := ⟨co_X12_isTrade, (tbg sg10 145 rfl rfl), (tbg sg10 147 rfl rfl), 12, 138, fs_1, RX12, TX12, rfl, by decide, rfl, (tbm 133 (by decide +kernel) rfl)⟩
theorem co_X12_brings : Co mX12_brings 6 := ⟨(tbg sg10 160 rfl rfl), (tbg sg1 10 rfl rfl), by decide, by decide, by decide +kernel, by decide⟩
theorem cv_12_607 : Cv RX12 607 mX12_brings 1 6 := ⟨co_X12_brings, (tbg sg10 157 rfl rfl), (tbg sg10 159 rfl rfl), 12, 138, fs_1, RX12, TX12, rfl, by decide, rfl, (tbm 135 (by decide +kernel) rfl)⟩
theorem co_X12_bringsOne : Co mX12_bringsOne 3 := ⟨(tbg sg10 164 rfl rfl), (tbg sg1 10 rfl rfl), by decide, by decide, by decide +kernel, by decide⟩
theorem cv_12_611 : Cv RX12 611 mX12_bringsOne 1 3 := ⟨co_X12_bringsOne, (tbg sg10 161 rfl rfl), (tbg sg10 163 rfl rfl), 12, 138, fs_1, RX12, TX12, rfl, by decide, rfl, (tbm 136 (by decide +kernel) rfl)⟩
theorem co_X12_getsOf : Co mX12_getsOf 3 := ⟨(tbg sg10 156 rfl rfl), (tbg sg1 10 rfl rfl), by decide, by decide, by decide +kernel, by decide⟩
theorem cv_12_624 : Cv RX12 624 mX12_getsOf 1 3 := ⟨co_X12_getsOf, (tbg sg10 153 rfl rfl), (tbg sg10 155 rfl rfl), 12, 138, fs_1, RX12, TX12, rfl, by decide, rfl, (tbm 134 (by decide +kernel) rfl)⟩
theorem co_X12_common : Co mX12_common 2 := ⟨(tbg sg10 191 rfl rfl), (tbg sg1 10 rfl rfl), by decide, by decide, by decide +kernel, by decide⟩
theorem cs_12_641 : Cs RX12 641 mX12_common 2 := ⟨co_X12_common, (tbg sg10 189 rfl rfl), (tbg sg10 190 rfl rfl)⟩
theorem co_X12_adds : Co mX12_adds 2 := ⟨(tbg sg10 196 rfl rfl), (tbg sg1 10 rfl rfl), by decide, by decide, by decide +kernel, by decide⟩
theorem cv_12_658 : Cv RX12 658 mX12_adds 1 2 := ⟨co_X12_adds, (tbg sg10 193 rfl rfl), (tbg sg10 195 rfl rfl), 12, 138, fs_1, RX12, TX12, rfl, by decide, rfl, (tbm 141 (by decide +kernel) rfl)⟩
theorem co_X12_times : Co mX12_times 4 := ⟨(tbg sg10 201 rfl rfl), (tbg sg1 10 rfl rfl), by decide, by decide, by decide +kernel, by decide⟩
theorem cv_12_668 : Cv RX12 668 mX12_times 1 4 := ⟨co_X12_times, (tbg sg10 198 rfl rfl), (tbg sg10 200 rfl rfl), 12, 138, fs_1, RX12, TX12, rfl, by decide, rfl, (tbm 142 (by decide +kernel) rfl)⟩
theorem co_X12_isPlain : Co mX12_isPlain 1 := ⟨(tbg sg10 184 rfl rfl), (tbg sg1 10 rfl rfl), by decide, by decide, by decide +kernel, by decide⟩
theorem cv_12_678 : Cv RX12 678 mX12_isPlain 1 1 := ⟨co_X12_isPlain, (tbg sg10 181 rfl rfl), (tbg sg10 183 rfl rfl), 12, 138, fs_1, RX12, TX12, rfl, by decide, rfl, (tbm 139 (by decide +kernel) rfl)⟩
theorem co_X12_changes : Co mX12_changes 1 := ⟨(tbg sg10 188 rfl rfl), (tbg sg1 10 rfl rfl), by decide, by decide, by decide +kernel, by decide⟩
theorem cv_12_681 : Cv RX12 681 mX12_changes 1 1 := ⟨co_X12_changes, (tbg sg10 185 rfl rfl), (tbg sg10 187 rfl rfl), 12, 138, fs_1, RX12, TX12, rfl, by decide, rfl, (tbm 140 (by decide +kernel) rfl)⟩
theorem co_X12_becomes : Co mX12_becomes 2 := ⟨(tbg sg10 180 rfl rfl), (tbg sg1 10 rfl rfl), by decide, by decide, by decide +kernel, by decide⟩
theorem cv_12_684 : Cv RX12 684 mX12_becomes 1 2 := ⟨co_X12_becomes, (tbg sg10 177 rfl rfl), (tbg sg10 179 rfl rfl), 12, 138, fs_1, RX12, TX12, rfl, by decide, rfl, (tbm 138 (by decide +kernel) rfl)⟩
theorem co_X12_asksOption : Co mX12_asksOption 2 := ⟨(tbg sg10 176 rfl rfl), (tbg sg1 10 rfl rfl), by decide, by decide, by decide +kernel, by decide⟩
theorem cv_12_687 : Cv RX12 687 mX12_asksOption 1 2 := ⟨co_X12_asksOption, (tbg sg10 173 rfl rfl), (tbg sg10 175 rfl rfl), 12, 138, fs_1, RX12, TX12, rfl, by decide, rfl, (tbm 137 (by decide +kernel) rfl)⟩
theorem co_X12_bringsOf : Co mX12_bringsOf 3 := ⟨(tbg sg10 226 rfl rfl), (tbg sg1 10 rfl rfl), by decide, by decide, by decide +kernel, by decide⟩
theorem cv_12_694 : Cv RX12 694 mX12_bringsOf 1 3 := ⟨co_X12_bringsOf, (tbg sg10 223 rfl rfl), (tbg sg10 225 rfl rfl), 12, 138, fs_1, RX12, TX12, rfl, by decide, rfl, (tbm 143 (by decide +kernel) rfl)⟩
theorem co_X12_calledOf : Co mX12_calledOf 2 := ⟨(tbg sg11 2 rfl rfl), (tbg sg1 10 rfl rfl), by decide, by decide, by decide +kernel, by decide⟩
theorem cv_12_701 : Cv RX12 701 mX12_calledOf 1 2 := ⟨co_X12_calledOf, (tbg sg10 239 rfl rfl), (tbg sg11 1 rfl rfl), 12, 138, fs_1, RX12, TX12, rfl, by decide, rfl, (tbm 144 (by decide +kernel) rfl)⟩
theorem co_J6_bitCount_0f7a4 : Co mJ6_bitCount_0f7a4 1 := ⟨(tbg sg7 103 rfl rfl), (tbg sg1 26 rfl rfl), by decide, by decide, by decide +kernel, by decide⟩
theorem cs_12_707 : Cs RX12 707 mJ6_bitCount_0f7a4 1 := ⟨co_J6_bitCount_0f7a4, (tbg sg11 15 rfl rfl), (tbg sg7 102 rfl rfl)⟩
theorem co_X12_explains : Co mX12_explains 7 := ⟨(tbg sg11 19 rfl rfl), (tbg sg1 10 rfl rfl), by decide, by decide, by decide +kernel, by decide⟩
theorem cv_12_712 : Cv RX12 712 mX12_explains 1 7 := ⟨co_X12_explains, (tbg sg11 16 rfl rfl), (tbg sg11 18 rfl rfl), 12, 138, fs_1, RX12, TX12, rfl, by decide, rfl, (tbm 145 (by decide +kernel) rfl)⟩
theorem co_J6_lowestOneBit_0f7a4 : Co mJ6_lowestOneBit_0f7a4 1 := ⟨(tbg sg11 22 rfl rfl), (tbg sg1 26 rfl rfl), by decide, by decide, by decide +kernel, by decide⟩
theorem cs_12_716 : Cs RX12 716 mJ6_lowestOneBit_0f7a4 1 := ⟨co_J6_lowestOneBit_0f7a4, (tbg sg11 20 rfl rfl), (tbg sg11 21 rfl rfl)⟩
