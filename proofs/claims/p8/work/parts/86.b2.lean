theorem fl_X11_29_128 : Fl RX11 29 128 6 (2, 154, 0) := ⟨11, 20, fs_128, RX11, TX11, rfl, rfl, by decide, rfl, by decide, rfl, cf_X11, (tbg sg2 154 rfl rfl)⟩
theorem cv_X11_125_154 : Cv RX11 125 mJx4a65c_size_8abf5 154 0 := ⟨co_Jx4a65c_size_8abf5, (tbg sg3 12 rfl rfl), (tbg sg3 13 rfl rfl), 0, 3, fs_154, RJx4a65c, TJx4a65c, rfl, by decide, rfl, (tbg sg3 14 rfl rfl)⟩
theorem nw_X11_132_152 : Nw RX11 132 152 9 := ⟨2, fs_152, RX1, TX1, tyX1, rfl, rfl, by decide, rfl, tbs [690, 692, 676, 678, 680, 682, 684, 686, 688] (by decide +kernel), tyX1_ok, (tbg sg3 16 rfl rfl), (tbg sg3 17 rfl rfl), (tbg sg1 12 rfl rfl), by decide⟩
theorem co_X1_init : Co mX1_init 4 := ⟨(tbg sg3 20 rfl rfl), (tbg sg1 12 rfl rfl), by decide, by decide, by decide +kernel, by decide⟩
theorem ci_X11_134 : Ci RX11 134 mX1_init 4 := ⟨co_X1_init, (tbg sg3 18 rfl rfl), rfl, (tbg sg3 19 rfl rfl), rfl⟩
theorem fl_X11_137_152 : Fl RX11 137 152 6 (0, (-1), 19) := ⟨2, 9, fs_152, RX1, TX1, rfl, rfl, by decide, rfl, by decide, rfl, cf_X1, (tbg sg3 41 rfl rfl)⟩
theorem fp_X11_137_152 : Fp RX11 137 152 6 (0, (-1), 19) := ⟨fl_X11_137_152, 2, 9, fs_152, RX1, TX1, .int, rfl, rfl, rfl, by decide +kernel, fun E S x h => ⟨rfl, rfl⟩⟩
theorem fl_X11_140_152 : Fl RX11 140 152 8 (0, 0, 2147483647) := ⟨2, 9, fs_152, RX1, TX1, rfl, rfl, by decide, rfl, by decide, rfl, cf_X1, (tbg sg3 45 rfl rfl)⟩
theorem fp_X11_140_152 : Fp RX11 140 152 8 (0, 0, 2147483647) := ⟨fl_X11_140_152, 2, 9, fs_152, RX1, TX1, .int, rfl, rfl, rfl, by decide +kernel, fun E S x h => ⟨rfl, rfl⟩⟩
theorem nf_152 : norf 152 = true := by decide +kernel
theorem co_Jx4a65c_add_9ea2d : Co mJx4a65c_add_9ea2d 1 := ⟨(tbg sg3 72 rfl rfl), (tbg sg1 6 rfl rfl), by decide, by decide, by decide +kernel, by decide⟩
theorem cv_X11_143_154 : Cv RX11 143 mJx4a65c_add_9ea2d 154 1 := ⟨co_Jx4a65c_add_9ea2d, (tbg sg3 69 rfl rfl), (tbg sg3 70 rfl rfl), 0, 3, fs_154, RJx4a65c, TJx4a65c, rfl, by decide, rfl, (tbg sg3 71 rfl rfl)⟩
theorem fl_X11_151_152 : Fl RX11 151 152 5 (0, (-1), 19) := ⟨2, 9, fs_152, RX1, TX1, rfl, rfl, by decide, rfl, by decide, rfl, cf_X1, (tbg sg3 37 rfl rfl)⟩
theorem fp_X11_151_152 : Fp RX11 151 152 5 (0, (-1), 19) := ⟨fl_X11_151_152, 2, 9, fs_152, RX1, TX1, .int, rfl, rfl, rfl, by decide +kernel, fun E S x h => ⟨rfl, rfl⟩⟩
theorem fl_X11_154_152 : Fl RX11 154 152 7 (0, (-2147483648), 2147483647) := ⟨2, 9, fs_152, RX1, TX1, rfl, rfl, by decide, rfl, by decide, rfl, cf_X1, (tbg sg3 44 rfl rfl)⟩
theorem fp_X11_154_152 : Fp RX11 154 152 7 (0, (-2147483648), 2147483647) := ⟨fl_X11_154_152, 2, 9, fs_152, RX1, TX1, .int, rfl, rfl, rfl, by decide +kernel, fun E S x h => ⟨rfl, rfl⟩⟩
theorem cv_X11_143_155 : Cv RX11 143 mJx4a65c_add_9ea2d 155 1 := ⟨co_Jx4a65c_add_9ea2d, (tbg sg3 69 rfl rfl), (tbg sg3 70 rfl rfl), 0, 3, fs_155, RJx4a65c, TJx4a65c, rfl, by decide, rfl, (tbg sg3 71 rfl rfl)⟩
