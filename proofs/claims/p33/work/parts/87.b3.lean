theorem co_X6_read : Co mX6_read 1 := ⟨(tbg sg3 155 rfl rfl), (tbg sg1 8 rfl rfl), by decide, by decide, by decide +kernel, by decide⟩
theorem cv_X11_169_131 : Cv RX11 169 mX6_read 131 1 := ⟨co_X6_read, (tbg sg3 152 rfl rfl), (tbg sg3 153 rfl rfl), 7, 17, fs_131, RX6, TX6, rfl, by decide, rfl, (tbg sg3 154 rfl rfl)⟩
theorem fp_X11_157_131 : Fp RX11 157 131 0 (0, 0, 400) := ⟨fl_X11_157_131, 7, 17, fs_131, RX6, TX6, .int, rfl, rfl, rfl, by decide +kernel, fun E S x h => ⟨rfl, rfl⟩⟩
theorem nw_X11_173_150 : Nw RX11 173 150 7 := ⟨3, fs_150, RX2, TX2, tyX2, rfl, rfl, by decide, rfl, tbs [1095, 1096, 1085, 1087, 1089, 1091, 1093] (by decide +kernel), tyX2_ok, (tbg sg4 200 rfl rfl), (tbg sg4 201 rfl rfl), (tbg sg1 22 rfl rfl), by decide⟩
theorem co_X2_init : Co mX2_init 3 := ⟨(tbg sg4 204 rfl rfl), (tbg sg1 22 rfl rfl), by decide, by decide, by decide +kernel, by decide⟩
theorem ci_X11_175 : Ci RX11 175 mX2_init 3 := ⟨co_X2_init, (tbg sg4 202 rfl rfl), rfl, (tbg sg4 203 rfl rfl), rfl⟩
theorem fl_X11_178_150 : Fl RX11 178 150 4 (0, 0, 40000) := ⟨3, 7, fs_150, RX2, TX2, rfl, rfl, by decide, rfl, by decide, rfl, cf_X2, (tbg sg4 214 rfl rfl)⟩
theorem fp_X11_178_150 : Fp RX11 178 150 4 (0, 0, 40000) := ⟨fl_X11_178_150, 3, 7, fs_150, RX2, TX2, .int, rfl, rfl, rfl, by decide +kernel, fun E S x h => ⟨rfl, rfl⟩⟩
theorem fl_X11_181_150 : Fl RX11 181 150 5 (0, 0, 40000) := ⟨3, 7, fs_150, RX2, TX2, rfl, rfl, by decide, rfl, by decide, rfl, cf_X2, (tbg sg4 216 rfl rfl)⟩
theorem fp_X11_181_150 : Fp RX11 181 150 5 (0, 0, 40000) := ⟨fl_X11_181_150, 3, 7, fs_150, RX2, TX2, .int, rfl, rfl, rfl, by decide +kernel, fun E S x h => ⟨rfl, rfl⟩⟩
theorem fl_X11_184_150 : Fl RX11 184 150 6 (0, 0, 40000) := ⟨3, 7, fs_150, RX2, TX2, rfl, rfl, by decide, rfl, by decide, rfl, cf_X2, (tbg sg4 217 rfl rfl)⟩
theorem fp_X11_184_150 : Fp RX11 184 150 6 (0, 0, 40000) := ⟨fl_X11_184_150, 3, 7, fs_150, RX2, TX2, .int, rfl, rfl, rfl, by decide +kernel, fun E S x h => ⟨rfl, rfl⟩⟩
theorem nf_150 : norf 150 = true := by decide +kernel
theorem cv_X11_143_156 : Cv RX11 143 mJx4a65c_add_9ea2d 156 1 := ⟨co_Jx4a65c_add_9ea2d, (tbg sg3 69 rfl rfl), (tbg sg3 70 rfl rfl), 0, 3, fs_156, RJx4a65c, TJx4a65c, rfl, by decide, rfl, (tbg sg3 71 rfl rfl)⟩
theorem nw_X11_213_151 : Nw RX11 213 151 6 := ⟨6, fs_151, RX5, TX5, tyX5, rfl, rfl, by decide, rfl, tbs [1154, 1155, 1146, 1148, 1150, 1152] (by decide +kernel), tyX5_ok, (tbg sg5 25 rfl rfl), (tbg sg5 26 rfl rfl), (tbg sg1 24 rfl rfl), by decide⟩
theorem co_X5_init : Co mX5_init 5 := ⟨(tbg sg5 29 rfl rfl), (tbg sg1 24 rfl rfl), by decide, by decide, by decide +kernel, by decide⟩
theorem ci_X11_215 : Ci RX11 215 mX5_init 5 := ⟨co_X5_init, (tbg sg5 27 rfl rfl), rfl, (tbg sg5 28 rfl rfl), rfl⟩
theorem tl_151 (j : Nat) {t : Ty} (h : fs_151.getD j (0, 0, 0) = t) (hj : j < fs_151.length) : Tl 151 j t := ⟨6, fs_151, rfl, hj, h, by decide⟩
theorem nf_151 : norf 151 = true := by decide +kernel
theorem cv_X11_143_157 : Cv RX11 143 mJx4a65c_add_9ea2d 157 1 := ⟨co_Jx4a65c_add_9ea2d, (tbg sg3 69 rfl rfl), (tbg sg3 70 rfl rfl), 0, 3, fs_157, RJx4a65c, TJx4a65c, rfl, by decide, rfl, (tbg sg3 71 rfl rfl)⟩
set_option maxRecDepth 100000 in
set_option maxHeartbeats 4000000 in
theorem c_X11_event (E : En) (S : Sg) (G : Gh) (this : Int) (paper : Int) (n : Int) (ex : Int) (record : Int) (last : Int) (known : Int) (hS : S this = 128) (paper_a : (-2147483648) ≤ paper) (paper_b : paper ≤ 2147483647) (n_a : (-2147483648) ≤ n) (n_b : n ≤ 2147483647) (ex_a : (-2147483648) ≤ ex) (ex_b : ex ≤ 2147483647) (record_a : (-2147483648) ≤ record) (record_b : record ≤ 2147483647) (last_a : (-2147483648) ≤ last) (last_b : last ≤ 2147483647) (known_a : (-2147483648) ≤ known) (known_b : known ≤ 2147483647) (ci : CI E S G) : Calls E mX11_event [(2, this), (0, paper), (0, n), (0, ex), (0, record), (0, last), (0, known)] S G 15 16 406 (fun r S' G' => Gr [119, 120, 121, 122, 123, 124, 125, 126, 127, 136, 137, 149, 150, 160, 161, 162, 163, 164, 165, 166, 167, 168, 169, 170, 171, 172, 173, 174, 175, 176, 177, 178, 179, 180, 181, 182, 183, 184, 185] [(106, -1), (107, -1), (119, -1), (120, -1), (121, -1), (122, -1), (123, -1), (124, -1), (128, 0), (128, 1), (129, 1), (131, 0), (131, 1), (131, 2), (131, 4), (131, 5), (131, 6), (131, 7), (131, 8), (131, 9), (131, 10), (131, 11), (131, 13), (131, 14), (136, 0), (136, 1), (136, 2), (149, 2), (149, 3), (149, 4), (149, 5), (149, 6), (149, 7), (149, 8), (149, 9), (149, 10), (149, 11), (149, 12), (149, 13), (149, 14), (149, 15), (150, 0), (150, 1), (150, 2), (150, 3), (150, 4), (150, 5), (150, 6), (156, 0), (156, 1), (156, 2), (170, -1), (171, -1), (172, -1)] S G S' G' ∧ ∃ z : Int, r = some (0, z) ∧ (-2147483648) ≤ z ∧ z ≤ 2147483647 ∧ CI E S' G') := by
  refine calls_by [(0, (2, this)), (1, (0, paper)), (2, (0, n)), (3, (0, ex)), (4, (0, record)), (5, (0, last)), (6, (0, known))] rfl rfl (Nat.le_of_ble_eq_true rfl) (fun X hX => ?_)
  have hP := hPX11_event
  have j72 : ∀ (l7_j72 : Int), 0 ≤ l7_j72 → l7_j72 ≤ 1 → (l7_j72 = 1 ∨ (0 ≤ n ∧ n ≤ 400 ∧ 0 ≤ ex ∧ ex ≤ 40000 ∧ 0 ≤ record ∧ record ≤ 40000 ∧ 0 ≤ last ∧ last ≤ 40000 ∧ 0 ≤ known ∧ known ≤ 40000)) → X 0 0 72 [] [(0, (2, this)), (1, (0, paper)), (2, (0, n)), (3, (0, ex)), (4, (0, record)), (5, (0, last)), (6, (0, known)), (7, (0, l7_j72))] S G := by
    intro l7_j72 yj72_0 yj72_1 yj72_2
    refine r_ex hX hP 2 (pc' := 74) (st' := [(0, paper), (2, this)]) (lo' := [(0, (2, this)), (1, (0, paper)), (2, (0, n)), (3, (0, ex)), (4, (0, record)), (5, (0, last)), (6, (0, known)), (7, (0, l7_j72))]) rfl ?_
    refine r_callS gd hX hP rfl cs_X11_120 (d' := 1) (mc' := 0) (ms' := 0) (as' := [(0, paper)]) (st := [(2, this)]) (by omega) (by omega) (by omega) rfl rfl (Nat.le_of_ble_eq_true rfl) (c_X11_isPaper E S G paper (by omega) (by omega)) ?_
    rintro _ _ _ ⟨rfl, rfl, z1, rfl, (⟨rfl, f2, f3⟩ | rfl)⟩
    · skip
      refine r_if_ne hX hP rfl (tgt := 84) rfl (by omega) (by omega) (fun c4 => ?_) (fun c4 => ?_)
      · skip
        refine r_ex hX hP 3 (pc' := 88) (st' := [(2, this), (0, l7_j72), (0, 0), (2, this)]) (lo' := [(0, (2, this)), (1, (0, paper)), (2, (0, n)), (3, (0, ex)), (4, (0, record)), (5, (0, last)), (6, (0, known)), (7, (0, l7_j72))]) rfl ?_
        refine r_getR hX hP rfl fl_X11_37_128 hS (fun ef5 ef5e ef5s => ?_)
        refine r_peekI hX (tl_156 2 rfl (by decide)) ef5s (fun sip6 sip6e sip6a sip6b => ?_)
        refine r_callV gd hX hP rfl cv_X11_125_156 ef5s (d' := 0) (mc' := 0) (ms' := 0) (as' := []) (st := [(0, l7_j72), (0, 0), (2, this)]) (by omega) (by omega) (by omega) rfl rfl (Nat.le_of_ble_eq_true rfl) (c_size_Lev E S G ef5  ef5s sip6 sip6e) ?_
        rintro _ _ _ ⟨rfl, rfl, z7, rfl, z7a, z7b, f8⟩
        refine r_ex hX hP 1 (pc' := 96) (st' := [(0, 16), (0, z7), (0, l7_j72), (0, 0), (2, this)]) (lo' := [(0, (2, this)), (1, (0, paper)), (2, (0, n)), (3, (0, ex)), (4, (0, record)), (5, (0, last)), (6, (0, known)), (7, (0, l7_j72))]) rfl ?_
        refine r_ic_lt hX hP rfl (tgt := 103) rfl (by omega) (by omega) (by omega) (by omega) (fun c9 => ?_) (fun c9 => ?_)
        · skip
          refine r_ex hX hP 3 (pc' := 107) (st' := [(2, this), (0, known), (0, 0), (0, l7_j72), (0, 0), (2, this)]) (lo' := [(0, (2, this)), (1, (0, paper)), (2, (0, n)), (3, (0, ex)), (4, (0, record)), (5, (0, last)), (6, (0, known)), (7, (0, l7_j72))]) rfl ?_
          refine r_getI hX hP rfl fl_X11_129_128 hS (fun lf10 lf10e lf10a lf10b => ?_)
          refine r_ic_ge hX hP rfl (tgt := 117) rfl (by omega) (by omega) (by omega) (by omega) (fun c11 => ?_) (fun c11 => ?_)
          · skip
            refine r_ex hX hP 1 (pc' := 118) (st' := [(0, 0), (0, 0), (0, l7_j72), (0, 0), (2, this)]) (lo' := [(0, (2, this)), (1, (0, paper)), (2, (0, n)), (3, (0, ex)), (4, (0, record)), (5, (0, last)), (6, (0, known)), (7, (0, l7_j72))]) rfl ?_
            refine r_callS gd hX hP rfl cs_X11_112 (d' := 0) (mc' := 0) (ms' := 0) (as' := [(0, 0), (0, l7_j72), (0, 0), (0, 0)]) (st := [(2, this)]) (by omega) (by omega) (by omega) rfl rfl (Nat.le_of_ble_eq_true rfl) (c_X11_first E S G 0 l7_j72 0 0 (by omega) (by omega) (by omega) (by omega) (by omega) (by omega) (by omega) (by omega)) ?_
            rintro _ _ _ ⟨rfl, rfl, z12, rfl, (⟨rfl, f13⟩ | ⟨rfl, f14, f15⟩ | ⟨rfl, f16, f17, f18⟩ | ⟨rfl, f19, f20, f21, f22⟩ | ⟨rfl, f23, f24, f25, f26⟩)⟩
            · skip
              exfalso; omega
            · skip
              refine r_callV gd hX hP rfl cv_X11_90_128 hS (d' := 0) (mc' := 0) (ms' := 0) (as' := [(0, 2)]) (st := []) (by omega) (by omega) (by omega) rfl rfl (Nat.le_of_ble_eq_true rfl) (c_X11_refused E S G this 2 hS (by omega) (by omega)) ?_
              rintro _ _ _ ⟨rfl, ⟨G27, rfl⟩, z28, rfl, (⟨rfl, f29⟩ | ⟨rfl, f30⟩)⟩
              · skip
                refine r_if_eq hX hP rfl (tgt := 129) rfl (by omega) (by omega) (fun c31 => ?_) (fun c31 => ?_)
                · skip
                  exfalso; omega
                · skip
                  refine r_ex hX hP 1 (pc' := 128) (st' := [(0, (-1))]) (lo' := [(0, (2, this)), (1, (0, paper)), (2, (0, n)), (3, (0, ex)), (4, (0, record)), (5, (0, last)), (6, (0, known)), (7, (0, l7_j72))]) rfl ?_
                  have g32 : Gr [119, 120, 121, 122, 123, 124, 125, 126, 127, 136, 137, 149, 150, 160, 161, 162, 163, 164, 165, 166, 167, 168, 169, 170, 171, 172, 173, 174, 175, 176, 177, 178, 179, 180, 181, 182, 183, 184, 185] [(106, -1), (107, -1), (119, -1), (120, -1), (121, -1), (122, -1), (123, -1), (124, -1), (128, 0), (128, 1), (129, 1), (131, 0), (131, 1), (131, 2), (131, 4), (131, 5), (131, 6), (131, 7), (131, 8), (131, 9), (131, 10), (131, 11), (131, 13), (131, 14), (136, 0), (136, 1), (136, 2), (149, 2), (149, 3), (149, 4), (149, 5), (149, 6), (149, 7), (149, 8), (149, 9), (149, 10), (149, 11), (149, 12), (149, 13), (149, 14), (149, 15), (150, 0), (150, 1), (150, 2), (150, 3), (150, 4), (150, 5), (150, 6), (156, 0), (156, 1), (156, 2), (170, -1), (171, -1), (172, -1)] S G S (hw [(128, 0)] G G27) := (gr_hw (gr_refl [119, 120, 121, 122, 123, 124, 125, 126, 127, 136, 137, 149, 150, 160, 161, 162, 163, 164, 165, 166, 167, 168, 169, 170, 171, 172, 173, 174, 175, 176, 177, 178, 179, 180, 181, 182, 183, 184, 185] [(106, -1), (107, -1), (119, -1), (120, -1), (121, -1), (122, -1), (123, -1), (124, -1), (128, 0), (128, 1), (129, 1), (131, 0), (131, 1), (131, 2), (131, 4), (131, 5), (131, 6), (131, 7), (131, 8), (131, 9), (131, 10), (131, 11), (131, 13), (131, 14), (136, 0), (136, 1), (136, 2), (149, 2), (149, 3), (149, 4), (149, 5), (149, 6), (149, 7), (149, 8), (149, 9), (149, 10), (149, 11), (149, 12), (149, 13), (149, 14), (149, 15), (150, 0), (150, 1), (150, 2), (150, 3), (150, 4), (150, 5), (150, 6), (156, 0), (156, 1), (156, 2), (170, -1), (171, -1), (172, -1)] S G) rfl)
                  have ci33 : CI E S (hw [(128, 0)] G G27) := (ci_hw ci rfl)
                  exact r_retI hX hP rfl rfl (by omega) (by omega) ⟨g32, (-1), rfl, (by omega), (by omega), ci33⟩
              · skip
                exfalso; omega
            · skip
              exfalso; omega
            · skip
              exfalso; omega
            · skip
              refine r_callV gd hX hP rfl cv_X11_90_128 hS (d' := 0) (mc' := 0) (ms' := 0) (as' := [(0, 0)]) (st := []) (by omega) (by omega) (by omega) rfl rfl (Nat.le_of_ble_eq_true rfl) (c_X11_refused E S G this 0 hS (by omega) (by omega)) ?_
              rintro _ _ _ ⟨rfl, ⟨G34, rfl⟩, z35, rfl, (⟨rfl, f36⟩ | ⟨rfl, f37⟩)⟩
              · skip
                exfalso; omega
              · skip
                refine r_if_eq hX hP rfl (tgt := 129) rfl (by omega) (by omega) (fun c38 => ?_) (fun c38 => ?_)
                · skip
                  refine r_ex hX hP 1 (pc' := 130) (st' := [(2, this)]) (lo' := [(0, (2, this)), (1, (0, paper)), (2, (0, n)), (3, (0, ex)), (4, (0, record)), (5, (0, last)), (6, (0, known)), (7, (0, l7_j72))]) rfl ?_
                  refine r_getR hX hP rfl fl_X11_71_128 hS (fun rf39 rf39e rf39s => ?_)
                  refine r_ex hX hP 1 (pc' := 134) (st' := [(0, n), (2, rf39)]) (lo' := [(0, (2, this)), (1, (0, paper)), (2, (0, n)), (3, (0, ex)), (4, (0, record)), (5, (0, last)), (6, (0, known)), (7, (0, l7_j72))]) rfl ?_
                  have g40 : Gr [119, 120, 121, 122, 123, 124, 125, 126, 127, 136, 137, 149, 150, 160, 161, 162, 163, 164, 165, 166, 167, 168, 169, 170, 171, 172, 173, 174, 175, 176, 177, 178, 179, 180, 181, 182, 183, 184, 185] [(106, -1), (107, -1), (119, -1), (120, -1), (121, -1), (122, -1), (123, -1), (124, -1), (128, 0), (128, 1), (129, 1), (131, 0), (131, 1), (131, 2), (131, 4), (131, 5), (131, 6), (131, 7), (131, 8), (131, 9), (131, 10), (131, 11), (131, 13), (131, 14), (136, 0), (136, 1), (136, 2), (149, 2), (149, 3), (149, 4), (149, 5), (149, 6), (149, 7), (149, 8), (149, 9), (149, 10), (149, 11), (149, 12), (149, 13), (149, 14), (149, 15), (150, 0), (150, 1), (150, 2), (150, 3), (150, 4), (150, 5), (150, 6), (156, 0), (156, 1), (156, 2), (170, -1), (171, -1), (172, -1)] S G S (hw [(128, 0)] G G34) := (gr_hw (gr_refl [119, 120, 121, 122, 123, 124, 125, 126, 127, 136, 137, 149, 150, 160, 161, 162, 163, 164, 165, 166, 167, 168, 169, 170, 171, 172, 173, 174, 175, 176, 177, 178, 179, 180, 181, 182, 183, 184, 185] [(106, -1), (107, -1), (119, -1), (120, -1), (121, -1), (122, -1), (123, -1), (124, -1), (128, 0), (128, 1), (129, 1), (131, 0), (131, 1), (131, 2), (131, 4), (131, 5), (131, 6), (131, 7), (131, 8), (131, 9), (131, 10), (131, 11), (131, 13), (131, 14), (136, 0), (136, 1), (136, 2), (149, 2), (149, 3), (149, 4), (149, 5), (149, 6), (149, 7), (149, 8), (149, 9), (149, 10), (149, 11), (149, 12), (149, 13), (149, 14), (149, 15), (150, 0), (150, 1), (150, 2), (150, 3), (150, 4), (150, 5), (150, 6), (156, 0), (156, 1), (156, 2), (170, -1), (171, -1), (172, -1)] S G) rfl)
                  have ci41 : CI E S (hw [(128, 0)] G G34) := (ci_hw ci rfl)
                  refine r_tk hX (fun tk42 => ?_)
                  refine r_callV gd hX hP rfl cv_X11_169_131 rf39s (d' := 8) (mc' := 14) (ms' := 326) (as' := [(0, n)]) (st := []) (by omega) (by omega) (by omega) rfl rfl (Nat.le_of_ble_eq_true rfl) (c_X6_read E S (hw [(128, 0)] G G34) rf39 n rf39s (by omega) (by omega) ci41) ?_
                  rintro _ S43 G44 ⟨g45, z46, rfl, z46s, ci47⟩
                  have s48 : S43 this = 128 := gr_lab g45 hS (by decide)
                  have s49 : S43 ef5 = 156 := gr_lab g45 ef5s (by decide)
                  have s50 : S43 rf39 = 131 := gr_lab g45 rf39s (by decide)
                  have e51 : ef5 = G44 128 this 8 := gr_val g45 ef5e hS (by decide) rfl
                  have e52 : sip6 = G44 156 ef5 2 := gr_val g45 sip6e ef5s (by decide) rfl
                  have e53 : lf10 = G44 128 this 1 := gr_val g45 lf10e hS (by decide) rfl
                  have e54 : rf39 = G44 128 this 16 := gr_val g45 rf39e hS (by decide) rfl
                  have g55 : Gr [119, 120, 121, 122, 123, 124, 125, 126, 127, 136, 137, 149, 150, 160, 161, 162, 163, 164, 165, 166, 167, 168, 169, 170, 171, 172, 173, 174, 175, 176, 177, 178, 179, 180, 181, 182, 183, 184, 185] [(106, -1), (107, -1), (119, -1), (120, -1), (121, -1), (122, -1), (123, -1), (124, -1), (128, 0), (128, 1), (129, 1), (131, 0), (131, 1), (131, 2), (131, 4), (131, 5), (131, 6), (131, 7), (131, 8), (131, 9), (131, 10), (131, 11), (131, 13), (131, 14), (136, 0), (136, 1), (136, 2), (149, 2), (149, 3), (149, 4), (149, 5), (149, 6), (149, 7), (149, 8), (149, 9), (149, 10), (149, 11), (149, 12), (149, 13), (149, 14), (149, 15), (150, 0), (150, 1), (150, 2), (150, 3), (150, 4), (150, 5), (150, 6), (156, 0), (156, 1), (156, 2), (170, -1), (171, -1), (172, -1)] S G S43 G44 := gr_call g40 g45 rfl rfl
                  refine r_ex hX hP 2 (pc' := 140) (st' := [(2, this)]) (lo' := [(0, (2, this)), (1, (0, paper)), (2, (0, n)), (3, (0, ex)), (4, (0, record)), (5, (0, last)), (6, (0, known)), (7, (0, l7_j72)), (8, (2, z46))]) rfl ?_
                  refine r_getKR hX hP rfl fl_X11_71_128 s48 (x := rf39) e54 ?_
                  refine r_ex hX hP 1 (pc' := 144) (st' := [(0, 0), (2, rf39)]) (lo' := [(0, (2, this)), (1, (0, paper)), (2, (0, n)), (3, (0, ex)), (4, (0, record)), (5, (0, last)), (6, (0, known)), (7, (0, l7_j72)), (8, (2, z46))]) rfl ?_
                  refine r_putIK hX hP rfl fp_X11_157_131 s50 (by omega) (by omega) (fun h56 => ?_)
                  refine r_ex hX hP 2 (pc' := 150) (st' := [(2, z46), (2, this)]) (lo' := [(0, (2, this)), (1, (0, paper)), (2, (0, n)), (3, (0, ex)), (4, (0, record)), (5, (0, last)), (6, (0, known)), (7, (0, l7_j72)), (8, (2, z46))]) rfl ?_
                  refine r_ifnn hX hP rfl (tgt := 158) rfl (fun c57 => ?_) (fun c57 => ?_)
                  · skip
                    have s58 := nul_lab z46s c57
                    refine r_ex hX hP 1 (pc' := 159) (st' := [(0, 0), (2, this)]) (lo' := [(0, (2, this)), (1, (0, paper)), (2, (0, n)), (3, (0, ex)), (4, (0, record)), (5, (0, last)), (6, (0, known)), (7, (0, l7_j72)), (8, (2, z46))]) rfl ?_
                    refine r_callV gd hX hP rfl cv_X11_90_128 s48 (d' := 0) (mc' := 0) (ms' := 0) (as' := [(0, 0)]) (st := []) (by omega) (by omega) (by omega) rfl rfl (Nat.le_of_ble_eq_true rfl) (c_X11_refused E S43 (up G44 131 rf39 0 0) this 0 s48 (by omega) (by omega)) ?_
                    rintro _ _ _ ⟨rfl, ⟨G59, rfl⟩, z60, rfl, (⟨rfl, f61⟩ | ⟨rfl, f62⟩)⟩
                    · skip
                      exfalso; omega
                    · skip
                      refine r_if_eq hX hP rfl (tgt := 167) rfl (by omega) (by omega) (fun c63 => ?_) (fun c63 => ?_)
                      · skip
                        have g64 : Gr [119, 120, 121, 122, 123, 124, 125, 126, 127, 136, 137, 149, 150, 160, 161, 162, 163, 164, 165, 166, 167, 168, 169, 170, 171, 172, 173, 174, 175, 176, 177, 178, 179, 180, 181, 182, 183, 184, 185] [(106, -1), (107, -1), (119, -1), (120, -1), (121, -1), (122, -1), (123, -1), (124, -1), (128, 0), (128, 1), (129, 1), (131, 0), (131, 1), (131, 2), (131, 4), (131, 5), (131, 6), (131, 7), (131, 8), (131, 9), (131, 10), (131, 11), (131, 13), (131, 14), (136, 0), (136, 1), (136, 2), (149, 2), (149, 3), (149, 4), (149, 5), (149, 6), (149, 7), (149, 8), (149, 9), (149, 10), (149, 11), (149, 12), (149, 13), (149, 14), (149, 15), (150, 0), (150, 1), (150, 2), (150, 3), (150, 4), (150, 5), (150, 6), (156, 0), (156, 1), (156, 2), (170, -1), (171, -1), (172, -1)] S G S43 (hw [(128, 0)] (up G44 131 rf39 0 0) G59) := (gr_hw (gr_up g55 rfl) rfl)
                        have ci65 : CI E S43 (hw [(128, 0)] (up G44 131 rf39 0 0) G59) := (ci_hw (ci_up ci47 rfl) rfl)
                        refine r_tk hX (fun tk66 => ?_)
                        refine r_newA hX hP rfl (L := 150) (N := 7) nw_X11_173_150 (by omega) (by omega) (fun n67 S68 G69 n67z n67n n67l g70 n67v => ?_)
                        have z71 : S n67 = 0 := gr_zero g64 n67z
                        have s72 : S68 this = 128 := gr_lab g70 s48 (by decide)
                        have s73 : S68 ef5 = 156 := gr_lab g70 s49 (by decide)
                        have s74 : S68 rf39 = 131 := gr_lab g70 s50 (by decide)
                        have s75 : S68 z46 = 136 := gr_lab g70 s58 (by decide)
                        have e76 : ef5 = G69 128 this 8 := gr_val g70 e51 s48 (by decide) rfl
                        have e77 : sip6 = G69 156 ef5 2 := gr_val g70 e52 s49 (by decide) rfl
                        have e78 : lf10 = G69 128 this 1 := gr_val g70 e53 s48 (by decide) rfl
                        have e79 : rf39 = G69 128 this 16 := gr_val g70 e54 s48 (by decide) rfl
                        have e80 : 0 = G69 131 rf39 0 := gr_val g70 h56 s50 (by decide) rfl
                        have g81 : Gr [119, 120, 121, 122, 123, 124, 125, 126, 127, 136, 137, 149, 150, 160, 161, 162, 163, 164, 165, 166, 167, 168, 169, 170, 171, 172, 173, 174, 175, 176, 177, 178, 179, 180, 181, 182, 183, 184, 185] [(106, -1), (107, -1), (119, -1), (120, -1), (121, -1), (122, -1), (123, -1), (124, -1), (128, 0), (128, 1), (129, 1), (131, 0), (131, 1), (131, 2), (131, 4), (131, 5), (131, 6), (131, 7), (131, 8), (131, 9), (131, 10), (131, 11), (131, 13), (131, 14), (136, 0), (136, 1), (136, 2), (149, 2), (149, 3), (149, 4), (149, 5), (149, 6), (149, 7), (149, 8), (149, 9), (149, 10), (149, 11), (149, 12), (149, 13), (149, 14), (149, 15), (150, 0), (150, 1), (150, 2), (150, 3), (150, 4), (150, 5), (150, 6), (156, 0), (156, 1), (156, 2), (170, -1), (171, -1), (172, -1)] S G S68 G69 := gr_call g64 g70 rfl rfl
                        have ci82 : CI E S68 G69 := ci_gr ci65 tk66 g70 rfl rfl
                        refine r_ex hX hP 4 (pc' := 176) (st' := [(0, known), (2, z46), (0, paper), (2, n67), (2, n67)]) (lo' := [(0, (2, this)), (1, (0, paper)), (2, (0, n)), (3, (0, ex)), (4, (0, record)), (5, (0, last)), (6, (0, known)), (7, (0, l7_j72)), (8, (2, z46))]) rfl ?_
                        refine r_callI gd hX hP rfl ci_X11_175 n67n (d' := 4) (mc' := 0) (ms' := 0) (as' := [(0, paper), (2, z46), (0, known)]) (st := [(2, n67)]) (by omega) (by omega) (by omega) rfl rfl (Nat.le_of_ble_eq_true rfl) (c_X2_init E S68 G69 n67 paper z46 known n67l s75 (by omega) (by omega) (by omega) (by omega)) ?_
                        rintro _ _ _ ⟨rfl, ⟨G83, rfl⟩, rfl, teh84, teh84e, f85⟩
                        have e87 : z46 = (hw [(150, 0), (150, 1), (150, 2), (150, 3)] G69 G83) 150 n67 3 := by rw [← f85]; exact teh84e
                        refine r_ex hX hP 3 (pc' := 184) (st' := [(0, ex), (2, n67)]) (lo' := [(0, (2, this)), (1, (0, paper)), (2, (0, n)), (3, (0, ex)), (4, (0, record)), (5, (0, last)), (6, (0, known)), (7, (0, l7_j72)), (8, (2, z46)), (9, (2, n67))]) rfl ?_
                        refine r_putIK hX hP rfl fp_X11_178_150 n67l (by omega) (by omega) (fun h88 => ?_)
                        refine r_ex hX hP 2 (pc' := 191) (st' := [(0, record), (2, n67)]) (lo' := [(0, (2, this)), (1, (0, paper)), (2, (0, n)), (3, (0, ex)), (4, (0, record)), (5, (0, last)), (6, (0, known)), (7, (0, l7_j72)), (8, (2, z46)), (9, (2, n67))]) rfl ?_
                        refine r_putIK hX hP rfl fp_X11_181_150 n67l (by omega) (by omega) (fun h89 => ?_)
                        refine r_ex hX hP 2 (pc' := 198) (st' := [(0, last), (2, n67)]) (lo' := [(0, (2, this)), (1, (0, paper)), (2, (0, n)), (3, (0, ex)), (4, (0, record)), (5, (0, last)), (6, (0, known)), (7, (0, l7_j72)), (8, (2, z46)), (9, (2, n67))]) rfl ?_
                        refine r_putIK hX hP rfl fp_X11_184_150 n67l (by omega) (by omega) (fun h90 => ?_)
                        have g91 : Gr [119, 120, 121, 122, 123, 124, 125, 126, 127, 136, 137, 149, 150, 160, 161, 162, 163, 164, 165, 166, 167, 168, 169, 170, 171, 172, 173, 174, 175, 176, 177, 178, 179, 180, 181, 182, 183, 184, 185] [(106, -1), (107, -1), (119, -1), (120, -1), (121, -1), (122, -1), (123, -1), (124, -1), (128, 0), (128, 1), (129, 1), (131, 0), (131, 1), (131, 2), (131, 4), (131, 5), (131, 6), (131, 7), (131, 8), (131, 9), (131, 10), (131, 11), (131, 13), (131, 14), (136, 0), (136, 1), (136, 2), (149, 2), (149, 3), (149, 4), (149, 5), (149, 6), (149, 7), (149, 8), (149, 9), (149, 10), (149, 11), (149, 12), (149, 13), (149, 14), (149, 15), (150, 0), (150, 1), (150, 2), (150, 3), (150, 4), (150, 5), (150, 6), (156, 0), (156, 1), (156, 2), (170, -1), (171, -1), (172, -1)] S G S68 (up (up (up (hw [(150, 0), (150, 1), (150, 2), (150, 3)] G69 G83) 150 n67 4 ex) 150 n67 5 record) 150 n67 6 last) := (gr_up (gr_up (gr_up (gr_hw g81 rfl) rfl) rfl) rfl)
                        refine r_finA hX (L := 150) (ci := 3) (fs := fs_150) rfl n67l (by decide) (fun hr92 => ?_)
                        have hf93 : Fnl E fs_137 150 S68 (up (up (up (hw [(150, 0), (150, 1), (150, 2), (150, 3)] G69 G83) 150 n67 4 ex) 150 n67 5 record) 150 n67 6 last) n67 := by
                          intro j hj
                          rcases (by have : j < 7 := hj; omega : j = 0 ∨ j = 1 ∨ j = 2 ∨ j = 3 ∨ j = 4 ∨ j = 5 ∨ j = 6) with rfl | rfl | rfl | rfl | rfl | rfl | rfl
                          · exact hr92 0 (by decide)
                          · exact hr92 1 (by decide)
                          · exact hr92 2 (by decide)
                          · exact ⟨lab_of e87 s75, by decide⟩
                          · exact hr92 4 (by decide)
                          · exact hr92 5 (by decide)
                          · exact hr92 6 (by decide)
                        have ci94 : CI E S68 (up (up (up (hw [(150, 0), (150, 1), (150, 2), (150, 3)] G69 G83) 150 n67 4 ex) 150 n67 5 record) 150 n67 6 last) := (ci_up (ci_up (ci_up (ci_hw ci82 rfl) rfl) rfl) rfl)
                        refine r_tk hX (fun tk95 => ?_)
                        refine r_relabF hX (L := 150) (L' := 137) (ci := 3) (fs := fs_150) (fs' := fs_137) rfl rfl rfl (by decide) (by decide) nf_150 (by decide) n67l hf93 (fun S97 G98 r96 => ?_)
                        have s100 : S97 this = 128 := r96.lab n67l s72 (by decide)
                        have s101 : S97 ef5 = 156 := r96.lab n67l s73 (by decide)
                        have s102 : S97 rf39 = 131 := r96.lab n67l s74 (by decide)
                        have s103 : S97 z46 = 136 := r96.lab n67l s75 (by decide)
                        have e104 : ef5 = G98 128 this 8 := rs_val r96 n67l e76 s72 (by decide)
                        have e105 : sip6 = G98 156 ef5 2 := rs_val r96 n67l e77 s73 (by decide)
                        have e106 : lf10 = G98 128 this 1 := rs_val r96 n67l e78 s72 (by decide)
                        have e107 : rf39 = G98 128 this 16 := rs_val r96 n67l e79 s72 (by decide)
                        have e108 : 0 = G98 131 rf39 0 := rs_val r96 n67l e80 s74 (by decide)
                        have e109 : z46 = G98 137 n67 3 := e87.trans (r96.2.2.1 3).symm
                        have e110 : ex = G98 137 n67 4 := h88.trans (r96.2.2.1 4).symm
                        have e111 : record = G98 137 n67 5 := h89.trans (r96.2.2.1 5).symm
                        have e112 : last = G98 137 n67 6 := h90.trans (r96.2.2.1 6).symm
                        have g113 : Gr [119, 120, 121, 122, 123, 124, 125, 126, 127, 136, 137, 149, 150, 160, 161, 162, 163, 164, 165, 166, 167, 168, 169, 170, 171, 172, 173, 174, 175, 176, 177, 178, 179, 180, 181, 182, 183, 184, 185] [(106, -1), (107, -1), (119, -1), (120, -1), (121, -1), (122, -1), (123, -1), (124, -1), (128, 0), (128, 1), (129, 1), (131, 0), (131, 1), (131, 2), (131, 4), (131, 5), (131, 6), (131, 7), (131, 8), (131, 9), (131, 10), (131, 11), (131, 13), (131, 14), (136, 0), (136, 1), (136, 2), (149, 2), (149, 3), (149, 4), (149, 5), (149, 6), (149, 7), (149, 8), (149, 9), (149, 10), (149, 11), (149, 12), (149, 13), (149, 14), (149, 15), (150, 0), (150, 1), (150, 2), (150, 3), (150, 4), (150, 5), (150, 6), (156, 0), (156, 1), (156, 2), (170, -1), (171, -1), (172, -1)] S G S97 G98 := gr_rs g91 r96 z71 rfl
                        have ci114 : CI E S97 G98 := ci_rs ci94 tk95 r96 n67l rfl rfl (fun e => absurd e (by decide)) (fun e => absurd e (by decide))
                        refine r_ex hX hP 1 (pc' := 202) (st' := [(2, this)]) (lo' := [(0, (2, this)), (1, (0, paper)), (2, (0, n)), (3, (0, ex)), (4, (0, record)), (5, (0, last)), (6, (0, known)), (7, (0, l7_j72)), (8, (2, z46)), (9, (2, n67))]) rfl ?_
                        refine r_getKR hX hP rfl fl_X11_37_128 s100 (x := ef5) e104 ?_
                        refine r_ex hX hP 1 (pc' := 207) (st' := [(2, n67), (2, ef5)]) (lo' := [(0, (2, this)), (1, (0, paper)), (2, (0, n)), (3, (0, ex)), (4, (0, record)), (5, (0, last)), (6, (0, known)), (7, (0, l7_j72)), (8, (2, z46)), (9, (2, n67))]) rfl ?_
                        refine r_tk hX (fun tk115 => ?_)
                        refine r_callV gd hX hP rfl cv_X11_143_156 s101 (d' := 14) (mc' := 1) (ms' := 22) (as' := [(2, n67)]) (st := []) (by omega) (by omega) (by omega) rfl rfl (Nat.le_of_ble_eq_true rfl) (c_add_Lev E S97 G98 ef5 n67 s101 r96.1 sip6 e105 (by omega) ci114) ?_
                        rintro _ S116 G117 ⟨g118, z119, rfl, z119a, z119b, ci120, q121⟩
                        have s122 : S116 this = 128 := gr_lab g118 s100 (by decide)
                        have s123 : S116 ef5 = 156 := gr_lab g118 s101 (by decide)
                        have s124 : S116 rf39 = 131 := gr_lab g118 s102 (by decide)
                        have s125 : S116 z46 = 136 := gr_lab g118 s103 (by decide)
                        have s126 : S116 n67 = 137 := gr_lab g118 r96.1 (by decide)
                        have e127 : ef5 = G117 128 this 8 := gr_val g118 e104 s100 (by decide) rfl
                        have e128 : lf10 = G117 128 this 1 := gr_val g118 e106 s100 (by decide) rfl
                        have e129 : rf39 = G117 128 this 16 := gr_val g118 e107 s100 (by decide) rfl
                        have e130 : 0 = G117 131 rf39 0 := gr_val g118 e108 s102 (by decide) rfl
                        have e131 : z46 = G117 137 n67 3 := gr_val g118 e109 r96.1 (by decide) rfl
                        have e132 : ex = G117 137 n67 4 := gr_val g118 e110 r96.1 (by decide) rfl
                        have e133 : record = G117 137 n67 5 := gr_val g118 e111 r96.1 (by decide) rfl
                        have e134 : last = G117 137 n67 6 := gr_val g118 e112 r96.1 (by decide) rfl
                        have g135 : Gr [119, 120, 121, 122, 123, 124, 125, 126, 127, 136, 137, 149, 150, 160, 161, 162, 163, 164, 165, 166, 167, 168, 169, 170, 171, 172, 173, 174, 175, 176, 177, 178, 179, 180, 181, 182, 183, 184, 185] [(106, -1), (107, -1), (119, -1), (120, -1), (121, -1), (122, -1), (123, -1), (124, -1), (128, 0), (128, 1), (129, 1), (131, 0), (131, 1), (131, 2), (131, 4), (131, 5), (131, 6), (131, 7), (131, 8), (131, 9), (131, 10), (131, 11), (131, 13), (131, 14), (136, 0), (136, 1), (136, 2), (149, 2), (149, 3), (149, 4), (149, 5), (149, 6), (149, 7), (149, 8), (149, 9), (149, 10), (149, 11), (149, 12), (149, 13), (149, 14), (149, 15), (150, 0), (150, 1), (150, 2), (150, 3), (150, 4), (150, 5), (150, 6), (156, 0), (156, 1), (156, 2), (170, -1), (171, -1), (172, -1)] S G S116 G117 := gr_call g113 g118 rfl rfl
                        refine r_ex hX hP 3 (pc' := 214) (st' := [(0, known), (2, this)]) (lo' := [(0, (2, this)), (1, (0, paper)), (2, (0, n)), (3, (0, ex)), (4, (0, record)), (5, (0, last)), (6, (0, known)), (7, (0, l7_j72)), (8, (2, z46)), (9, (2, n67))]) rfl ?_
                        refine r_callV gd hX hP rfl cv_X11_147_128 s122 (d' := 0) (mc' := 0) (ms' := 0) (as' := [(0, known)]) (st := []) (by omega) (by omega) (by omega) rfl rfl (Nat.le_of_ble_eq_true rfl) (c_X11_tell E S116 G117 this known s122 (by omega) (by omega)) ?_
                        rintro _ _ _ ⟨rfl, ⟨G136, rfl⟩, rfl, -⟩
                        refine r_ex hX hP 1 (pc' := 218) (st' := [(2, this)]) (lo' := [(0, (2, this)), (1, (0, paper)), (2, (0, n)), (3, (0, ex)), (4, (0, record)), (5, (0, last)), (6, (0, known)), (7, (0, l7_j72)), (8, (2, z46)), (9, (2, n67))]) rfl ?_
                        refine r_getKR hX hP rfl fl_X11_37_128 s122 (x := ef5) e127 ?_
                        refine r_peekI hX (tl_156 2 rfl (by decide)) s123 (fun sip137 sip137e sip137a sip137b => ?_)
                        refine r_callV gd hX hP rfl cv_X11_125_156 s123 (d' := 0) (mc' := 0) (ms' := 0) (as' := []) (st := []) (by omega) (by omega) (by omega) rfl rfl (Nat.le_of_ble_eq_true rfl) (c_size_Lev E S116 (hw [(128, 1), (129, 1)] G117 G136) ef5  s123 sip137 sip137e) ?_
                        rintro _ _ _ ⟨rfl, rfl, z138, rfl, z138a, z138b, f139⟩
                        refine r_ex hX hP 2 (pc' := 226) (st' := [(0, (z138 - 1))]) (lo' := [(0, (2, this)), (1, (0, paper)), (2, (0, n)), (3, (0, ex)), (4, (0, record)), (5, (0, last)), (6, (0, known)), (7, (0, l7_j72)), (8, (2, z46)), (9, (2, n67))]) rfl ?_
                        have g140 : Gr [119, 120, 121, 122, 123, 124, 125, 126, 127, 136, 137, 149, 150, 160, 161, 162, 163, 164, 165, 166, 167, 168, 169, 170, 171, 172, 173, 174, 175, 176, 177, 178, 179, 180, 181, 182, 183, 184, 185] [(106, -1), (107, -1), (119, -1), (120, -1), (121, -1), (122, -1), (123, -1), (124, -1), (128, 0), (128, 1), (129, 1), (131, 0), (131, 1), (131, 2), (131, 4), (131, 5), (131, 6), (131, 7), (131, 8), (131, 9), (131, 10), (131, 11), (131, 13), (131, 14), (136, 0), (136, 1), (136, 2), (149, 2), (149, 3), (149, 4), (149, 5), (149, 6), (149, 7), (149, 8), (149, 9), (149, 10), (149, 11), (149, 12), (149, 13), (149, 14), (149, 15), (150, 0), (150, 1), (150, 2), (150, 3), (150, 4), (150, 5), (150, 6), (156, 0), (156, 1), (156, 2), (170, -1), (171, -1), (172, -1)] S G S116 (hw [(128, 1), (129, 1)] G117 G136) := (gr_hw g135 rfl)
                        have ci141 : CI E S116 (hw [(128, 1), (129, 1)] G117 G136) := (ci_hw ci120 rfl)
                        exact r_retI hX hP rfl rfl (by omega) (by omega) ⟨g140, (z138 - 1), rfl, (by omega), (by omega), ci141⟩
                      · skip
                        exfalso; omega
                  · skip
                    refine r_ex hX hP 2 (pc' := 159) (st' := [(0, 6), (2, this)]) (lo' := [(0, (2, this)), (1, (0, paper)), (2, (0, n)), (3, (0, ex)), (4, (0, record)), (5, (0, last)), (6, (0, known)), (7, (0, l7_j72)), (8, (2, z46))]) rfl ?_
                    refine r_callV gd hX hP rfl cv_X11_90_128 s48 (d' := 0) (mc' := 0) (ms' := 0) (as' := [(0, 6)]) (st := []) (by omega) (by omega) (by omega) rfl rfl (Nat.le_of_ble_eq_true rfl) (c_X11_refused E S43 (up G44 131 rf39 0 0) this 6 s48 (by omega) (by omega)) ?_
                    rintro _ _ _ ⟨rfl, ⟨G142, rfl⟩, z143, rfl, (⟨rfl, f144⟩ | ⟨rfl, f145⟩)⟩
                    · skip
                      refine r_if_eq hX hP rfl (tgt := 167) rfl (by omega) (by omega) (fun c146 => ?_) (fun c146 => ?_)
                      · skip
                        exfalso; omega
                      · skip
                        refine r_ex hX hP 1 (pc' := 166) (st' := [(0, (-1))]) (lo' := [(0, (2, this)), (1, (0, paper)), (2, (0, n)), (3, (0, ex)), (4, (0, record)), (5, (0, last)), (6, (0, known)), (7, (0, l7_j72)), (8, (2, z46))]) rfl ?_
                        have g147 : Gr [119, 120, 121, 122, 123, 124, 125, 126, 127, 136, 137, 149, 150, 160, 161, 162, 163, 164, 165, 166, 167, 168, 169, 170, 171, 172, 173, 174, 175, 176, 177, 178, 179, 180, 181, 182, 183, 184, 185] [(106, -1), (107, -1), (119, -1), (120, -1), (121, -1), (122, -1), (123, -1), (124, -1), (128, 0), (128, 1), (129, 1), (131, 0), (131, 1), (131, 2), (131, 4), (131, 5), (131, 6), (131, 7), (131, 8), (131, 9), (131, 10), (131, 11), (131, 13), (131, 14), (136, 0), (136, 1), (136, 2), (149, 2), (149, 3), (149, 4), (149, 5), (149, 6), (149, 7), (149, 8), (149, 9), (149, 10), (149, 11), (149, 12), (149, 13), (149, 14), (149, 15), (150, 0), (150, 1), (150, 2), (150, 3), (150, 4), (150, 5), (150, 6), (156, 0), (156, 1), (156, 2), (170, -1), (171, -1), (172, -1)] S G S43 (hw [(128, 0)] (up G44 131 rf39 0 0) G142) := (gr_hw (gr_up g55 rfl) rfl)
                        have ci148 : CI E S43 (hw [(128, 0)] (up G44 131 rf39 0 0) G142) := (ci_hw (ci_up ci47 rfl) rfl)
                        exact r_retI hX hP rfl rfl (by omega) (by omega) ⟨g147, (-1), rfl, (by omega), (by omega), ci148⟩
                    · skip
                      exfalso; omega
                · skip
                  exfalso; omega
          · skip
            refine r_ex hX hP 2 (pc' := 118) (st' := [(0, 1), (0, 0), (0, l7_j72), (0, 0), (2, this)]) (lo' := [(0, (2, this)), (1, (0, paper)), (2, (0, n)), (3, (0, ex)), (4, (0, record)), (5, (0, last)), (6, (0, known)), (7, (0, l7_j72))]) rfl ?_
            refine r_callS gd hX hP rfl cs_X11_112 (d' := 0) (mc' := 0) (ms' := 0) (as' := [(0, 0), (0, l7_j72), (0, 0), (0, 1)]) (st := [(2, this)]) (by omega) (by omega) (by omega) rfl rfl (Nat.le_of_ble_eq_true rfl) (c_X11_first E S G 0 l7_j72 0 1 (by omega) (by omega) (by omega) (by omega) (by omega) (by omega) (by omega) (by omega)) ?_
            rintro _ _ _ ⟨rfl, rfl, z149, rfl, (⟨rfl, f150⟩ | ⟨rfl, f151, f152⟩ | ⟨rfl, f153, f154, f155⟩ | ⟨rfl, f156, f157, f158, f159⟩ | ⟨rfl, f160, f161, f162, f163⟩)⟩
            · skip
              exfalso; omega
            · skip
              refine r_callV gd hX hP rfl cv_X11_90_128 hS (d' := 0) (mc' := 0) (ms' := 0) (as' := [(0, 2)]) (st := []) (by omega) (by omega) (by omega) rfl rfl (Nat.le_of_ble_eq_true rfl) (c_X11_refused E S G this 2 hS (by omega) (by omega)) ?_
              rintro _ _ _ ⟨rfl, ⟨G164, rfl⟩, z165, rfl, (⟨rfl, f166⟩ | ⟨rfl, f167⟩)⟩
              · skip
                refine r_if_eq hX hP rfl (tgt := 129) rfl (by omega) (by omega) (fun c168 => ?_) (fun c168 => ?_)
                · skip
                  exfalso; omega
                · skip
                  refine r_ex hX hP 1 (pc' := 128) (st' := [(0, (-1))]) (lo' := [(0, (2, this)), (1, (0, paper)), (2, (0, n)), (3, (0, ex)), (4, (0, record)), (5, (0, last)), (6, (0, known)), (7, (0, l7_j72))]) rfl ?_
                  have g169 : Gr [119, 120, 121, 122, 123, 124, 125, 126, 127, 136, 137, 149, 150, 160, 161, 162, 163, 164, 165, 166, 167, 168, 169, 170, 171, 172, 173, 174, 175, 176, 177, 178, 179, 180, 181, 182, 183, 184, 185] [(106, -1), (107, -1), (119, -1), (120, -1), (121, -1), (122, -1), (123, -1), (124, -1), (128, 0), (128, 1), (129, 1), (131, 0), (131, 1), (131, 2), (131, 4), (131, 5), (131, 6), (131, 7), (131, 8), (131, 9), (131, 10), (131, 11), (131, 13), (131, 14), (136, 0), (136, 1), (136, 2), (149, 2), (149, 3), (149, 4), (149, 5), (149, 6), (149, 7), (149, 8), (149, 9), (149, 10), (149, 11), (149, 12), (149, 13), (149, 14), (149, 15), (150, 0), (150, 1), (150, 2), (150, 3), (150, 4), (150, 5), (150, 6), (156, 0), (156, 1), (156, 2), (170, -1), (171, -1), (172, -1)] S G S (hw [(128, 0)] G G164) := (gr_hw (gr_refl [119, 120, 121, 122, 123, 124, 125, 126, 127, 136, 137, 149, 150, 160, 161, 162, 163, 164, 165, 166, 167, 168, 169, 170, 171, 172, 173, 174, 175, 176, 177, 178, 179, 180, 181, 182, 183, 184, 185] [(106, -1), (107, -1), (119, -1), (120, -1), (121, -1), (122, -1), (123, -1), (124, -1), (128, 0), (128, 1), (129, 1), (131, 0), (131, 1), (131, 2), (131, 4), (131, 5), (131, 6), (131, 7), (131, 8), (131, 9), (131, 10), (131, 11), (131, 13), (131, 14), (136, 0), (136, 1), (136, 2), (149, 2), (149, 3), (149, 4), (149, 5), (149, 6), (149, 7), (149, 8), (149, 9), (149, 10), (149, 11), (149, 12), (149, 13), (149, 14), (149, 15), (150, 0), (150, 1), (150, 2), (150, 3), (150, 4), (150, 5), (150, 6), (156, 0), (156, 1), (156, 2), (170, -1), (171, -1), (172, -1)] S G) rfl)
                  have ci170 : CI E S (hw [(128, 0)] G G164) := (ci_hw ci rfl)
                  exact r_retI hX hP rfl rfl (by omega) (by omega) ⟨g169, (-1), rfl, (by omega), (by omega), ci170⟩
              · skip
                exfalso; omega
            · skip
              exfalso; omega
            · skip
              refine r_callV gd hX hP rfl cv_X11_90_128 hS (d' := 0) (mc' := 0) (ms' := 0) (as' := [(0, 4)]) (st := []) (by omega) (by omega) (by omega) rfl rfl (Nat.le_of_ble_eq_true rfl) (c_X11_refused E S G this 4 hS (by omega) (by omega)) ?_
              rintro _ _ _ ⟨rfl, ⟨G171, rfl⟩, z172, rfl, (⟨rfl, f173⟩ | ⟨rfl, f174⟩)⟩
              · skip
                refine r_if_eq hX hP rfl (tgt := 129) rfl (by omega) (by omega) (fun c175 => ?_) (fun c175 => ?_)
                · skip
                  exfalso; omega
                · skip
                  refine r_ex hX hP 1 (pc' := 128) (st' := [(0, (-1))]) (lo' := [(0, (2, this)), (1, (0, paper)), (2, (0, n)), (3, (0, ex)), (4, (0, record)), (5, (0, last)), (6, (0, known)), (7, (0, l7_j72))]) rfl ?_
                  have g176 : Gr [119, 120, 121, 122, 123, 124, 125, 126, 127, 136, 137, 149, 150, 160, 161, 162, 163, 164, 165, 166, 167, 168, 169, 170, 171, 172, 173, 174, 175, 176, 177, 178, 179, 180, 181, 182, 183, 184, 185] [(106, -1), (107, -1), (119, -1), (120, -1), (121, -1), (122, -1), (123, -1), (124, -1), (128, 0), (128, 1), (129, 1), (131, 0), (131, 1), (131, 2), (131, 4), (131, 5), (131, 6), (131, 7), (131, 8), (131, 9), (131, 10), (131, 11), (131, 13), (131, 14), (136, 0), (136, 1), (136, 2), (149, 2), (149, 3), (149, 4), (149, 5), (149, 6), (149, 7), (149, 8), (149, 9), (149, 10), (149, 11), (149, 12), (149, 13), (149, 14), (149, 15), (150, 0), (150, 1), (150, 2), (150, 3), (150, 4), (150, 5), (150, 6), (156, 0), (156, 1), (156, 2), (170, -1), (171, -1), (172, -1)] S G S (hw [(128, 0)] G G171) := (gr_hw (gr_refl [119, 120, 121, 122, 123, 124, 125, 126, 127, 136, 137, 149, 150, 160, 161, 162, 163, 164, 165, 166, 167, 168, 169, 170, 171, 172, 173, 174, 175, 176, 177, 178, 179, 180, 181, 182, 183, 184, 185] [(106, -1), (107, -1), (119, -1), (120, -1), (121, -1), (122, -1), (123, -1), (124, -1), (128, 0), (128, 1), (129, 1), (131, 0), (131, 1), (131, 2), (131, 4), (131, 5), (131, 6), (131, 7), (131, 8), (131, 9), (131, 10), (131, 11), (131, 13), (131, 14), (136, 0), (136, 1), (136, 2), (149, 2), (149, 3), (149, 4), (149, 5), (149, 6), (149, 7), (149, 8), (149, 9), (149, 10), (149, 11), (149, 12), (149, 13), (149, 14), (149, 15), (150, 0), (150, 1), (150, 2), (150, 3), (150, 4), (150, 5), (150, 6), (156, 0), (156, 1), (156, 2), (170, -1), (171, -1), (172, -1)] S G) rfl)
                  have ci177 : CI E S (hw [(128, 0)] G G171) := (ci_hw ci rfl)
                  exact r_retI hX hP rfl rfl (by omega) (by omega) ⟨g176, (-1), rfl, (by omega), (by omega), ci177⟩
              · skip
                exfalso; omega
            · skip
              exfalso; omega
        · skip
          refine r_ex hX hP 4 (pc' := 107) (st' := [(2, this), (0, known), (0, 1), (0, l7_j72), (0, 0), (2, this)]) (lo' := [(0, (2, this)), (1, (0, paper)), (2, (0, n)), (3, (0, ex)), (4, (0, record)), (5, (0, last)), (6, (0, known)), (7, (0, l7_j72))]) rfl ?_
          refine r_getI hX hP rfl fl_X11_129_128 hS (fun lf178 lf178e lf178a lf178b => ?_)
          refine r_ic_ge hX hP rfl (tgt := 117) rfl (by omega) (by omega) (by omega) (by omega) (fun c179 => ?_) (fun c179 => ?_)
          · skip
            refine r_ex hX hP 1 (pc' := 118) (st' := [(0, 0), (0, 1), (0, l7_j72), (0, 0), (2, this)]) (lo' := [(0, (2, this)), (1, (0, paper)), (2, (0, n)), (3, (0, ex)), (4, (0, record)), (5, (0, last)), (6, (0, known)), (7, (0, l7_j72))]) rfl ?_
            refine r_callS gd hX hP rfl cs_X11_112 (d' := 0) (mc' := 0) (ms' := 0) (as' := [(0, 0), (0, l7_j72), (0, 1), (0, 0)]) (st := [(2, this)]) (by omega) (by omega) (by omega) rfl rfl (Nat.le_of_ble_eq_true rfl) (c_X11_first E S G 0 l7_j72 1 0 (by omega) (by omega) (by omega) (by omega) (by omega) (by omega) (by omega) (by omega)) ?_
            rintro _ _ _ ⟨rfl, rfl, z180, rfl, (⟨rfl, f181⟩ | ⟨rfl, f182, f183⟩ | ⟨rfl, f184, f185, f186⟩ | ⟨rfl, f187, f188, f189, f190⟩ | ⟨rfl, f191, f192, f193, f194⟩)⟩
            · skip
              exfalso; omega
            · skip
              refine r_callV gd hX hP rfl cv_X11_90_128 hS (d' := 0) (mc' := 0) (ms' := 0) (as' := [(0, 2)]) (st := []) (by omega) (by omega) (by omega) rfl rfl (Nat.le_of_ble_eq_true rfl) (c_X11_refused E S G this 2 hS (by omega) (by omega)) ?_
              rintro _ _ _ ⟨rfl, ⟨G195, rfl⟩, z196, rfl, (⟨rfl, f197⟩ | ⟨rfl, f198⟩)⟩
              · skip
                refine r_if_eq hX hP rfl (tgt := 129) rfl (by omega) (by omega) (fun c199 => ?_) (fun c199 => ?_)
                · skip
                  exfalso; omega
                · skip
                  refine r_ex hX hP 1 (pc' := 128) (st' := [(0, (-1))]) (lo' := [(0, (2, this)), (1, (0, paper)), (2, (0, n)), (3, (0, ex)), (4, (0, record)), (5, (0, last)), (6, (0, known)), (7, (0, l7_j72))]) rfl ?_
                  have g200 : Gr [119, 120, 121, 122, 123, 124, 125, 126, 127, 136, 137, 149, 150, 160, 161, 162, 163, 164, 165, 166, 167, 168, 169, 170, 171, 172, 173, 174, 175, 176, 177, 178, 179, 180, 181, 182, 183, 184, 185] [(106, -1), (107, -1), (119, -1), (120, -1), (121, -1), (122, -1), (123, -1), (124, -1), (128, 0), (128, 1), (129, 1), (131, 0), (131, 1), (131, 2), (131, 4), (131, 5), (131, 6), (131, 7), (131, 8), (131, 9), (131, 10), (131, 11), (131, 13), (131, 14), (136, 0), (136, 1), (136, 2), (149, 2), (149, 3), (149, 4), (149, 5), (149, 6), (149, 7), (149, 8), (149, 9), (149, 10), (149, 11), (149, 12), (149, 13), (149, 14), (149, 15), (150, 0), (150, 1), (150, 2), (150, 3), (150, 4), (150, 5), (150, 6), (156, 0), (156, 1), (156, 2), (170, -1), (171, -1), (172, -1)] S G S (hw [(128, 0)] G G195) := (gr_hw (gr_refl [119, 120, 121, 122, 123, 124, 125, 126, 127, 136, 137, 149, 150, 160, 161, 162, 163, 164, 165, 166, 167, 168, 169, 170, 171, 172, 173, 174, 175, 176, 177, 178, 179, 180, 181, 182, 183, 184, 185] [(106, -1), (107, -1), (119, -1), (120, -1), (121, -1), (122, -1), (123, -1), (124, -1), (128, 0), (128, 1), (129, 1), (131, 0), (131, 1), (131, 2), (131, 4), (131, 5), (131, 6), (131, 7), (131, 8), (131, 9), (131, 10), (131, 11), (131, 13), (131, 14), (136, 0), (136, 1), (136, 2), (149, 2), (149, 3), (149, 4), (149, 5), (149, 6), (149, 7), (149, 8), (149, 9), (149, 10), (149, 11), (149, 12), (149, 13), (149, 14), (149, 15), (150, 0), (150, 1), (150, 2), (150, 3), (150, 4), (150, 5), (150, 6), (156, 0), (156, 1), (156, 2), (170, -1), (171, -1), (172, -1)] S G) rfl)
                  have ci201 : CI E S (hw [(128, 0)] G G195) := (ci_hw ci rfl)
                  exact r_retI hX hP rfl rfl (by omega) (by omega) ⟨g200, (-1), rfl, (by omega), (by omega), ci201⟩
              · skip
                exfalso; omega
            · skip
              refine r_callV gd hX hP rfl cv_X11_90_128 hS (d' := 0) (mc' := 0) (ms' := 0) (as' := [(0, 3)]) (st := []) (by omega) (by omega) (by omega) rfl rfl (Nat.le_of_ble_eq_true rfl) (c_X11_refused E S G this 3 hS (by omega) (by omega)) ?_
              rintro _ _ _ ⟨rfl, ⟨G202, rfl⟩, z203, rfl, (⟨rfl, f204⟩ | ⟨rfl, f205⟩)⟩
              · skip
                refine r_if_eq hX hP rfl (tgt := 129) rfl (by omega) (by omega) (fun c206 => ?_) (fun c206 => ?_)
                · skip
                  exfalso; omega
                · skip
                  refine r_ex hX hP 1 (pc' := 128) (st' := [(0, (-1))]) (lo' := [(0, (2, this)), (1, (0, paper)), (2, (0, n)), (3, (0, ex)), (4, (0, record)), (5, (0, last)), (6, (0, known)), (7, (0, l7_j72))]) rfl ?_
                  have g207 : Gr [119, 120, 121, 122, 123, 124, 125, 126, 127, 136, 137, 149, 150, 160, 161, 162, 163, 164, 165, 166, 167, 168, 169, 170, 171, 172, 173, 174, 175, 176, 177, 178, 179, 180, 181, 182, 183, 184, 185] [(106, -1), (107, -1), (119, -1), (120, -1), (121, -1), (122, -1), (123, -1), (124, -1), (128, 0), (128, 1), (129, 1), (131, 0), (131, 1), (131, 2), (131, 4), (131, 5), (131, 6), (131, 7), (131, 8), (131, 9), (131, 10), (131, 11), (131, 13), (131, 14), (136, 0), (136, 1), (136, 2), (149, 2), (149, 3), (149, 4), (149, 5), (149, 6), (149, 7), (149, 8), (149, 9), (149, 10), (149, 11), (149, 12), (149, 13), (149, 14), (149, 15), (150, 0), (150, 1), (150, 2), (150, 3), (150, 4), (150, 5), (150, 6), (156, 0), (156, 1), (156, 2), (170, -1), (171, -1), (172, -1)] S G S (hw [(128, 0)] G G202) := (gr_hw (gr_refl [119, 120, 121, 122, 123, 124, 125, 126, 127, 136, 137, 149, 150, 160, 161, 162, 163, 164, 165, 166, 167, 168, 169, 170, 171, 172, 173, 174, 175, 176, 177, 178, 179, 180, 181, 182, 183, 184, 185] [(106, -1), (107, -1), (119, -1), (120, -1), (121, -1), (122, -1), (123, -1), (124, -1), (128, 0), (128, 1), (129, 1), (131, 0), (131, 1), (131, 2), (131, 4), (131, 5), (131, 6), (131, 7), (131, 8), (131, 9), (131, 10), (131, 11), (131, 13), (131, 14), (136, 0), (136, 1), (136, 2), (149, 2), (149, 3), (149, 4), (149, 5), (149, 6), (149, 7), (149, 8), (149, 9), (149, 10), (149, 11), (149, 12), (149, 13), (149, 14), (149, 15), (150, 0), (150, 1), (150, 2), (150, 3), (150, 4), (150, 5), (150, 6), (156, 0), (156, 1), (156, 2), (170, -1), (171, -1), (172, -1)] S G) rfl)
                  have ci208 : CI E S (hw [(128, 0)] G G202) := (ci_hw ci rfl)
                  exact r_retI hX hP rfl rfl (by omega) (by omega) ⟨g207, (-1), rfl, (by omega), (by omega), ci208⟩
              · skip
                exfalso; omega
            · skip
              exfalso; omega
            · skip
              exfalso; omega
          · skip
            refine r_ex hX hP 2 (pc' := 118) (st' := [(0, 1), (0, 1), (0, l7_j72), (0, 0), (2, this)]) (lo' := [(0, (2, this)), (1, (0, paper)), (2, (0, n)), (3, (0, ex)), (4, (0, record)), (5, (0, last)), (6, (0, known)), (7, (0, l7_j72))]) rfl ?_
            refine r_callS gd hX hP rfl cs_X11_112 (d' := 0) (mc' := 0) (ms' := 0) (as' := [(0, 0), (0, l7_j72), (0, 1), (0, 1)]) (st := [(2, this)]) (by omega) (by omega) (by omega) rfl rfl (Nat.le_of_ble_eq_true rfl) (c_X11_first E S G 0 l7_j72 1 1 (by omega) (by omega) (by omega) (by omega) (by omega) (by omega) (by omega) (by omega)) ?_
            rintro _ _ _ ⟨rfl, rfl, z209, rfl, (⟨rfl, f210⟩ | ⟨rfl, f211, f212⟩ | ⟨rfl, f213, f214, f215⟩ | ⟨rfl, f216, f217, f218, f219⟩ | ⟨rfl, f220, f221, f222, f223⟩)⟩
            · skip
              exfalso; omega
            · skip
              refine r_callV gd hX hP rfl cv_X11_90_128 hS (d' := 0) (mc' := 0) (ms' := 0) (as' := [(0, 2)]) (st := []) (by omega) (by omega) (by omega) rfl rfl (Nat.le_of_ble_eq_true rfl) (c_X11_refused E S G this 2 hS (by omega) (by omega)) ?_
              rintro _ _ _ ⟨rfl, ⟨G224, rfl⟩, z225, rfl, (⟨rfl, f226⟩ | ⟨rfl, f227⟩)⟩
              · skip
                refine r_if_eq hX hP rfl (tgt := 129) rfl (by omega) (by omega) (fun c228 => ?_) (fun c228 => ?_)
                · skip
                  exfalso; omega
                · skip
                  refine r_ex hX hP 1 (pc' := 128) (st' := [(0, (-1))]) (lo' := [(0, (2, this)), (1, (0, paper)), (2, (0, n)), (3, (0, ex)), (4, (0, record)), (5, (0, last)), (6, (0, known)), (7, (0, l7_j72))]) rfl ?_
                  have g229 : Gr [119, 120, 121, 122, 123, 124, 125, 126, 127, 136, 137, 149, 150, 160, 161, 162, 163, 164, 165, 166, 167, 168, 169, 170, 171, 172, 173, 174, 175, 176, 177, 178, 179, 180, 181, 182, 183, 184, 185] [(106, -1), (107, -1), (119, -1), (120, -1), (121, -1), (122, -1), (123, -1), (124, -1), (128, 0), (128, 1), (129, 1), (131, 0), (131, 1), (131, 2), (131, 4), (131, 5), (131, 6), (131, 7), (131, 8), (131, 9), (131, 10), (131, 11), (131, 13), (131, 14), (136, 0), (136, 1), (136, 2), (149, 2), (149, 3), (149, 4), (149, 5), (149, 6), (149, 7), (149, 8), (149, 9), (149, 10), (149, 11), (149, 12), (149, 13), (149, 14), (149, 15), (150, 0), (150, 1), (150, 2), (150, 3), (150, 4), (150, 5), (150, 6), (156, 0), (156, 1), (156, 2), (170, -1), (171, -1), (172, -1)] S G S (hw [(128, 0)] G G224) := (gr_hw (gr_refl [119, 120, 121, 122, 123, 124, 125, 126, 127, 136, 137, 149, 150, 160, 161, 162, 163, 164, 165, 166, 167, 168, 169, 170, 171, 172, 173, 174, 175, 176, 177, 178, 179, 180, 181, 182, 183, 184, 185] [(106, -1), (107, -1), (119, -1), (120, -1), (121, -1), (122, -1), (123, -1), (124, -1), (128, 0), (128, 1), (129, 1), (131, 0), (131, 1), (131, 2), (131, 4), (131, 5), (131, 6), (131, 7), (131, 8), (131, 9), (131, 10), (131, 11), (131, 13), (131, 14), (136, 0), (136, 1), (136, 2), (149, 2), (149, 3), (149, 4), (149, 5), (149, 6), (149, 7), (149, 8), (149, 9), (149, 10), (149, 11), (149, 12), (149, 13), (149, 14), (149, 15), (150, 0), (150, 1), (150, 2), (150, 3), (150, 4), (150, 5), (150, 6), (156, 0), (156, 1), (156, 2), (170, -1), (171, -1), (172, -1)] S G) rfl)
                  have ci230 : CI E S (hw [(128, 0)] G G224) := (ci_hw ci rfl)
                  exact r_retI hX hP rfl rfl (by omega) (by omega) ⟨g229, (-1), rfl, (by omega), (by omega), ci230⟩
              · skip
                exfalso; omega
            · skip
              refine r_callV gd hX hP rfl cv_X11_90_128 hS (d' := 0) (mc' := 0) (ms' := 0) (as' := [(0, 3)]) (st := []) (by omega) (by omega) (by omega) rfl rfl (Nat.le_of_ble_eq_true rfl) (c_X11_refused E S G this 3 hS (by omega) (by omega)) ?_
              rintro _ _ _ ⟨rfl, ⟨G231, rfl⟩, z232, rfl, (⟨rfl, f233⟩ | ⟨rfl, f234⟩)⟩
              · skip
                refine r_if_eq hX hP rfl (tgt := 129) rfl (by omega) (by omega) (fun c235 => ?_) (fun c235 => ?_)
                · skip
                  exfalso; omega
                · skip
                  refine r_ex hX hP 1 (pc' := 128) (st' := [(0, (-1))]) (lo' := [(0, (2, this)), (1, (0, paper)), (2, (0, n)), (3, (0, ex)), (4, (0, record)), (5, (0, last)), (6, (0, known)), (7, (0, l7_j72))]) rfl ?_
                  have g236 : Gr [119, 120, 121, 122, 123, 124, 125, 126, 127, 136, 137, 149, 150, 160, 161, 162, 163, 164, 165, 166, 167, 168, 169, 170, 171, 172, 173, 174, 175, 176, 177, 178, 179, 180, 181, 182, 183, 184, 185] [(106, -1), (107, -1), (119, -1), (120, -1), (121, -1), (122, -1), (123, -1), (124, -1), (128, 0), (128, 1), (129, 1), (131, 0), (131, 1), (131, 2), (131, 4), (131, 5), (131, 6), (131, 7), (131, 8), (131, 9), (131, 10), (131, 11), (131, 13), (131, 14), (136, 0), (136, 1), (136, 2), (149, 2), (149, 3), (149, 4), (149, 5), (149, 6), (149, 7), (149, 8), (149, 9), (149, 10), (149, 11), (149, 12), (149, 13), (149, 14), (149, 15), (150, 0), (150, 1), (150, 2), (150, 3), (150, 4), (150, 5), (150, 6), (156, 0), (156, 1), (156, 2), (170, -1), (171, -1), (172, -1)] S G S (hw [(128, 0)] G G231) := (gr_hw (gr_refl [119, 120, 121, 122, 123, 124, 125, 126, 127, 136, 137, 149, 150, 160, 161, 162, 163, 164, 165, 166, 167, 168, 169, 170, 171, 172, 173, 174, 175, 176, 177, 178, 179, 180, 181, 182, 183, 184, 185] [(106, -1), (107, -1), (119, -1), (120, -1), (121, -1), (122, -1), (123, -1), (124, -1), (128, 0), (128, 1), (129, 1), (131, 0), (131, 1), (131, 2), (131, 4), (131, 5), (131, 6), (131, 7), (131, 8), (131, 9), (131, 10), (131, 11), (131, 13), (131, 14), (136, 0), (136, 1), (136, 2), (149, 2), (149, 3), (149, 4), (149, 5), (149, 6), (149, 7), (149, 8), (149, 9), (149, 10), (149, 11), (149, 12), (149, 13), (149, 14), (149, 15), (150, 0), (150, 1), (150, 2), (150, 3), (150, 4), (150, 5), (150, 6), (156, 0), (156, 1), (156, 2), (170, -1), (171, -1), (172, -1)] S G) rfl)
                  have ci237 : CI E S (hw [(128, 0)] G G231) := (ci_hw ci rfl)
                  exact r_retI hX hP rfl rfl (by omega) (by omega) ⟨g236, (-1), rfl, (by omega), (by omega), ci237⟩
              · skip
                exfalso; omega
            · skip
              exfalso; omega
            · skip
              exfalso; omega
      · skip
        exfalso; omega
    · skip
      refine r_if_ne hX hP rfl (tgt := 84) rfl (by omega) (by omega) (fun c238 => ?_) (fun c238 => ?_)
      · skip
        exfalso; omega
      · skip
        refine r_ex hX hP 4 (pc' := 88) (st' := [(2, this), (0, l7_j72), (0, 1), (2, this)]) (lo' := [(0, (2, this)), (1, (0, paper)), (2, (0, n)), (3, (0, ex)), (4, (0, record)), (5, (0, last)), (6, (0, known)), (7, (0, l7_j72))]) rfl ?_
        refine r_getR hX hP rfl fl_X11_37_128 hS (fun ef239 ef239e ef239s => ?_)
        refine r_peekI hX (tl_156 2 rfl (by decide)) ef239s (fun sip240 sip240e sip240a sip240b => ?_)
        refine r_callV gd hX hP rfl cv_X11_125_156 ef239s (d' := 0) (mc' := 0) (ms' := 0) (as' := []) (st := [(0, l7_j72), (0, 1), (2, this)]) (by omega) (by omega) (by omega) rfl rfl (Nat.le_of_ble_eq_true rfl) (c_size_Lev E S G ef239  ef239s sip240 sip240e) ?_
        rintro _ _ _ ⟨rfl, rfl, z241, rfl, z241a, z241b, f242⟩
        refine r_ex hX hP 1 (pc' := 96) (st' := [(0, 16), (0, z241), (0, l7_j72), (0, 1), (2, this)]) (lo' := [(0, (2, this)), (1, (0, paper)), (2, (0, n)), (3, (0, ex)), (4, (0, record)), (5, (0, last)), (6, (0, known)), (7, (0, l7_j72))]) rfl ?_
        refine r_ic_lt hX hP rfl (tgt := 103) rfl (by omega) (by omega) (by omega) (by omega) (fun c243 => ?_) (fun c243 => ?_)
        · skip
          refine r_ex hX hP 3 (pc' := 107) (st' := [(2, this), (0, known), (0, 0), (0, l7_j72), (0, 1), (2, this)]) (lo' := [(0, (2, this)), (1, (0, paper)), (2, (0, n)), (3, (0, ex)), (4, (0, record)), (5, (0, last)), (6, (0, known)), (7, (0, l7_j72))]) rfl ?_
          refine r_getI hX hP rfl fl_X11_129_128 hS (fun lf244 lf244e lf244a lf244b => ?_)
          refine r_ic_ge hX hP rfl (tgt := 117) rfl (by omega) (by omega) (by omega) (by omega) (fun c245 => ?_) (fun c245 => ?_)
          · skip
            refine r_ex hX hP 1 (pc' := 118) (st' := [(0, 0), (0, 0), (0, l7_j72), (0, 1), (2, this)]) (lo' := [(0, (2, this)), (1, (0, paper)), (2, (0, n)), (3, (0, ex)), (4, (0, record)), (5, (0, last)), (6, (0, known)), (7, (0, l7_j72))]) rfl ?_
            refine r_callS gd hX hP rfl cs_X11_112 (d' := 0) (mc' := 0) (ms' := 0) (as' := [(0, 1), (0, l7_j72), (0, 0), (0, 0)]) (st := [(2, this)]) (by omega) (by omega) (by omega) rfl rfl (Nat.le_of_ble_eq_true rfl) (c_X11_first E S G 1 l7_j72 0 0 (by omega) (by omega) (by omega) (by omega) (by omega) (by omega) (by omega) (by omega)) ?_
            rintro _ _ _ ⟨rfl, rfl, z246, rfl, (⟨rfl, f247⟩ | ⟨rfl, f248, f249⟩ | ⟨rfl, f250, f251, f252⟩ | ⟨rfl, f253, f254, f255, f256⟩ | ⟨rfl, f257, f258, f259, f260⟩)⟩
            · skip
              refine r_callV gd hX hP rfl cv_X11_90_128 hS (d' := 0) (mc' := 0) (ms' := 0) (as' := [(0, 1)]) (st := []) (by omega) (by omega) (by omega) rfl rfl (Nat.le_of_ble_eq_true rfl) (c_X11_refused E S G this 1 hS (by omega) (by omega)) ?_
              rintro _ _ _ ⟨rfl, ⟨G261, rfl⟩, z262, rfl, (⟨rfl, f263⟩ | ⟨rfl, f264⟩)⟩
              · skip
                refine r_if_eq hX hP rfl (tgt := 129) rfl (by omega) (by omega) (fun c265 => ?_) (fun c265 => ?_)
                · skip
                  exfalso; omega
                · skip
                  refine r_ex hX hP 1 (pc' := 128) (st' := [(0, (-1))]) (lo' := [(0, (2, this)), (1, (0, paper)), (2, (0, n)), (3, (0, ex)), (4, (0, record)), (5, (0, last)), (6, (0, known)), (7, (0, l7_j72))]) rfl ?_
                  have g266 : Gr [119, 120, 121, 122, 123, 124, 125, 126, 127, 136, 137, 149, 150, 160, 161, 162, 163, 164, 165, 166, 167, 168, 169, 170, 171, 172, 173, 174, 175, 176, 177, 178, 179, 180, 181, 182, 183, 184, 185] [(106, -1), (107, -1), (119, -1), (120, -1), (121, -1), (122, -1), (123, -1), (124, -1), (128, 0), (128, 1), (129, 1), (131, 0), (131, 1), (131, 2), (131, 4), (131, 5), (131, 6), (131, 7), (131, 8), (131, 9), (131, 10), (131, 11), (131, 13), (131, 14), (136, 0), (136, 1), (136, 2), (149, 2), (149, 3), (149, 4), (149, 5), (149, 6), (149, 7), (149, 8), (149, 9), (149, 10), (149, 11), (149, 12), (149, 13), (149, 14), (149, 15), (150, 0), (150, 1), (150, 2), (150, 3), (150, 4), (150, 5), (150, 6), (156, 0), (156, 1), (156, 2), (170, -1), (171, -1), (172, -1)] S G S (hw [(128, 0)] G G261) := (gr_hw (gr_refl [119, 120, 121, 122, 123, 124, 125, 126, 127, 136, 137, 149, 150, 160, 161, 162, 163, 164, 165, 166, 167, 168, 169, 170, 171, 172, 173, 174, 175, 176, 177, 178, 179, 180, 181, 182, 183, 184, 185] [(106, -1), (107, -1), (119, -1), (120, -1), (121, -1), (122, -1), (123, -1), (124, -1), (128, 0), (128, 1), (129, 1), (131, 0), (131, 1), (131, 2), (131, 4), (131, 5), (131, 6), (131, 7), (131, 8), (131, 9), (131, 10), (131, 11), (131, 13), (131, 14), (136, 0), (136, 1), (136, 2), (149, 2), (149, 3), (149, 4), (149, 5), (149, 6), (149, 7), (149, 8), (149, 9), (149, 10), (149, 11), (149, 12), (149, 13), (149, 14), (149, 15), (150, 0), (150, 1), (150, 2), (150, 3), (150, 4), (150, 5), (150, 6), (156, 0), (156, 1), (156, 2), (170, -1), (171, -1), (172, -1)] S G) rfl)
                  have ci267 : CI E S (hw [(128, 0)] G G261) := (ci_hw ci rfl)
                  exact r_retI hX hP rfl rfl (by omega) (by omega) ⟨g266, (-1), rfl, (by omega), (by omega), ci267⟩
              · skip
                exfalso; omega
            · skip
              exfalso; omega
            · skip
              exfalso; omega
            · skip
              exfalso; omega
            · skip
              exfalso; omega
          · skip
            refine r_ex hX hP 2 (pc' := 118) (st' := [(0, 1), (0, 0), (0, l7_j72), (0, 1), (2, this)]) (lo' := [(0, (2, this)), (1, (0, paper)), (2, (0, n)), (3, (0, ex)), (4, (0, record)), (5, (0, last)), (6, (0, known)), (7, (0, l7_j72))]) rfl ?_
            refine r_callS gd hX hP rfl cs_X11_112 (d' := 0) (mc' := 0) (ms' := 0) (as' := [(0, 1), (0, l7_j72), (0, 0), (0, 1)]) (st := [(2, this)]) (by omega) (by omega) (by omega) rfl rfl (Nat.le_of_ble_eq_true rfl) (c_X11_first E S G 1 l7_j72 0 1 (by omega) (by omega) (by omega) (by omega) (by omega) (by omega) (by omega) (by omega)) ?_
            rintro _ _ _ ⟨rfl, rfl, z268, rfl, (⟨rfl, f269⟩ | ⟨rfl, f270, f271⟩ | ⟨rfl, f272, f273, f274⟩ | ⟨rfl, f275, f276, f277, f278⟩ | ⟨rfl, f279, f280, f281, f282⟩)⟩
            · skip
              refine r_callV gd hX hP rfl cv_X11_90_128 hS (d' := 0) (mc' := 0) (ms' := 0) (as' := [(0, 1)]) (st := []) (by omega) (by omega) (by omega) rfl rfl (Nat.le_of_ble_eq_true rfl) (c_X11_refused E S G this 1 hS (by omega) (by omega)) ?_
              rintro _ _ _ ⟨rfl, ⟨G283, rfl⟩, z284, rfl, (⟨rfl, f285⟩ | ⟨rfl, f286⟩)⟩
              · skip
                refine r_if_eq hX hP rfl (tgt := 129) rfl (by omega) (by omega) (fun c287 => ?_) (fun c287 => ?_)
                · skip
                  exfalso; omega
                · skip
                  refine r_ex hX hP 1 (pc' := 128) (st' := [(0, (-1))]) (lo' := [(0, (2, this)), (1, (0, paper)), (2, (0, n)), (3, (0, ex)), (4, (0, record)), (5, (0, last)), (6, (0, known)), (7, (0, l7_j72))]) rfl ?_
                  have g288 : Gr [119, 120, 121, 122, 123, 124, 125, 126, 127, 136, 137, 149, 150, 160, 161, 162, 163, 164, 165, 166, 167, 168, 169, 170, 171, 172, 173, 174, 175, 176, 177, 178, 179, 180, 181, 182, 183, 184, 185] [(106, -1), (107, -1), (119, -1), (120, -1), (121, -1), (122, -1), (123, -1), (124, -1), (128, 0), (128, 1), (129, 1), (131, 0), (131, 1), (131, 2), (131, 4), (131, 5), (131, 6), (131, 7), (131, 8), (131, 9), (131, 10), (131, 11), (131, 13), (131, 14), (136, 0), (136, 1), (136, 2), (149, 2), (149, 3), (149, 4), (149, 5), (149, 6), (149, 7), (149, 8), (149, 9), (149, 10), (149, 11), (149, 12), (149, 13), (149, 14), (149, 15), (150, 0), (150, 1), (150, 2), (150, 3), (150, 4), (150, 5), (150, 6), (156, 0), (156, 1), (156, 2), (170, -1), (171, -1), (172, -1)] S G S (hw [(128, 0)] G G283) := (gr_hw (gr_refl [119, 120, 121, 122, 123, 124, 125, 126, 127, 136, 137, 149, 150, 160, 161, 162, 163, 164, 165, 166, 167, 168, 169, 170, 171, 172, 173, 174, 175, 176, 177, 178, 179, 180, 181, 182, 183, 184, 185] [(106, -1), (107, -1), (119, -1), (120, -1), (121, -1), (122, -1), (123, -1), (124, -1), (128, 0), (128, 1), (129, 1), (131, 0), (131, 1), (131, 2), (131, 4), (131, 5), (131, 6), (131, 7), (131, 8), (131, 9), (131, 10), (131, 11), (131, 13), (131, 14), (136, 0), (136, 1), (136, 2), (149, 2), (149, 3), (149, 4), (149, 5), (149, 6), (149, 7), (149, 8), (149, 9), (149, 10), (149, 11), (149, 12), (149, 13), (149, 14), (149, 15), (150, 0), (150, 1), (150, 2), (150, 3), (150, 4), (150, 5), (150, 6), (156, 0), (156, 1), (156, 2), (170, -1), (171, -1), (172, -1)] S G) rfl)
                  have ci289 : CI E S (hw [(128, 0)] G G283) := (ci_hw ci rfl)
                  exact r_retI hX hP rfl rfl (by omega) (by omega) ⟨g288, (-1), rfl, (by omega), (by omega), ci289⟩
              · skip
                exfalso; omega
            · skip
              exfalso; omega
            · skip
              exfalso; omega
            · skip
              exfalso; omega
            · skip
              exfalso; omega
        · skip
          refine r_ex hX hP 4 (pc' := 107) (st' := [(2, this), (0, known), (0, 1), (0, l7_j72), (0, 1), (2, this)]) (lo' := [(0, (2, this)), (1, (0, paper)), (2, (0, n)), (3, (0, ex)), (4, (0, record)), (5, (0, last)), (6, (0, known)), (7, (0, l7_j72))]) rfl ?_
          refine r_getI hX hP rfl fl_X11_129_128 hS (fun lf290 lf290e lf290a lf290b => ?_)
          refine r_ic_ge hX hP rfl (tgt := 117) rfl (by omega) (by omega) (by omega) (by omega) (fun c291 => ?_) (fun c291 => ?_)
          · skip
            refine r_ex hX hP 1 (pc' := 118) (st' := [(0, 0), (0, 1), (0, l7_j72), (0, 1), (2, this)]) (lo' := [(0, (2, this)), (1, (0, paper)), (2, (0, n)), (3, (0, ex)), (4, (0, record)), (5, (0, last)), (6, (0, known)), (7, (0, l7_j72))]) rfl ?_
            refine r_callS gd hX hP rfl cs_X11_112 (d' := 0) (mc' := 0) (ms' := 0) (as' := [(0, 1), (0, l7_j72), (0, 1), (0, 0)]) (st := [(2, this)]) (by omega) (by omega) (by omega) rfl rfl (Nat.le_of_ble_eq_true rfl) (c_X11_first E S G 1 l7_j72 1 0 (by omega) (by omega) (by omega) (by omega) (by omega) (by omega) (by omega) (by omega)) ?_
            rintro _ _ _ ⟨rfl, rfl, z292, rfl, (⟨rfl, f293⟩ | ⟨rfl, f294, f295⟩ | ⟨rfl, f296, f297, f298⟩ | ⟨rfl, f299, f300, f301, f302⟩ | ⟨rfl, f303, f304, f305, f306⟩)⟩
            · skip
              refine r_callV gd hX hP rfl cv_X11_90_128 hS (d' := 0) (mc' := 0) (ms' := 0) (as' := [(0, 1)]) (st := []) (by omega) (by omega) (by omega) rfl rfl (Nat.le_of_ble_eq_true rfl) (c_X11_refused E S G this 1 hS (by omega) (by omega)) ?_
              rintro _ _ _ ⟨rfl, ⟨G307, rfl⟩, z308, rfl, (⟨rfl, f309⟩ | ⟨rfl, f310⟩)⟩
              · skip
                refine r_if_eq hX hP rfl (tgt := 129) rfl (by omega) (by omega) (fun c311 => ?_) (fun c311 => ?_)
                · skip
                  exfalso; omega
                · skip
                  refine r_ex hX hP 1 (pc' := 128) (st' := [(0, (-1))]) (lo' := [(0, (2, this)), (1, (0, paper)), (2, (0, n)), (3, (0, ex)), (4, (0, record)), (5, (0, last)), (6, (0, known)), (7, (0, l7_j72))]) rfl ?_
                  have g312 : Gr [119, 120, 121, 122, 123, 124, 125, 126, 127, 136, 137, 149, 150, 160, 161, 162, 163, 164, 165, 166, 167, 168, 169, 170, 171, 172, 173, 174, 175, 176, 177, 178, 179, 180, 181, 182, 183, 184, 185] [(106, -1), (107, -1), (119, -1), (120, -1), (121, -1), (122, -1), (123, -1), (124, -1), (128, 0), (128, 1), (129, 1), (131, 0), (131, 1), (131, 2), (131, 4), (131, 5), (131, 6), (131, 7), (131, 8), (131, 9), (131, 10), (131, 11), (131, 13), (131, 14), (136, 0), (136, 1), (136, 2), (149, 2), (149, 3), (149, 4), (149, 5), (149, 6), (149, 7), (149, 8), (149, 9), (149, 10), (149, 11), (149, 12), (149, 13), (149, 14), (149, 15), (150, 0), (150, 1), (150, 2), (150, 3), (150, 4), (150, 5), (150, 6), (156, 0), (156, 1), (156, 2), (170, -1), (171, -1), (172, -1)] S G S (hw [(128, 0)] G G307) := (gr_hw (gr_refl [119, 120, 121, 122, 123, 124, 125, 126, 127, 136, 137, 149, 150, 160, 161, 162, 163, 164, 165, 166, 167, 168, 169, 170, 171, 172, 173, 174, 175, 176, 177, 178, 179, 180, 181, 182, 183, 184, 185] [(106, -1), (107, -1), (119, -1), (120, -1), (121, -1), (122, -1), (123, -1), (124, -1), (128, 0), (128, 1), (129, 1), (131, 0), (131, 1), (131, 2), (131, 4), (131, 5), (131, 6), (131, 7), (131, 8), (131, 9), (131, 10), (131, 11), (131, 13), (131, 14), (136, 0), (136, 1), (136, 2), (149, 2), (149, 3), (149, 4), (149, 5), (149, 6), (149, 7), (149, 8), (149, 9), (149, 10), (149, 11), (149, 12), (149, 13), (149, 14), (149, 15), (150, 0), (150, 1), (150, 2), (150, 3), (150, 4), (150, 5), (150, 6), (156, 0), (156, 1), (156, 2), (170, -1), (171, -1), (172, -1)] S G) rfl)
                  have ci313 : CI E S (hw [(128, 0)] G G307) := (ci_hw ci rfl)
                  exact r_retI hX hP rfl rfl (by omega) (by omega) ⟨g312, (-1), rfl, (by omega), (by omega), ci313⟩
              · skip
                exfalso; omega
            · skip
              exfalso; omega
            · skip
              exfalso; omega
            · skip
              exfalso; omega
            · skip
              exfalso; omega
          · skip
            refine r_ex hX hP 2 (pc' := 118) (st' := [(0, 1), (0, 1), (0, l7_j72), (0, 1), (2, this)]) (lo' := [(0, (2, this)), (1, (0, paper)), (2, (0, n)), (3, (0, ex)), (4, (0, record)), (5, (0, last)), (6, (0, known)), (7, (0, l7_j72))]) rfl ?_
            refine r_callS gd hX hP rfl cs_X11_112 (d' := 0) (mc' := 0) (ms' := 0) (as' := [(0, 1), (0, l7_j72), (0, 1), (0, 1)]) (st := [(2, this)]) (by omega) (by omega) (by omega) rfl rfl (Nat.le_of_ble_eq_true rfl) (c_X11_first E S G 1 l7_j72 1 1 (by omega) (by omega) (by omega) (by omega) (by omega) (by omega) (by omega) (by omega)) ?_
            rintro _ _ _ ⟨rfl, rfl, z314, rfl, (⟨rfl, f315⟩ | ⟨rfl, f316, f317⟩ | ⟨rfl, f318, f319, f320⟩ | ⟨rfl, f321, f322, f323, f324⟩ | ⟨rfl, f325, f326, f327, f328⟩)⟩
            · skip
              refine r_callV gd hX hP rfl cv_X11_90_128 hS (d' := 0) (mc' := 0) (ms' := 0) (as' := [(0, 1)]) (st := []) (by omega) (by omega) (by omega) rfl rfl (Nat.le_of_ble_eq_true rfl) (c_X11_refused E S G this 1 hS (by omega) (by omega)) ?_
              rintro _ _ _ ⟨rfl, ⟨G329, rfl⟩, z330, rfl, (⟨rfl, f331⟩ | ⟨rfl, f332⟩)⟩
              · skip
                refine r_if_eq hX hP rfl (tgt := 129) rfl (by omega) (by omega) (fun c333 => ?_) (fun c333 => ?_)
                · skip
                  exfalso; omega
                · skip
                  refine r_ex hX hP 1 (pc' := 128) (st' := [(0, (-1))]) (lo' := [(0, (2, this)), (1, (0, paper)), (2, (0, n)), (3, (0, ex)), (4, (0, record)), (5, (0, last)), (6, (0, known)), (7, (0, l7_j72))]) rfl ?_
                  have g334 : Gr [119, 120, 121, 122, 123, 124, 125, 126, 127, 136, 137, 149, 150, 160, 161, 162, 163, 164, 165, 166, 167, 168, 169, 170, 171, 172, 173, 174, 175, 176, 177, 178, 179, 180, 181, 182, 183, 184, 185] [(106, -1), (107, -1), (119, -1), (120, -1), (121, -1), (122, -1), (123, -1), (124, -1), (128, 0), (128, 1), (129, 1), (131, 0), (131, 1), (131, 2), (131, 4), (131, 5), (131, 6), (131, 7), (131, 8), (131, 9), (131, 10), (131, 11), (131, 13), (131, 14), (136, 0), (136, 1), (136, 2), (149, 2), (149, 3), (149, 4), (149, 5), (149, 6), (149, 7), (149, 8), (149, 9), (149, 10), (149, 11), (149, 12), (149, 13), (149, 14), (149, 15), (150, 0), (150, 1), (150, 2), (150, 3), (150, 4), (150, 5), (150, 6), (156, 0), (156, 1), (156, 2), (170, -1), (171, -1), (172, -1)] S G S (hw [(128, 0)] G G329) := (gr_hw (gr_refl [119, 120, 121, 122, 123, 124, 125, 126, 127, 136, 137, 149, 150, 160, 161, 162, 163, 164, 165, 166, 167, 168, 169, 170, 171, 172, 173, 174, 175, 176, 177, 178, 179, 180, 181, 182, 183, 184, 185] [(106, -1), (107, -1), (119, -1), (120, -1), (121, -1), (122, -1), (123, -1), (124, -1), (128, 0), (128, 1), (129, 1), (131, 0), (131, 1), (131, 2), (131, 4), (131, 5), (131, 6), (131, 7), (131, 8), (131, 9), (131, 10), (131, 11), (131, 13), (131, 14), (136, 0), (136, 1), (136, 2), (149, 2), (149, 3), (149, 4), (149, 5), (149, 6), (149, 7), (149, 8), (149, 9), (149, 10), (149, 11), (149, 12), (149, 13), (149, 14), (149, 15), (150, 0), (150, 1), (150, 2), (150, 3), (150, 4), (150, 5), (150, 6), (156, 0), (156, 1), (156, 2), (170, -1), (171, -1), (172, -1)] S G) rfl)
                  have ci335 : CI E S (hw [(128, 0)] G G329) := (ci_hw ci rfl)
                  exact r_retI hX hP rfl rfl (by omega) (by omega) ⟨g334, (-1), rfl, (by omega), (by omega), ci335⟩
              · skip
                exfalso; omega
            · skip
              exfalso; omega
            · skip
              exfalso; omega
            · skip
              exfalso; omega
            · skip
              exfalso; omega
  refine r_ex hX hP 3 (pc' := 3) (st' := [(2, this), (0, 0), (0, n)]) (lo' := [(0, (2, this)), (1, (0, paper)), (2, (0, n)), (3, (0, ex)), (4, (0, record)), (5, (0, last)), (6, (0, known))]) rfl ?_
  refine r_getR hX hP rfl fl_X11_71_128 hS (fun rf336 rf336e rf336s => ?_)
  refine r_getI hX hP rfl fl_X11_157_131 rf336s (fun lf337 lf337e lf337a lf337b => ?_)
  refine r_callS gd hX hP rfl cs_X11_103 (d' := 0) (mc' := 0) (ms' := 0) (as' := [(0, n), (0, 0), (0, lf337)]) (st := []) (by omega) (by omega) (by omega) rfl rfl (Nat.le_of_ble_eq_true rfl) (c_X11_within E S G n 0 lf337 (by omega) (by omega) (by omega) (by omega) (by omega) (by omega)) ?_
  rintro _ _ _ ⟨rfl, rfl, z338, rfl, (⟨rfl, f339, f340⟩ | ⟨rfl, f341⟩)⟩
  · skip
    refine r_if_eq hX hP rfl (tgt := 65) rfl (by omega) (by omega) (fun c342 => ?_) (fun c342 => ?_)
    · skip
      exfalso; omega
    · skip
      refine r_ex hX hP 1 (pc' := 16) (st' := [(0, ex)]) (lo' := [(0, (2, this)), (1, (0, paper)), (2, (0, n)), (3, (0, ex)), (4, (0, record)), (5, (0, last)), (6, (0, known))]) rfl ?_
      refine r_callS gd hX hP rfl cs_X11_86 (d' := 1) (mc' := 0) (ms' := 0) (as' := [(0, ex)]) (st := []) (by omega) (by omega) (by omega) rfl rfl (Nat.le_of_ble_eq_true rfl) (c_X11_isDay E S G ex (by omega) (by omega)) ?_
      rintro _ _ _ ⟨rfl, rfl, z343, rfl, (⟨rfl, f344, f345⟩ | ⟨rfl, f346⟩)⟩
      · skip
        refine r_if_eq hX hP rfl (tgt := 65) rfl (by omega) (by omega) (fun c347 => ?_) (fun c347 => ?_)
        · skip
          exfalso; omega
        · skip
          refine r_ex hX hP 1 (pc' := 24) (st' := [(0, record)]) (lo' := [(0, (2, this)), (1, (0, paper)), (2, (0, n)), (3, (0, ex)), (4, (0, record)), (5, (0, last)), (6, (0, known))]) rfl ?_
          refine r_callS gd hX hP rfl cs_X11_86 (d' := 1) (mc' := 0) (ms' := 0) (as' := [(0, record)]) (st := []) (by omega) (by omega) (by omega) rfl rfl (Nat.le_of_ble_eq_true rfl) (c_X11_isDay E S G record (by omega) (by omega)) ?_
          rintro _ _ _ ⟨rfl, rfl, z348, rfl, (⟨rfl, f349, f350⟩ | ⟨rfl, f351⟩)⟩
          · skip
            refine r_if_eq hX hP rfl (tgt := 65) rfl (by omega) (by omega) (fun c352 => ?_) (fun c352 => ?_)
            · skip
              exfalso; omega
            · skip
              refine r_ex hX hP 1 (pc' := 32) (st' := [(0, last)]) (lo' := [(0, (2, this)), (1, (0, paper)), (2, (0, n)), (3, (0, ex)), (4, (0, record)), (5, (0, last)), (6, (0, known))]) rfl ?_
              refine r_callS gd hX hP rfl cs_X11_86 (d' := 1) (mc' := 0) (ms' := 0) (as' := [(0, last)]) (st := []) (by omega) (by omega) (by omega) rfl rfl (Nat.le_of_ble_eq_true rfl) (c_X11_isDay E S G last (by omega) (by omega)) ?_
              rintro _ _ _ ⟨rfl, rfl, z353, rfl, (⟨rfl, f354, f355⟩ | ⟨rfl, f356⟩)⟩
              · skip
                refine r_if_eq hX hP rfl (tgt := 65) rfl (by omega) (by omega) (fun c357 => ?_) (fun c357 => ?_)
                · skip
                  exfalso; omega
                · skip
                  refine r_ex hX hP 3 (pc' := 42) (st' := [(0, (record - ex))]) (lo' := [(0, (2, this)), (1, (0, paper)), (2, (0, n)), (3, (0, ex)), (4, (0, record)), (5, (0, last)), (6, (0, known))]) rfl ?_
                  refine r_mabsI hX hP rfl (tbg sg3 149 rfl rfl) (tbg sg3 150 rfl rfl) (tbg sg1 14 rfl rfl) (tbg sg3 151 rfl rfl) (by decide) (by decide) (by decide) (Nat.le_of_ble_eq_true rfl) (by omega) (by omega) (fun c358 => ?_) (fun c358 => ?_)
                  · skip
                    refine r_ex hX hP 1 (pc' := 47) (st' := [(0, 10), (0, (record - ex))]) (lo' := [(0, (2, this)), (1, (0, paper)), (2, (0, n)), (3, (0, ex)), (4, (0, record)), (5, (0, last)), (6, (0, known))]) rfl ?_
                    refine r_ic_gt hX hP rfl (tgt := 65) rfl (by omega) (by omega) (by omega) (by omega) (fun c359 => ?_) (fun c359 => ?_)
                    · skip
                      refine r_ex hX hP 3 (pc' := 72) (st' := []) (lo' := [(0, (2, this)), (1, (0, paper)), (2, (0, n)), (3, (0, ex)), (4, (0, record)), (5, (0, last)), (6, (0, known)), (7, (0, 1))]) rfl ?_
                      exact j72 1 (by omega) (by omega) (by omega)
                    · skip
                      refine r_ex hX hP 2 (pc' := 54) (st' := [(0, record), (0, last)]) (lo' := [(0, (2, this)), (1, (0, paper)), (2, (0, n)), (3, (0, ex)), (4, (0, record)), (5, (0, last)), (6, (0, known))]) rfl ?_
                      refine r_ic_lt hX hP rfl (tgt := 65) rfl (by omega) (by omega) (by omega) (by omega) (fun c360 => ?_) (fun c360 => ?_)
                      · skip
                        refine r_ex hX hP 3 (pc' := 72) (st' := []) (lo' := [(0, (2, this)), (1, (0, paper)), (2, (0, n)), (3, (0, ex)), (4, (0, record)), (5, (0, last)), (6, (0, known)), (7, (0, 1))]) rfl ?_
                        exact j72 1 (by omega) (by omega) (by omega)
                      · skip
                        refine r_ex hX hP 1 (pc' := 59) (st' := [(0, known)]) (lo' := [(0, (2, this)), (1, (0, paper)), (2, (0, n)), (3, (0, ex)), (4, (0, record)), (5, (0, last)), (6, (0, known))]) rfl ?_
                        refine r_callS gd hX hP rfl cs_X11_86 (d' := 1) (mc' := 0) (ms' := 0) (as' := [(0, known)]) (st := []) (by omega) (by omega) (by omega) rfl rfl (Nat.le_of_ble_eq_true rfl) (c_X11_isDay E S G known (by omega) (by omega)) ?_
                        rintro _ _ _ ⟨rfl, rfl, z361, rfl, (⟨rfl, f362, f363⟩ | ⟨rfl, f364⟩)⟩
                        · skip
                          refine r_if_ne hX hP rfl (tgt := 69) rfl (by omega) (by omega) (fun c365 => ?_) (fun c365 => ?_)
                          · skip
                            refine r_ex hX hP 2 (pc' := 72) (st' := []) (lo' := [(0, (2, this)), (1, (0, paper)), (2, (0, n)), (3, (0, ex)), (4, (0, record)), (5, (0, last)), (6, (0, known)), (7, (0, 0))]) rfl ?_
                            exact j72 0 (by omega) (by omega) (by omega)
                          · skip
                            exfalso; omega
                        · skip
                          refine r_if_ne hX hP rfl (tgt := 69) rfl (by omega) (by omega) (fun c366 => ?_) (fun c366 => ?_)
                          · skip
                            exfalso; omega
                          · skip
                            refine r_ex hX hP 3 (pc' := 72) (st' := []) (lo' := [(0, (2, this)), (1, (0, paper)), (2, (0, n)), (3, (0, ex)), (4, (0, record)), (5, (0, last)), (6, (0, known)), (7, (0, 1))]) rfl ?_
                            exact j72 1 (by omega) (by omega) (by omega)
                  · skip
                    refine r_ex hX hP 1 (pc' := 47) (st' := [(0, 10), (0, (0 - (record - ex)))]) (lo' := [(0, (2, this)), (1, (0, paper)), (2, (0, n)), (3, (0, ex)), (4, (0, record)), (5, (0, last)), (6, (0, known))]) rfl ?_
                    refine r_ic_gt hX hP rfl (tgt := 65) rfl (by omega) (by omega) (by omega) (by omega) (fun c367 => ?_) (fun c367 => ?_)
                    · skip
                      refine r_ex hX hP 3 (pc' := 72) (st' := []) (lo' := [(0, (2, this)), (1, (0, paper)), (2, (0, n)), (3, (0, ex)), (4, (0, record)), (5, (0, last)), (6, (0, known)), (7, (0, 1))]) rfl ?_
                      exact j72 1 (by omega) (by omega) (by omega)
                    · skip
                      refine r_ex hX hP 2 (pc' := 54) (st' := [(0, record), (0, last)]) (lo' := [(0, (2, this)), (1, (0, paper)), (2, (0, n)), (3, (0, ex)), (4, (0, record)), (5, (0, last)), (6, (0, known))]) rfl ?_
                      refine r_ic_lt hX hP rfl (tgt := 65) rfl (by omega) (by omega) (by omega) (by omega) (fun c368 => ?_) (fun c368 => ?_)
                      · skip
                        refine r_ex hX hP 3 (pc' := 72) (st' := []) (lo' := [(0, (2, this)), (1, (0, paper)), (2, (0, n)), (3, (0, ex)), (4, (0, record)), (5, (0, last)), (6, (0, known)), (7, (0, 1))]) rfl ?_
                        exact j72 1 (by omega) (by omega) (by omega)
                      · skip
                        refine r_ex hX hP 1 (pc' := 59) (st' := [(0, known)]) (lo' := [(0, (2, this)), (1, (0, paper)), (2, (0, n)), (3, (0, ex)), (4, (0, record)), (5, (0, last)), (6, (0, known))]) rfl ?_
                        refine r_callS gd hX hP rfl cs_X11_86 (d' := 1) (mc' := 0) (ms' := 0) (as' := [(0, known)]) (st := []) (by omega) (by omega) (by omega) rfl rfl (Nat.le_of_ble_eq_true rfl) (c_X11_isDay E S G known (by omega) (by omega)) ?_
                        rintro _ _ _ ⟨rfl, rfl, z369, rfl, (⟨rfl, f370, f371⟩ | ⟨rfl, f372⟩)⟩
                        · skip
                          refine r_if_ne hX hP rfl (tgt := 69) rfl (by omega) (by omega) (fun c373 => ?_) (fun c373 => ?_)
                          · skip
                            refine r_ex hX hP 2 (pc' := 72) (st' := []) (lo' := [(0, (2, this)), (1, (0, paper)), (2, (0, n)), (3, (0, ex)), (4, (0, record)), (5, (0, last)), (6, (0, known)), (7, (0, 0))]) rfl ?_
                            exact j72 0 (by omega) (by omega) (by omega)
                          · skip
                            exfalso; omega
                        · skip
                          refine r_if_ne hX hP rfl (tgt := 69) rfl (by omega) (by omega) (fun c374 => ?_) (fun c374 => ?_)
                          · skip
                            exfalso; omega
                          · skip
                            refine r_ex hX hP 3 (pc' := 72) (st' := []) (lo' := [(0, (2, this)), (1, (0, paper)), (2, (0, n)), (3, (0, ex)), (4, (0, record)), (5, (0, last)), (6, (0, known)), (7, (0, 1))]) rfl ?_
                            exact j72 1 (by omega) (by omega) (by omega)
              · skip
                refine r_if_eq hX hP rfl (tgt := 65) rfl (by omega) (by omega) (fun c375 => ?_) (fun c375 => ?_)
                · skip
                  refine r_ex hX hP 3 (pc' := 72) (st' := []) (lo' := [(0, (2, this)), (1, (0, paper)), (2, (0, n)), (3, (0, ex)), (4, (0, record)), (5, (0, last)), (6, (0, known)), (7, (0, 1))]) rfl ?_
                  exact j72 1 (by omega) (by omega) (by omega)
                · skip
                  exfalso; omega
          · skip
            refine r_if_eq hX hP rfl (tgt := 65) rfl (by omega) (by omega) (fun c376 => ?_) (fun c376 => ?_)
            · skip
              refine r_ex hX hP 3 (pc' := 72) (st' := []) (lo' := [(0, (2, this)), (1, (0, paper)), (2, (0, n)), (3, (0, ex)), (4, (0, record)), (5, (0, last)), (6, (0, known)), (7, (0, 1))]) rfl ?_
              exact j72 1 (by omega) (by omega) (by omega)
            · skip
              exfalso; omega
      · skip
        refine r_if_eq hX hP rfl (tgt := 65) rfl (by omega) (by omega) (fun c377 => ?_) (fun c377 => ?_)
        · skip
          refine r_ex hX hP 3 (pc' := 72) (st' := []) (lo' := [(0, (2, this)), (1, (0, paper)), (2, (0, n)), (3, (0, ex)), (4, (0, record)), (5, (0, last)), (6, (0, known)), (7, (0, 1))]) rfl ?_
          exact j72 1 (by omega) (by omega) (by omega)
        · skip
          exfalso; omega
  · skip
    refine r_if_eq hX hP rfl (tgt := 65) rfl (by omega) (by omega) (fun c378 => ?_) (fun c378 => ?_)
    · skip
      refine r_ex hX hP 3 (pc' := 72) (st' := []) (lo' := [(0, (2, this)), (1, (0, paper)), (2, (0, n)), (3, (0, ex)), (4, (0, record)), (5, (0, last)), (6, (0, known)), (7, (0, 1))]) rfl ?_
      exact j72 1 (by omega) (by omega) (by omega)
    · skip
      exfalso; omega
set_option maxRecDepth 100000 in
set_option maxHeartbeats 4000000 in
theorem c_X11_choose (E : En) (S : Sg) (G : Gh) (this : Int) (event : Int) (account : Int) (choice : Int) (day : Int) (known : Int) (hS : S this = 128) (evl : Int) (evl_e : evl = G 128 this 8) (evl_s : S evl = 156) (evn : Int) (evn_e : evn = G 156 evl 2) (event_a : (-2147483648) ≤ event) (event_b : event ≤ 2147483647) (account_a : (-2147483648) ≤ account) (account_b : account ≤ 2147483647) (choice_a : (-2147483648) ≤ choice) (choice_b : choice ≤ 2147483647) (day_a : (-2147483648) ≤ day) (day_b : day ≤ 2147483647) (known_a : (-2147483648) ≤ known) (known_b : known ≤ 2147483647) (ci : CI E S G) : Calls E mX11_choose [(2, this), (0, event), (0, account), (0, choice), (0, day), (0, known)] S G 15 2 79 (fun r S' G' => Gr [138, 151, 160, 161, 162, 163, 164, 165, 166, 167, 168, 169, 170, 171, 172, 173, 174, 175, 176, 177, 178, 179, 180, 181, 182, 183, 184, 185] [(128, 0), (128, 1), (129, 1), (151, 0), (151, 1), (151, 2), (151, 3), (151, 4), (151, 5), (157, 0), (157, 1), (157, 2), (173, -1), (174, -1), (175, -1), (176, -1), (177, -1), (178, -1)] S G S' G' ∧ ∃ z : Int, r = some (0, z) ∧ (-2147483648) ≤ z ∧ z ≤ 2147483647 ∧ CI E S' G') := by
  refine calls_by [(0, (2, this)), (1, (0, event)), (2, (0, account)), (3, (0, choice)), (4, (0, day)), (5, (0, known))] rfl rfl (Nat.le_of_ble_eq_true rfl) (fun X hX => ?_)
  have hP := hPX11_choose
  refine r_peekI hX (tl_156 2 rfl (by decide)) evl_s (fun evn_o evn_oe evn_oa evn_ob => ?_)
  obtain rfl : evn = evn_o := evn_e.trans evn_oe.symm
  have j24 : ∀ (l6_j24 : Int), 0 ≤ l6_j24 → l6_j24 ≤ 1 → (l6_j24 = 1 ∨ (0 ≤ event ∧ event + 1 ≤ evn ∧ 0 ≤ choice ∧ choice ≤ 2 ∧ 0 ≤ account ∧ account ≤ 19)) → X 0 0 24 [] [(0, (2, this)), (1, (0, event)), (2, (0, account)), (3, (0, choice)), (4, (0, day)), (5, (0, known)), (6, (0, l6_j24))] S G := by
    intro l6_j24 yj24_0 yj24_1 yj24_2
    have j47 : ∀ (l7_j47 : Int), 0 ≤ l7_j47 → l7_j47 ≤ 1 → (l7_j47 = 1 ∨ (0 ≤ day ∧ day ≤ 40000 ∧ 0 ≤ known ∧ known ≤ 40000)) → X 0 0 47 [] [(0, (2, this)), (1, (0, event)), (2, (0, account)), (3, (0, choice)), (4, (0, day)), (5, (0, known)), (6, (0, l6_j24)), (7, (0, l7_j47))] S G := by
      intro l7_j47 yj47_0 yj47_1 yj47_2
      refine r_ex hX hP 4 (pc' := 53) (st' := [(2, this), (0, l7_j47), (0, l6_j24), (2, this)]) (lo' := [(0, (2, this)), (1, (0, event)), (2, (0, account)), (3, (0, choice)), (4, (0, day)), (5, (0, known)), (6, (0, l6_j24)), (7, (0, l7_j47))]) rfl ?_
      refine r_getR hX hP rfl fl_X11_41_128 hS (fun pf1 pf1e pf1s => ?_)
      refine r_peekI hX (tl_157 2 rfl (by decide)) pf1s (fun sip2 sip2e sip2a sip2b => ?_)
      refine r_callV gd hX hP rfl cv_X11_125_157 pf1s (d' := 0) (mc' := 0) (ms' := 0) (as' := []) (st := [(0, l7_j47), (0, l6_j24), (2, this)]) (by omega) (by omega) (by omega) rfl rfl (Nat.le_of_ble_eq_true rfl) (c_size_Lpi E S G pf1  pf1s sip2 sip2e) ?_
      rintro _ _ _ ⟨rfl, rfl, z3, rfl, z3a, z3b, f4⟩
      refine r_ex hX hP 1 (pc' := 61) (st' := [(0, 60), (0, z3), (0, l7_j47), (0, l6_j24), (2, this)]) (lo' := [(0, (2, this)), (1, (0, event)), (2, (0, account)), (3, (0, choice)), (4, (0, day)), (5, (0, known)), (6, (0, l6_j24)), (7, (0, l7_j47))]) rfl ?_
      refine r_ic_lt hX hP rfl (tgt := 68) rfl (by omega) (by omega) (by omega) (by omega) (fun c5 => ?_) (fun c5 => ?_)
      · skip
        refine r_ex hX hP 3 (pc' := 72) (st' := [(2, this), (0, known), (0, 0), (0, l7_j47), (0, l6_j24), (2, this)]) (lo' := [(0, (2, this)), (1, (0, event)), (2, (0, account)), (3, (0, choice)), (4, (0, day)), (5, (0, known)), (6, (0, l6_j24)), (7, (0, l7_j47))]) rfl ?_
        refine r_getI hX hP rfl fl_X11_129_128 hS (fun lf6 lf6e lf6a lf6b => ?_)
        refine r_ic_ge hX hP rfl (tgt := 82) rfl (by omega) (by omega) (by omega) (by omega) (fun c7 => ?_) (fun c7 => ?_)
        · skip
          refine r_ex hX hP 1 (pc' := 83) (st' := [(0, 0), (0, 0), (0, l7_j47), (0, l6_j24), (2, this)]) (lo' := [(0, (2, this)), (1, (0, event)), (2, (0, account)), (3, (0, choice)), (4, (0, day)), (5, (0, known)), (6, (0, l6_j24)), (7, (0, l7_j47))]) rfl ?_
          refine r_callS gd hX hP rfl cs_X11_112 (d' := 0) (mc' := 0) (ms' := 0) (as' := [(0, l6_j24), (0, l7_j47), (0, 0), (0, 0)]) (st := [(2, this)]) (by omega) (by omega) (by omega) rfl rfl (Nat.le_of_ble_eq_true rfl) (c_X11_first E S G l6_j24 l7_j47 0 0 (by omega) (by omega) (by omega) (by omega) (by omega) (by omega) (by omega) (by omega)) ?_
          rintro _ _ _ ⟨rfl, rfl, z8, rfl, (⟨rfl, f9⟩ | ⟨rfl, f10, f11⟩ | ⟨rfl, f12, f13, f14⟩ | ⟨rfl, f15, f16, f17, f18⟩ | ⟨rfl, f19, f20, f21, f22⟩)⟩
          · skip
            refine r_callV gd hX hP rfl cv_X11_90_128 hS (d' := 0) (mc' := 0) (ms' := 0) (as' := [(0, 1)]) (st := []) (by omega) (by omega) (by omega) rfl rfl (Nat.le_of_ble_eq_true rfl) (c_X11_refused E S G this 1 hS (by omega) (by omega)) ?_
            rintro _ _ _ ⟨rfl, ⟨G23, rfl⟩, z24, rfl, (⟨rfl, f25⟩ | ⟨rfl, f26⟩)⟩
            · skip
              refine r_if_eq hX hP rfl (tgt := 94) rfl (by omega) (by omega) (fun c27 => ?_) (fun c27 => ?_)
              · skip
                exfalso; omega
              · skip
                refine r_ex hX hP 1 (pc' := 93) (st' := [(0, (-1))]) (lo' := [(0, (2, this)), (1, (0, event)), (2, (0, account)), (3, (0, choice)), (4, (0, day)), (5, (0, known)), (6, (0, l6_j24)), (7, (0, l7_j47))]) rfl ?_
                have g28 : Gr [138, 151, 160, 161, 162, 163, 164, 165, 166, 167, 168, 169, 170, 171, 172, 173, 174, 175, 176, 177, 178, 179, 180, 181, 182, 183, 184, 185] [(128, 0), (128, 1), (129, 1), (151, 0), (151, 1), (151, 2), (151, 3), (151, 4), (151, 5), (157, 0), (157, 1), (157, 2), (173, -1), (174, -1), (175, -1), (176, -1), (177, -1), (178, -1)] S G S (hw [(128, 0)] G G23) := (gr_hw (gr_refl [138, 151, 160, 161, 162, 163, 164, 165, 166, 167, 168, 169, 170, 171, 172, 173, 174, 175, 176, 177, 178, 179, 180, 181, 182, 183, 184, 185] [(128, 0), (128, 1), (129, 1), (151, 0), (151, 1), (151, 2), (151, 3), (151, 4), (151, 5), (157, 0), (157, 1), (157, 2), (173, -1), (174, -1), (175, -1), (176, -1), (177, -1), (178, -1)] S G) rfl)
                have ci29 : CI E S (hw [(128, 0)] G G23) := (ci_hw ci rfl)
                exact r_retI hX hP rfl rfl (by omega) (by omega) ⟨g28, (-1), rfl, (by omega), (by omega), ci29⟩
            · skip
              exfalso; omega
          · skip
            refine r_callV gd hX hP rfl cv_X11_90_128 hS (d' := 0) (mc' := 0) (ms' := 0) (as' := [(0, 2)]) (st := []) (by omega) (by omega) (by omega) rfl rfl (Nat.le_of_ble_eq_true rfl) (c_X11_refused E S G this 2 hS (by omega) (by omega)) ?_
            rintro _ _ _ ⟨rfl, ⟨G30, rfl⟩, z31, rfl, (⟨rfl, f32⟩ | ⟨rfl, f33⟩)⟩
            · skip
              refine r_if_eq hX hP rfl (tgt := 94) rfl (by omega) (by omega) (fun c34 => ?_) (fun c34 => ?_)
              · skip
                exfalso; omega
              · skip
                refine r_ex hX hP 1 (pc' := 93) (st' := [(0, (-1))]) (lo' := [(0, (2, this)), (1, (0, event)), (2, (0, account)), (3, (0, choice)), (4, (0, day)), (5, (0, known)), (6, (0, l6_j24)), (7, (0, l7_j47))]) rfl ?_
                have g35 : Gr [138, 151, 160, 161, 162, 163, 164, 165, 166, 167, 168, 169, 170, 171, 172, 173, 174, 175, 176, 177, 178, 179, 180, 181, 182, 183, 184, 185] [(128, 0), (128, 1), (129, 1), (151, 0), (151, 1), (151, 2), (151, 3), (151, 4), (151, 5), (157, 0), (157, 1), (157, 2), (173, -1), (174, -1), (175, -1), (176, -1), (177, -1), (178, -1)] S G S (hw [(128, 0)] G G30) := (gr_hw (gr_refl [138, 151, 160, 161, 162, 163, 164, 165, 166, 167, 168, 169, 170, 171, 172, 173, 174, 175, 176, 177, 178, 179, 180, 181, 182, 183, 184, 185] [(128, 0), (128, 1), (129, 1), (151, 0), (151, 1), (151, 2), (151, 3), (151, 4), (151, 5), (157, 0), (157, 1), (157, 2), (173, -1), (174, -1), (175, -1), (176, -1), (177, -1), (178, -1)] S G) rfl)
                have ci36 : CI E S (hw [(128, 0)] G G30) := (ci_hw ci rfl)
                exact r_retI hX hP rfl rfl (by omega) (by omega) ⟨g35, (-1), rfl, (by omega), (by omega), ci36⟩
            · skip
              exfalso; omega
          · skip
            exfalso; omega
          · skip
            exfalso; omega
          · skip
            refine r_callV gd hX hP rfl cv_X11_90_128 hS (d' := 0) (mc' := 0) (ms' := 0) (as' := [(0, 0)]) (st := []) (by omega) (by omega) (by omega) rfl rfl (Nat.le_of_ble_eq_true rfl) (c_X11_refused E S G this 0 hS (by omega) (by omega)) ?_
            rintro _ _ _ ⟨rfl, ⟨G37, rfl⟩, z38, rfl, (⟨rfl, f39⟩ | ⟨rfl, f40⟩)⟩
            · skip
              exfalso; omega
            · skip
              refine r_if_eq hX hP rfl (tgt := 94) rfl (by omega) (by omega) (fun c41 => ?_) (fun c41 => ?_)
              · skip
                have g42 : Gr [138, 151, 160, 161, 162, 163, 164, 165, 166, 167, 168, 169, 170, 171, 172, 173, 174, 175, 176, 177, 178, 179, 180, 181, 182, 183, 184, 185] [(128, 0), (128, 1), (129, 1), (151, 0), (151, 1), (151, 2), (151, 3), (151, 4), (151, 5), (157, 0), (157, 1), (157, 2), (173, -1), (174, -1), (175, -1), (176, -1), (177, -1), (178, -1)] S G S (hw [(128, 0)] G G37) := (gr_hw (gr_refl [138, 151, 160, 161, 162, 163, 164, 165, 166, 167, 168, 169, 170, 171, 172, 173, 174, 175, 176, 177, 178, 179, 180, 181, 182, 183, 184, 185] [(128, 0), (128, 1), (129, 1), (151, 0), (151, 1), (151, 2), (151, 3), (151, 4), (151, 5), (157, 0), (157, 1), (157, 2), (173, -1), (174, -1), (175, -1), (176, -1), (177, -1), (178, -1)] S G) rfl)
                have ci43 : CI E S (hw [(128, 0)] G G37) := (ci_hw ci rfl)
                refine r_tk hX (fun tk44 => ?_)
                refine r_newA hX hP rfl (L := 151) (N := 6) nw_X11_213_151 (by omega) (by omega) (fun n45 S46 G47 n45z n45n n45l g48 n45v => ?_)
                have z49 : S n45 = 0 := gr_zero g42 n45z
                have s50 : S46 this = 128 := gr_lab g48 hS (by decide)
                have s51 : S46 evl = 156 := gr_lab g48 evl_s (by decide)
                have s52 : S46 pf1 = 157 := gr_lab g48 pf1s (by decide)
                have e53 : evl = G47 128 this 8 := gr_val g48 evl_e hS (by decide) rfl
                have e54 : evn = G47 156 evl 2 := gr_val g48 evn_e evl_s (by decide) rfl
                have e55 : pf1 = G47 128 this 9 := gr_val g48 pf1e hS (by decide) rfl
                have e56 : sip2 = G47 157 pf1 2 := gr_val g48 sip2e pf1s (by decide) rfl
                have e57 : lf6 = G47 128 this 1 := gr_val g48 lf6e hS (by decide) rfl
                have g58 : Gr [138, 151, 160, 161, 162, 163, 164, 165, 166, 167, 168, 169, 170, 171, 172, 173, 174, 175, 176, 177, 178, 179, 180, 181, 182, 183, 184, 185] [(128, 0), (128, 1), (129, 1), (151, 0), (151, 1), (151, 2), (151, 3), (151, 4), (151, 5), (157, 0), (157, 1), (157, 2), (173, -1), (174, -1), (175, -1), (176, -1), (177, -1), (178, -1)] S G S46 G47 := gr_call g42 g48 rfl rfl
                have ci59 : CI E S46 G47 := ci_gr ci43 tk44 g48 rfl rfl
                refine r_ex hX hP 6 (pc' := 105) (st' := [(0, known), (0, day), (0, choice), (0, account), (0, event), (2, n45), (2, n45)]) (lo' := [(0, (2, this)), (1, (0, event)), (2, (0, account)), (3, (0, choice)), (4, (0, day)), (5, (0, known)), (6, (0, l6_j24)), (7, (0, l7_j47))]) rfl ?_
                refine r_callI gd hX hP rfl ci_X11_215 n45n (d' := 4) (mc' := 0) (ms' := 0) (as' := [(0, event), (0, account), (0, choice), (0, day), (0, known)]) (st := [(2, n45)]) (by omega) (by omega) (by omega) rfl rfl (Nat.le_of_ble_eq_true rfl) (c_X5_init E S46 G47 n45 event account choice day known n45l (by omega) (by omega) (by omega) (by omega) (by omega) (by omega) (by omega) (by omega) (by omega) (by omega)) ?_
                rintro _ _ _ ⟨rfl, ⟨G60, rfl⟩, rfl, evh61, evh61e, f62⟩
                refine r_peekI hX (tl_151 2 rfl (by decide)) n45l (fun o63 o63e o63a o63b => ?_)
                obtain rfl : evh61 = o63 := evh61e.trans o63e.symm
                have e64 : event = (hw [(151, 0), (151, 1), (151, 2), (151, 3), (151, 4), (151, 5)] G47 G60) 151 n45 2 := by rw [← f62]; exact evh61e
                refine r_ex hX hP 1 (pc' := 110) (st' := []) (lo' := [(0, (2, this)), (1, (0, event)), (2, (0, account)), (3, (0, choice)), (4, (0, day)), (5, (0, known)), (6, (0, l6_j24)), (7, (0, l7_j47)), (8, (2, n45))]) rfl ?_
                have g65 : Gr [138, 151, 160, 161, 162, 163, 164, 165, 166, 167, 168, 169, 170, 171, 172, 173, 174, 175, 176, 177, 178, 179, 180, 181, 182, 183, 184, 185] [(128, 0), (128, 1), (129, 1), (151, 0), (151, 1), (151, 2), (151, 3), (151, 4), (151, 5), (157, 0), (157, 1), (157, 2), (173, -1), (174, -1), (175, -1), (176, -1), (177, -1), (178, -1)] S G S46 (hw [(151, 0), (151, 1), (151, 2), (151, 3), (151, 4), (151, 5)] G47 G60) := (gr_hw g58 rfl)
                refine r_finA hX (L := 151) (ci := 6) (fs := fs_151) rfl n45l (by decide) (fun hr66 => ?_)
                have hf67 : Fnl E fs_138 151 S46 (hw [(151, 0), (151, 1), (151, 2), (151, 3), (151, 4), (151, 5)] G47 G60) n45 := by
                  intro j hj
                  rcases (by have : j < 6 := hj; omega : j = 0 ∨ j = 1 ∨ j = 2 ∨ j = 3 ∨ j = 4 ∨ j = 5) with rfl | rfl | rfl | rfl | rfl | rfl
                  · exact hr66 0 (by decide)
                  · exact hr66 1 (by decide)
                  · exact hr66 2 (by decide)
                  · exact hr66 3 (by decide)
                  · exact hr66 4 (by decide)
                  · exact hr66 5 (by decide)
                have ci68 : CI E S46 (hw [(151, 0), (151, 1), (151, 2), (151, 3), (151, 4), (151, 5)] G47 G60) := (ci_hw ci59 rfl)
                refine r_tk hX (fun tk69 => ?_)
                refine r_relabF hX (L := 151) (L' := 138) (ci := 6) (fs := fs_151) (fs' := fs_138) rfl rfl rfl (by decide) (by decide) nf_151 (by decide) n45l hf67 (fun S71 G72 r70 => ?_)
                have s74 : S71 this = 128 := r70.lab n45l s50 (by decide)
                have s75 : S71 evl = 156 := r70.lab n45l s51 (by decide)
                have s76 : S71 pf1 = 157 := r70.lab n45l s52 (by decide)
                have e77 : evl = G72 128 this 8 := rs_val r70 n45l e53 s50 (by decide)
                have e78 : evn = G72 156 evl 2 := rs_val r70 n45l e54 s51 (by decide)
                have e79 : pf1 = G72 128 this 9 := rs_val r70 n45l e55 s50 (by decide)
                have e80 : sip2 = G72 157 pf1 2 := rs_val r70 n45l e56 s52 (by decide)
                have e81 : lf6 = G72 128 this 1 := rs_val r70 n45l e57 s50 (by decide)
                have e82 : event = G72 138 n45 2 := e64.trans (r70.2.2.1 2).symm
                have g83 : Gr [138, 151, 160, 161, 162, 163, 164, 165, 166, 167, 168, 169, 170, 171, 172, 173, 174, 175, 176, 177, 178, 179, 180, 181, 182, 183, 184, 185] [(128, 0), (128, 1), (129, 1), (151, 0), (151, 1), (151, 2), (151, 3), (151, 4), (151, 5), (157, 0), (157, 1), (157, 2), (173, -1), (174, -1), (175, -1), (176, -1), (177, -1), (178, -1)] S G S71 G72 := gr_rs g65 r70 z49 rfl
                have ci84 : CI E S71 G72 := ci_rs ci68 tk69 r70 n45l rfl rfl (fun e => absurd e (by decide)) (fun _ l hl => by rw [ci_uq ci68 hl s51 rfl]; have e1 : event = (hw [(151, 0), (151, 1), (151, 2), (151, 3), (151, 4), (151, 5)] G47 G60) 151 n45 2 := e64; have e2 : evn = (hw [(151, 0), (151, 1), (151, 2), (151, 3), (151, 4), (151, 5)] G47 G60) 156 evl 2 := e54; omega)
                refine r_ex hX hP 1 (pc' := 111) (st' := [(2, this)]) (lo' := [(0, (2, this)), (1, (0, event)), (2, (0, account)), (3, (0, choice)), (4, (0, day)), (5, (0, known)), (6, (0, l6_j24)), (7, (0, l7_j47)), (8, (2, n45))]) rfl ?_
                refine r_getKR hX hP rfl fl_X11_41_128 s74 (x := pf1) e79 ?_
                refine r_ex hX hP 1 (pc' := 116) (st' := [(2, n45), (2, pf1)]) (lo' := [(0, (2, this)), (1, (0, event)), (2, (0, account)), (3, (0, choice)), (4, (0, day)), (5, (0, known)), (6, (0, l6_j24)), (7, (0, l7_j47)), (8, (2, n45))]) rfl ?_
                refine r_tk hX (fun tk85 => ?_)
                refine r_callV gd hX hP rfl cv_X11_143_157 s76 (d' := 14) (mc' := 1) (ms' := 73) (as' := [(2, n45)]) (st := []) (by omega) (by omega) (by omega) rfl rfl (Nat.le_of_ble_eq_true rfl) (c_add_Lpi E S71 G72 pf1 n45 s76 r70.1 sip2 e80 (by omega) ci84) ?_
                rintro _ S86 G87 ⟨g88, z89, rfl, z89a, z89b, ci90, q91⟩
                have s92 : S86 this = 128 := gr_lab g88 s74 (by decide)
                have s93 : S86 evl = 156 := gr_lab g88 s75 (by decide)
                have s94 : S86 pf1 = 157 := gr_lab g88 s76 (by decide)
                have s95 : S86 n45 = 138 := gr_lab g88 r70.1 (by decide)
                have e96 : evl = G87 128 this 8 := gr_val g88 e77 s74 (by decide) rfl
                have e97 : evn = G87 156 evl 2 := gr_val g88 e78 s75 (by decide) rfl
                have e98 : pf1 = G87 128 this 9 := gr_val g88 e79 s74 (by decide) rfl
                have e99 : lf6 = G87 128 this 1 := gr_val g88 e81 s74 (by decide) rfl
                have e100 : event = G87 138 n45 2 := gr_val g88 e82 r70.1 (by decide) rfl
                have g101 : Gr [138, 151, 160, 161, 162, 163, 164, 165, 166, 167, 168, 169, 170, 171, 172, 173, 174, 175, 176, 177, 178, 179, 180, 181, 182, 183, 184, 185] [(128, 0), (128, 1), (129, 1), (151, 0), (151, 1), (151, 2), (151, 3), (151, 4), (151, 5), (157, 0), (157, 1), (157, 2), (173, -1), (174, -1), (175, -1), (176, -1), (177, -1), (178, -1)] S G S86 G87 := gr_call g83 g88 rfl rfl
                refine r_ex hX hP 3 (pc' := 123) (st' := [(0, known), (2, this)]) (lo' := [(0, (2, this)), (1, (0, event)), (2, (0, account)), (3, (0, choice)), (4, (0, day)), (5, (0, known)), (6, (0, l6_j24)), (7, (0, l7_j47)), (8, (2, n45))]) rfl ?_
                refine r_callV gd hX hP rfl cv_X11_147_128 s92 (d' := 0) (mc' := 0) (ms' := 0) (as' := [(0, known)]) (st := []) (by omega) (by omega) (by omega) rfl rfl (Nat.le_of_ble_eq_true rfl) (c_X11_tell E S86 G87 this known s92 (by omega) (by omega)) ?_
                rintro _ _ _ ⟨rfl, ⟨G102, rfl⟩, rfl, -⟩
                refine r_ex hX hP 1 (pc' := 127) (st' := [(2, this)]) (lo' := [(0, (2, this)), (1, (0, event)), (2, (0, account)), (3, (0, choice)), (4, (0, day)), (5, (0, known)), (6, (0, l6_j24)), (7, (0, l7_j47)), (8, (2, n45))]) rfl ?_
                refine r_getKR hX hP rfl fl_X11_41_128 s92 (x := pf1) e98 ?_
                refine r_peekI hX (tl_157 2 rfl (by decide)) s94 (fun sip103 sip103e sip103a sip103b => ?_)
                refine r_callV gd hX hP rfl cv_X11_125_157 s94 (d' := 0) (mc' := 0) (ms' := 0) (as' := []) (st := []) (by omega) (by omega) (by omega) rfl rfl (Nat.le_of_ble_eq_true rfl) (c_size_Lpi E S86 (hw [(128, 1), (129, 1)] G87 G102) pf1  s94 sip103 sip103e) ?_
                rintro _ _ _ ⟨rfl, rfl, z104, rfl, z104a, z104b, f105⟩
                refine r_ex hX hP 2 (pc' := 135) (st' := [(0, (z104 - 1))]) (lo' := [(0, (2, this)), (1, (0, event)), (2, (0, account)), (3, (0, choice)), (4, (0, day)), (5, (0, known)), (6, (0, l6_j24)), (7, (0, l7_j47)), (8, (2, n45))]) rfl ?_
                have g106 : Gr [138, 151, 160, 161, 162, 163, 164, 165, 166, 167, 168, 169, 170, 171, 172, 173, 174, 175, 176, 177, 178, 179, 180, 181, 182, 183, 184, 185] [(128, 0), (128, 1), (129, 1), (151, 0), (151, 1), (151, 2), (151, 3), (151, 4), (151, 5), (157, 0), (157, 1), (157, 2), (173, -1), (174, -1), (175, -1), (176, -1), (177, -1), (178, -1)] S G S86 (hw [(128, 1), (129, 1)] G87 G102) := (gr_hw g101 rfl)
                have ci107 : CI E S86 (hw [(128, 1), (129, 1)] G87 G102) := (ci_hw ci90 rfl)
                exact r_retI hX hP rfl rfl (by omega) (by omega) ⟨g106, (z104 - 1), rfl, (by omega), (by omega), ci107⟩
              · skip
                exfalso; omega
        · skip
          refine r_ex hX hP 2 (pc' := 83) (st' := [(0, 1), (0, 0), (0, l7_j47), (0, l6_j24), (2, this)]) (lo' := [(0, (2, this)), (1, (0, event)), (2, (0, account)), (3, (0, choice)), (4, (0, day)), (5, (0, known)), (6, (0, l6_j24)), (7, (0, l7_j47))]) rfl ?_
          refine r_callS gd hX hP rfl cs_X11_112 (d' := 0) (mc' := 0) (ms' := 0) (as' := [(0, l6_j24), (0, l7_j47), (0, 0), (0, 1)]) (st := [(2, this)]) (by omega) (by omega) (by omega) rfl rfl (Nat.le_of_ble_eq_true rfl) (c_X11_first E S G l6_j24 l7_j47 0 1 (by omega) (by omega) (by omega) (by omega) (by omega) (by omega) (by omega) (by omega)) ?_
          rintro _ _ _ ⟨rfl, rfl, z108, rfl, (⟨rfl, f109⟩ | ⟨rfl, f110, f111⟩ | ⟨rfl, f112, f113, f114⟩ | ⟨rfl, f115, f116, f117, f118⟩ | ⟨rfl, f119, f120, f121, f122⟩)⟩
          · skip
            refine r_callV gd hX hP rfl cv_X11_90_128 hS (d' := 0) (mc' := 0) (ms' := 0) (as' := [(0, 1)]) (st := []) (by omega) (by omega) (by omega) rfl rfl (Nat.le_of_ble_eq_true rfl) (c_X11_refused E S G this 1 hS (by omega) (by omega)) ?_
            rintro _ _ _ ⟨rfl, ⟨G123, rfl⟩, z124, rfl, (⟨rfl, f125⟩ | ⟨rfl, f126⟩)⟩
            · skip
              refine r_if_eq hX hP rfl (tgt := 94) rfl (by omega) (by omega) (fun c127 => ?_) (fun c127 => ?_)
              · skip
                exfalso; omega
              · skip
                refine r_ex hX hP 1 (pc' := 93) (st' := [(0, (-1))]) (lo' := [(0, (2, this)), (1, (0, event)), (2, (0, account)), (3, (0, choice)), (4, (0, day)), (5, (0, known)), (6, (0, l6_j24)), (7, (0, l7_j47))]) rfl ?_
                have g128 : Gr [138, 151, 160, 161, 162, 163, 164, 165, 166, 167, 168, 169, 170, 171, 172, 173, 174, 175, 176, 177, 178, 179, 180, 181, 182, 183, 184, 185] [(128, 0), (128, 1), (129, 1), (151, 0), (151, 1), (151, 2), (151, 3), (151, 4), (151, 5), (157, 0), (157, 1), (157, 2), (173, -1), (174, -1), (175, -1), (176, -1), (177, -1), (178, -1)] S G S (hw [(128, 0)] G G123) := (gr_hw (gr_refl [138, 151, 160, 161, 162, 163, 164, 165, 166, 167, 168, 169, 170, 171, 172, 173, 174, 175, 176, 177, 178, 179, 180, 181, 182, 183, 184, 185] [(128, 0), (128, 1), (129, 1), (151, 0), (151, 1), (151, 2), (151, 3), (151, 4), (151, 5), (157, 0), (157, 1), (157, 2), (173, -1), (174, -1), (175, -1), (176, -1), (177, -1), (178, -1)] S G) rfl)
                have ci129 : CI E S (hw [(128, 0)] G G123) := (ci_hw ci rfl)
                exact r_retI hX hP rfl rfl (by omega) (by omega) ⟨g128, (-1), rfl, (by omega), (by omega), ci129⟩
            · skip
              exfalso; omega
          · skip
            refine r_callV gd hX hP rfl cv_X11_90_128 hS (d' := 0) (mc' := 0) (ms' := 0) (as' := [(0, 2)]) (st := []) (by omega) (by omega) (by omega) rfl rfl (Nat.le_of_ble_eq_true rfl) (c_X11_refused E S G this 2 hS (by omega) (by omega)) ?_
            rintro _ _ _ ⟨rfl, ⟨G130, rfl⟩, z131, rfl, (⟨rfl, f132⟩ | ⟨rfl, f133⟩)⟩
            · skip
              refine r_if_eq hX hP rfl (tgt := 94) rfl (by omega) (by omega) (fun c134 => ?_) (fun c134 => ?_)
              · skip
                exfalso; omega
              · skip
                refine r_ex hX hP 1 (pc' := 93) (st' := [(0, (-1))]) (lo' := [(0, (2, this)), (1, (0, event)), (2, (0, account)), (3, (0, choice)), (4, (0, day)), (5, (0, known)), (6, (0, l6_j24)), (7, (0, l7_j47))]) rfl ?_
                have g135 : Gr [138, 151, 160, 161, 162, 163, 164, 165, 166, 167, 168, 169, 170, 171, 172, 173, 174, 175, 176, 177, 178, 179, 180, 181, 182, 183, 184, 185] [(128, 0), (128, 1), (129, 1), (151, 0), (151, 1), (151, 2), (151, 3), (151, 4), (151, 5), (157, 0), (157, 1), (157, 2), (173, -1), (174, -1), (175, -1), (176, -1), (177, -1), (178, -1)] S G S (hw [(128, 0)] G G130) := (gr_hw (gr_refl [138, 151, 160, 161, 162, 163, 164, 165, 166, 167, 168, 169, 170, 171, 172, 173, 174, 175, 176, 177, 178, 179, 180, 181, 182, 183, 184, 185] [(128, 0), (128, 1), (129, 1), (151, 0), (151, 1), (151, 2), (151, 3), (151, 4), (151, 5), (157, 0), (157, 1), (157, 2), (173, -1), (174, -1), (175, -1), (176, -1), (177, -1), (178, -1)] S G) rfl)
                have ci136 : CI E S (hw [(128, 0)] G G130) := (ci_hw ci rfl)
                exact r_retI hX hP rfl rfl (by omega) (by omega) ⟨g135, (-1), rfl, (by omega), (by omega), ci136⟩
            · skip
              exfalso; omega
          · skip
            exfalso; omega
          · skip
            refine r_callV gd hX hP rfl cv_X11_90_128 hS (d' := 0) (mc' := 0) (ms' := 0) (as' := [(0, 4)]) (st := []) (by omega) (by omega) (by omega) rfl rfl (Nat.le_of_ble_eq_true rfl) (c_X11_refused E S G this 4 hS (by omega) (by omega)) ?_
            rintro _ _ _ ⟨rfl, ⟨G137, rfl⟩, z138, rfl, (⟨rfl, f139⟩ | ⟨rfl, f140⟩)⟩
            · skip
              refine r_if_eq hX hP rfl (tgt := 94) rfl (by omega) (by omega) (fun c141 => ?_) (fun c141 => ?_)
              · skip
                exfalso; omega
              · skip
                refine r_ex hX hP 1 (pc' := 93) (st' := [(0, (-1))]) (lo' := [(0, (2, this)), (1, (0, event)), (2, (0, account)), (3, (0, choice)), (4, (0, day)), (5, (0, known)), (6, (0, l6_j24)), (7, (0, l7_j47))]) rfl ?_
                have g142 : Gr [138, 151, 160, 161, 162, 163, 164, 165, 166, 167, 168, 169, 170, 171, 172, 173, 174, 175, 176, 177, 178, 179, 180, 181, 182, 183, 184, 185] [(128, 0), (128, 1), (129, 1), (151, 0), (151, 1), (151, 2), (151, 3), (151, 4), (151, 5), (157, 0), (157, 1), (157, 2), (173, -1), (174, -1), (175, -1), (176, -1), (177, -1), (178, -1)] S G S (hw [(128, 0)] G G137) := (gr_hw (gr_refl [138, 151, 160, 161, 162, 163, 164, 165, 166, 167, 168, 169, 170, 171, 172, 173, 174, 175, 176, 177, 178, 179, 180, 181, 182, 183, 184, 185] [(128, 0), (128, 1), (129, 1), (151, 0), (151, 1), (151, 2), (151, 3), (151, 4), (151, 5), (157, 0), (157, 1), (157, 2), (173, -1), (174, -1), (175, -1), (176, -1), (177, -1), (178, -1)] S G) rfl)
                have ci143 : CI E S (hw [(128, 0)] G G137) := (ci_hw ci rfl)
                exact r_retI hX hP rfl rfl (by omega) (by omega) ⟨g142, (-1), rfl, (by omega), (by omega), ci143⟩
            · skip
              exfalso; omega
          · skip
            exfalso; omega
      · skip
        refine r_ex hX hP 4 (pc' := 72) (st' := [(2, this), (0, known), (0, 1), (0, l7_j47), (0, l6_j24), (2, this)]) (lo' := [(0, (2, this)), (1, (0, event)), (2, (0, account)), (3, (0, choice)), (4, (0, day)), (5, (0, known)), (6, (0, l6_j24)), (7, (0, l7_j47))]) rfl ?_
        refine r_getI hX hP rfl fl_X11_129_128 hS (fun lf144 lf144e lf144a lf144b => ?_)
        refine r_ic_ge hX hP rfl (tgt := 82) rfl (by omega) (by omega) (by omega) (by omega) (fun c145 => ?_) (fun c145 => ?_)
        · skip
          refine r_ex hX hP 1 (pc' := 83) (st' := [(0, 0), (0, 1), (0, l7_j47), (0, l6_j24), (2, this)]) (lo' := [(0, (2, this)), (1, (0, event)), (2, (0, account)), (3, (0, choice)), (4, (0, day)), (5, (0, known)), (6, (0, l6_j24)), (7, (0, l7_j47))]) rfl ?_
          refine r_callS gd hX hP rfl cs_X11_112 (d' := 0) (mc' := 0) (ms' := 0) (as' := [(0, l6_j24), (0, l7_j47), (0, 1), (0, 0)]) (st := [(2, this)]) (by omega) (by omega) (by omega) rfl rfl (Nat.le_of_ble_eq_true rfl) (c_X11_first E S G l6_j24 l7_j47 1 0 (by omega) (by omega) (by omega) (by omega) (by omega) (by omega) (by omega) (by omega)) ?_
          rintro _ _ _ ⟨rfl, rfl, z146, rfl, (⟨rfl, f147⟩ | ⟨rfl, f148, f149⟩ | ⟨rfl, f150, f151, f152⟩ | ⟨rfl, f153, f154, f155, f156⟩ | ⟨rfl, f157, f158, f159, f160⟩)⟩
          · skip
            refine r_callV gd hX hP rfl cv_X11_90_128 hS (d' := 0) (mc' := 0) (ms' := 0) (as' := [(0, 1)]) (st := []) (by omega) (by omega) (by omega) rfl rfl (Nat.le_of_ble_eq_true rfl) (c_X11_refused E S G this 1 hS (by omega) (by omega)) ?_
            rintro _ _ _ ⟨rfl, ⟨G161, rfl⟩, z162, rfl, (⟨rfl, f163⟩ | ⟨rfl, f164⟩)⟩
            · skip
              refine r_if_eq hX hP rfl (tgt := 94) rfl (by omega) (by omega) (fun c165 => ?_) (fun c165 => ?_)
              · skip
                exfalso; omega
              · skip
                refine r_ex hX hP 1 (pc' := 93) (st' := [(0, (-1))]) (lo' := [(0, (2, this)), (1, (0, event)), (2, (0, account)), (3, (0, choice)), (4, (0, day)), (5, (0, known)), (6, (0, l6_j24)), (7, (0, l7_j47))]) rfl ?_
                have g166 : Gr [138, 151, 160, 161, 162, 163, 164, 165, 166, 167, 168, 169, 170, 171, 172, 173, 174, 175, 176, 177, 178, 179, 180, 181, 182, 183, 184, 185] [(128, 0), (128, 1), (129, 1), (151, 0), (151, 1), (151, 2), (151, 3), (151, 4), (151, 5), (157, 0), (157, 1), (157, 2), (173, -1), (174, -1), (175, -1), (176, -1), (177, -1), (178, -1)] S G S (hw [(128, 0)] G G161) := (gr_hw (gr_refl [138, 151, 160, 161, 162, 163, 164, 165, 166, 167, 168, 169, 170, 171, 172, 173, 174, 175, 176, 177, 178, 179, 180, 181, 182, 183, 184, 185] [(128, 0), (128, 1), (129, 1), (151, 0), (151, 1), (151, 2), (151, 3), (151, 4), (151, 5), (157, 0), (157, 1), (157, 2), (173, -1), (174, -1), (175, -1), (176, -1), (177, -1), (178, -1)] S G) rfl)
                have ci167 : CI E S (hw [(128, 0)] G G161) := (ci_hw ci rfl)
                exact r_retI hX hP rfl rfl (by omega) (by omega) ⟨g166, (-1), rfl, (by omega), (by omega), ci167⟩
            · skip
              exfalso; omega
          · skip
            refine r_callV gd hX hP rfl cv_X11_90_128 hS (d' := 0) (mc' := 0) (ms' := 0) (as' := [(0, 2)]) (st := []) (by omega) (by omega) (by omega) rfl rfl (Nat.le_of_ble_eq_true rfl) (c_X11_refused E S G this 2 hS (by omega) (by omega)) ?_
            rintro _ _ _ ⟨rfl, ⟨G168, rfl⟩, z169, rfl, (⟨rfl, f170⟩ | ⟨rfl, f171⟩)⟩
            · skip
              refine r_if_eq hX hP rfl (tgt := 94) rfl (by omega) (by omega) (fun c172 => ?_) (fun c172 => ?_)
              · skip
                exfalso; omega
              · skip
                refine r_ex hX hP 1 (pc' := 93) (st' := [(0, (-1))]) (lo' := [(0, (2, this)), (1, (0, event)), (2, (0, account)), (3, (0, choice)), (4, (0, day)), (5, (0, known)), (6, (0, l6_j24)), (7, (0, l7_j47))]) rfl ?_
                have g173 : Gr [138, 151, 160, 161, 162, 163, 164, 165, 166, 167, 168, 169, 170, 171, 172, 173, 174, 175, 176, 177, 178, 179, 180, 181, 182, 183, 184, 185] [(128, 0), (128, 1), (129, 1), (151, 0), (151, 1), (151, 2), (151, 3), (151, 4), (151, 5), (157, 0), (157, 1), (157, 2), (173, -1), (174, -1), (175, -1), (176, -1), (177, -1), (178, -1)] S G S (hw [(128, 0)] G G168) := (gr_hw (gr_refl [138, 151, 160, 161, 162, 163, 164, 165, 166, 167, 168, 169, 170, 171, 172, 173, 174, 175, 176, 177, 178, 179, 180, 181, 182, 183, 184, 185] [(128, 0), (128, 1), (129, 1), (151, 0), (151, 1), (151, 2), (151, 3), (151, 4), (151, 5), (157, 0), (157, 1), (157, 2), (173, -1), (174, -1), (175, -1), (176, -1), (177, -1), (178, -1)] S G) rfl)
                have ci174 : CI E S (hw [(128, 0)] G G168) := (ci_hw ci rfl)
                exact r_retI hX hP rfl rfl (by omega) (by omega) ⟨g173, (-1), rfl, (by omega), (by omega), ci174⟩
            · skip
              exfalso; omega
          · skip
            refine r_callV gd hX hP rfl cv_X11_90_128 hS (d' := 0) (mc' := 0) (ms' := 0) (as' := [(0, 3)]) (st := []) (by omega) (by omega) (by omega) rfl rfl (Nat.le_of_ble_eq_true rfl) (c_X11_refused E S G this 3 hS (by omega) (by omega)) ?_
            rintro _ _ _ ⟨rfl, ⟨G175, rfl⟩, z176, rfl, (⟨rfl, f177⟩ | ⟨rfl, f178⟩)⟩
            · skip
              refine r_if_eq hX hP rfl (tgt := 94) rfl (by omega) (by omega) (fun c179 => ?_) (fun c179 => ?_)
              · skip
                exfalso; omega
              · skip
                refine r_ex hX hP 1 (pc' := 93) (st' := [(0, (-1))]) (lo' := [(0, (2, this)), (1, (0, event)), (2, (0, account)), (3, (0, choice)), (4, (0, day)), (5, (0, known)), (6, (0, l6_j24)), (7, (0, l7_j47))]) rfl ?_
                have g180 : Gr [138, 151, 160, 161, 162, 163, 164, 165, 166, 167, 168, 169, 170, 171, 172, 173, 174, 175, 176, 177, 178, 179, 180, 181, 182, 183, 184, 185] [(128, 0), (128, 1), (129, 1), (151, 0), (151, 1), (151, 2), (151, 3), (151, 4), (151, 5), (157, 0), (157, 1), (157, 2), (173, -1), (174, -1), (175, -1), (176, -1), (177, -1), (178, -1)] S G S (hw [(128, 0)] G G175) := (gr_hw (gr_refl [138, 151, 160, 161, 162, 163, 164, 165, 166, 167, 168, 169, 170, 171, 172, 173, 174, 175, 176, 177, 178, 179, 180, 181, 182, 183, 184, 185] [(128, 0), (128, 1), (129, 1), (151, 0), (151, 1), (151, 2), (151, 3), (151, 4), (151, 5), (157, 0), (157, 1), (157, 2), (173, -1), (174, -1), (175, -1), (176, -1), (177, -1), (178, -1)] S G) rfl)
                have ci181 : CI E S (hw [(128, 0)] G G175) := (ci_hw ci rfl)
                exact r_retI hX hP rfl rfl (by omega) (by omega) ⟨g180, (-1), rfl, (by omega), (by omega), ci181⟩
            · skip
              exfalso; omega
          · skip
            exfalso; omega
          · skip
            exfalso; omega
        · skip
          refine r_ex hX hP 2 (pc' := 83) (st' := [(0, 1), (0, 1), (0, l7_j47), (0, l6_j24), (2, this)]) (lo' := [(0, (2, this)), (1, (0, event)), (2, (0, account)), (3, (0, choice)), (4, (0, day)), (5, (0, known)), (6, (0, l6_j24)), (7, (0, l7_j47))]) rfl ?_
          refine r_callS gd hX hP rfl cs_X11_112 (d' := 0) (mc' := 0) (ms' := 0) (as' := [(0, l6_j24), (0, l7_j47), (0, 1), (0, 1)]) (st := [(2, this)]) (by omega) (by omega) (by omega) rfl rfl (Nat.le_of_ble_eq_true rfl) (c_X11_first E S G l6_j24 l7_j47 1 1 (by omega) (by omega) (by omega) (by omega) (by omega) (by omega) (by omega) (by omega)) ?_
          rintro _ _ _ ⟨rfl, rfl, z182, rfl, (⟨rfl, f183⟩ | ⟨rfl, f184, f185⟩ | ⟨rfl, f186, f187, f188⟩ | ⟨rfl, f189, f190, f191, f192⟩ | ⟨rfl, f193, f194, f195, f196⟩)⟩
          · skip
            refine r_callV gd hX hP rfl cv_X11_90_128 hS (d' := 0) (mc' := 0) (ms' := 0) (as' := [(0, 1)]) (st := []) (by omega) (by omega) (by omega) rfl rfl (Nat.le_of_ble_eq_true rfl) (c_X11_refused E S G this 1 hS (by omega) (by omega)) ?_
            rintro _ _ _ ⟨rfl, ⟨G197, rfl⟩, z198, rfl, (⟨rfl, f199⟩ | ⟨rfl, f200⟩)⟩
            · skip
              refine r_if_eq hX hP rfl (tgt := 94) rfl (by omega) (by omega) (fun c201 => ?_) (fun c201 => ?_)
              · skip
                exfalso; omega
              · skip
                refine r_ex hX hP 1 (pc' := 93) (st' := [(0, (-1))]) (lo' := [(0, (2, this)), (1, (0, event)), (2, (0, account)), (3, (0, choice)), (4, (0, day)), (5, (0, known)), (6, (0, l6_j24)), (7, (0, l7_j47))]) rfl ?_
                have g202 : Gr [138, 151, 160, 161, 162, 163, 164, 165, 166, 167, 168, 169, 170, 171, 172, 173, 174, 175, 176, 177, 178, 179, 180, 181, 182, 183, 184, 185] [(128, 0), (128, 1), (129, 1), (151, 0), (151, 1), (151, 2), (151, 3), (151, 4), (151, 5), (157, 0), (157, 1), (157, 2), (173, -1), (174, -1), (175, -1), (176, -1), (177, -1), (178, -1)] S G S (hw [(128, 0)] G G197) := (gr_hw (gr_refl [138, 151, 160, 161, 162, 163, 164, 165, 166, 167, 168, 169, 170, 171, 172, 173, 174, 175, 176, 177, 178, 179, 180, 181, 182, 183, 184, 185] [(128, 0), (128, 1), (129, 1), (151, 0), (151, 1), (151, 2), (151, 3), (151, 4), (151, 5), (157, 0), (157, 1), (157, 2), (173, -1), (174, -1), (175, -1), (176, -1), (177, -1), (178, -1)] S G) rfl)
                have ci203 : CI E S (hw [(128, 0)] G G197) := (ci_hw ci rfl)
                exact r_retI hX hP rfl rfl (by omega) (by omega) ⟨g202, (-1), rfl, (by omega), (by omega), ci203⟩
            · skip
              exfalso; omega
          · skip
            refine r_callV gd hX hP rfl cv_X11_90_128 hS (d' := 0) (mc' := 0) (ms' := 0) (as' := [(0, 2)]) (st := []) (by omega) (by omega) (by omega) rfl rfl (Nat.le_of_ble_eq_true rfl) (c_X11_refused E S G this 2 hS (by omega) (by omega)) ?_
            rintro _ _ _ ⟨rfl, ⟨G204, rfl⟩, z205, rfl, (⟨rfl, f206⟩ | ⟨rfl, f207⟩)⟩
            · skip
              refine r_if_eq hX hP rfl (tgt := 94) rfl (by omega) (by omega) (fun c208 => ?_) (fun c208 => ?_)
              · skip
                exfalso; omega
              · skip
                refine r_ex hX hP 1 (pc' := 93) (st' := [(0, (-1))]) (lo' := [(0, (2, this)), (1, (0, event)), (2, (0, account)), (3, (0, choice)), (4, (0, day)), (5, (0, known)), (6, (0, l6_j24)), (7, (0, l7_j47))]) rfl ?_
                have g209 : Gr [138, 151, 160, 161, 162, 163, 164, 165, 166, 167, 168, 169, 170, 171, 172, 173, 174, 175, 176, 177, 178, 179, 180, 181, 182, 183, 184, 185] [(128, 0), (128, 1), (129, 1), (151, 0), (151, 1), (151, 2), (151, 3), (151, 4), (151, 5), (157, 0), (157, 1), (157, 2), (173, -1), (174, -1), (175, -1), (176, -1), (177, -1), (178, -1)] S G S (hw [(128, 0)] G G204) := (gr_hw (gr_refl [138, 151, 160, 161, 162, 163, 164, 165, 166, 167, 168, 169, 170, 171, 172, 173, 174, 175, 176, 177, 178, 179, 180, 181, 182, 183, 184, 185] [(128, 0), (128, 1), (129, 1), (151, 0), (151, 1), (151, 2), (151, 3), (151, 4), (151, 5), (157, 0), (157, 1), (157, 2), (173, -1), (174, -1), (175, -1), (176, -1), (177, -1), (178, -1)] S G) rfl)
                have ci210 : CI E S (hw [(128, 0)] G G204) := (ci_hw ci rfl)
                exact r_retI hX hP rfl rfl (by omega) (by omega) ⟨g209, (-1), rfl, (by omega), (by omega), ci210⟩
            · skip
              exfalso; omega
          · skip
            refine r_callV gd hX hP rfl cv_X11_90_128 hS (d' := 0) (mc' := 0) (ms' := 0) (as' := [(0, 3)]) (st := []) (by omega) (by omega) (by omega) rfl rfl (Nat.le_of_ble_eq_true rfl) (c_X11_refused E S G this 3 hS (by omega) (by omega)) ?_
            rintro _ _ _ ⟨rfl, ⟨G211, rfl⟩, z212, rfl, (⟨rfl, f213⟩ | ⟨rfl, f214⟩)⟩
            · skip
              refine r_if_eq hX hP rfl (tgt := 94) rfl (by omega) (by omega) (fun c215 => ?_) (fun c215 => ?_)
              · skip
                exfalso; omega
              · skip
                refine r_ex hX hP 1 (pc' := 93) (st' := [(0, (-1))]) (lo' := [(0, (2, this)), (1, (0, event)), (2, (0, account)), (3, (0, choice)), (4, (0, day)), (5, (0, known)), (6, (0, l6_j24)), (7, (0, l7_j47))]) rfl ?_
                have g216 : Gr [138, 151, 160, 161, 162, 163, 164, 165, 166, 167, 168, 169, 170, 171, 172, 173, 174, 175, 176, 177, 178, 179, 180, 181, 182, 183, 184, 185] [(128, 0), (128, 1), (129, 1), (151, 0), (151, 1), (151, 2), (151, 3), (151, 4), (151, 5), (157, 0), (157, 1), (157, 2), (173, -1), (174, -1), (175, -1), (176, -1), (177, -1), (178, -1)] S G S (hw [(128, 0)] G G211) := (gr_hw (gr_refl [138, 151, 160, 161, 162, 163, 164, 165, 166, 167, 168, 169, 170, 171, 172, 173, 174, 175, 176, 177, 178, 179, 180, 181, 182, 183, 184, 185] [(128, 0), (128, 1), (129, 1), (151, 0), (151, 1), (151, 2), (151, 3), (151, 4), (151, 5), (157, 0), (157, 1), (157, 2), (173, -1), (174, -1), (175, -1), (176, -1), (177, -1), (178, -1)] S G) rfl)
                have ci217 : CI E S (hw [(128, 0)] G G211) := (ci_hw ci rfl)
                exact r_retI hX hP rfl rfl (by omega) (by omega) ⟨g216, (-1), rfl, (by omega), (by omega), ci217⟩
            · skip
              exfalso; omega
          · skip
            exfalso; omega
          · skip
            exfalso; omega
    refine r_ex hX hP 1 (pc' := 26) (st' := [(0, day)]) (lo' := [(0, (2, this)), (1, (0, event)), (2, (0, account)), (3, (0, choice)), (4, (0, day)), (5, (0, known)), (6, (0, l6_j24))]) rfl ?_
    refine r_callS gd hX hP rfl cs_X11_86 (d' := 1) (mc' := 0) (ms' := 0) (as' := [(0, day)]) (st := []) (by omega) (by omega) (by omega) rfl rfl (Nat.le_of_ble_eq_true rfl) (c_X11_isDay E S G day (by omega) (by omega)) ?_
    rintro _ _ _ ⟨rfl, rfl, z218, rfl, (⟨rfl, f219, f220⟩ | ⟨rfl, f221⟩)⟩
    · skip
      refine r_if_eq hX hP rfl (tgt := 40) rfl (by omega) (by omega) (fun c222 => ?_) (fun c222 => ?_)
      · skip
        exfalso; omega
      · skip
        refine r_ex hX hP 1 (pc' := 34) (st' := [(0, known)]) (lo' := [(0, (2, this)), (1, (0, event)), (2, (0, account)), (3, (0, choice)), (4, (0, day)), (5, (0, known)), (6, (0, l6_j24))]) rfl ?_
        refine r_callS gd hX hP rfl cs_X11_86 (d' := 1) (mc' := 0) (ms' := 0) (as' := [(0, known)]) (st := []) (by omega) (by omega) (by omega) rfl rfl (Nat.le_of_ble_eq_true rfl) (c_X11_isDay E S G known (by omega) (by omega)) ?_
        rintro _ _ _ ⟨rfl, rfl, z223, rfl, (⟨rfl, f224, f225⟩ | ⟨rfl, f226⟩)⟩
        · skip
          refine r_if_ne hX hP rfl (tgt := 44) rfl (by omega) (by omega) (fun c227 => ?_) (fun c227 => ?_)
          · skip
            refine r_ex hX hP 2 (pc' := 47) (st' := []) (lo' := [(0, (2, this)), (1, (0, event)), (2, (0, account)), (3, (0, choice)), (4, (0, day)), (5, (0, known)), (6, (0, l6_j24)), (7, (0, 0))]) rfl ?_
            exact j47 0 (by omega) (by omega) (by omega)
          · skip
            exfalso; omega
        · skip
          refine r_if_ne hX hP rfl (tgt := 44) rfl (by omega) (by omega) (fun c228 => ?_) (fun c228 => ?_)
          · skip
            exfalso; omega
          · skip
            refine r_ex hX hP 3 (pc' := 47) (st' := []) (lo' := [(0, (2, this)), (1, (0, event)), (2, (0, account)), (3, (0, choice)), (4, (0, day)), (5, (0, known)), (6, (0, l6_j24)), (7, (0, 1))]) rfl ?_
            exact j47 1 (by omega) (by omega) (by omega)
    · skip
      refine r_if_eq hX hP rfl (tgt := 40) rfl (by omega) (by omega) (fun c229 => ?_) (fun c229 => ?_)
      · skip
        refine r_ex hX hP 3 (pc' := 47) (st' := []) (lo' := [(0, (2, this)), (1, (0, event)), (2, (0, account)), (3, (0, choice)), (4, (0, day)), (5, (0, known)), (6, (0, l6_j24)), (7, (0, 1))]) rfl ?_
        exact j47 1 (by omega) (by omega) (by omega)
      · skip
        exfalso; omega
  refine r_ex hX hP 3 (pc' := 3) (st' := [(0, choice), (0, event), (2, this)]) (lo' := [(0, (2, this)), (1, (0, event)), (2, (0, account)), (3, (0, choice)), (4, (0, day)), (5, (0, known))]) rfl ?_
  refine r_callV gd hX hP rfl cv_X11_209_128 hS (d' := 3) (mc' := 0) (ms' := 0) (as' := [(0, event), (0, choice)]) (st := []) (by omega) (by omega) (by omega) rfl rfl (Nat.le_of_ble_eq_true rfl) (c_X11_hasChoice E S G this event choice hS evl evl_e evl_s evn evn_e (by omega) (by omega) (by omega) (by omega) ci) ?_
  rintro _ _ _ ⟨rfl, rfl, z230, rfl, (⟨rfl, f231, f232, f233, f234⟩ | rfl)⟩
  · skip
    refine r_if_eq hX hP rfl (tgt := 17) rfl (by omega) (by omega) (fun c235 => ?_) (fun c235 => ?_)
    · skip
      exfalso; omega
    · skip
      refine r_ex hX hP 2 (pc' := 11) (st' := [(0, account), (2, this)]) (lo' := [(0, (2, this)), (1, (0, event)), (2, (0, account)), (3, (0, choice)), (4, (0, day)), (5, (0, known))]) rfl ?_
      refine r_peekR hX (tl_128 5 rfl (by decide)) hS (fun acp236 acp236e acp236s => ?_)
      refine r_peekI hX (tl_130 0 rfl (by decide)) acp236s (fun cop237 cop237e cop237a cop237b => ?_)
      refine r_callV gd hX hP rfl cv_X11_100_128 hS (d' := 1) (mc' := 0) (ms' := 0) (as' := [(0, account)]) (st := []) (by omega) (by omega) (by omega) rfl rfl (Nat.le_of_ble_eq_true rfl) (c_X11_hasAccount E S G this account hS acp236 acp236e acp236s cop237 cop237e (by omega) (by omega)) ?_
      rintro _ _ _ ⟨rfl, rfl, z238, rfl, (⟨rfl, f239, f240⟩ | rfl)⟩
      · skip
        refine r_if_ne hX hP rfl (tgt := 21) rfl (by omega) (by omega) (fun c241 => ?_) (fun c241 => ?_)
        · skip
          refine r_ex hX hP 2 (pc' := 24) (st' := []) (lo' := [(0, (2, this)), (1, (0, event)), (2, (0, account)), (3, (0, choice)), (4, (0, day)), (5, (0, known)), (6, (0, 0))]) rfl ?_
          exact j24 0 (by omega) (by omega) (by omega)
        · skip
          exfalso; omega
      · skip
        refine r_if_ne hX hP rfl (tgt := 21) rfl (by omega) (by omega) (fun c242 => ?_) (fun c242 => ?_)
        · skip
          exfalso; omega
        · skip
          refine r_ex hX hP 3 (pc' := 24) (st' := []) (lo' := [(0, (2, this)), (1, (0, event)), (2, (0, account)), (3, (0, choice)), (4, (0, day)), (5, (0, known)), (6, (0, 1))]) rfl ?_
          exact j24 1 (by omega) (by omega) (by omega)
  · skip
    refine r_if_eq hX hP rfl (tgt := 17) rfl (by omega) (by omega) (fun c243 => ?_) (fun c243 => ?_)
    · skip
      refine r_ex hX hP 3 (pc' := 24) (st' := []) (lo' := [(0, (2, this)), (1, (0, event)), (2, (0, account)), (3, (0, choice)), (4, (0, day)), (5, (0, known)), (6, (0, 1))]) rfl ?_
      exact j24 1 (by omega) (by omega) (by omega)
    · skip
      exfalso; omega
