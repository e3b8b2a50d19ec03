theorem cv_X11_143_158 : Cv RX11 143 mJx4a65c_add_9ea2d 158 1 := ⟨co_Jx4a65c_add_9ea2d, (tbg sg3 69 rfl rfl), (tbg sg3 70 rfl rfl), 0, 3, fs_158, RJx4a65c, TJx4a65c, rfl, by decide, rfl, (tbg sg3 71 rfl rfl)⟩
theorem cv_X11_143_159 : Cv RX11 143 mJx4a65c_add_9ea2d 159 1 := ⟨co_Jx4a65c_add_9ea2d, (tbg sg3 69 rfl rfl), (tbg sg3 70 rfl rfl), 0, 3, fs_159, RJx4a65c, TJx4a65c, rfl, by decide, rfl, (tbg sg3 71 rfl rfl)⟩
theorem co_X11_settledStatus : Co mX11_settledStatus 1 := ⟨(tbg sg6 185 rfl rfl), (tbg sg1 1 rfl rfl), by decide, by decide, by decide +kernel, by decide⟩
theorem cv_X11_306_128 : Cv RX11 306 mX11_settledStatus 128 1 := ⟨co_X11_settledStatus, (tbg sg6 182 rfl rfl), (tbg sg6 184 rfl rfl), 11, 20, fs_128, RX11, TX11, rfl, by decide, rfl, (tbm 70 (by decide +kernel) rfl)⟩
theorem co_X11_owingSide : Co mX11_owingSide 2 := ⟨(tbg sg6 188 rfl rfl), (tbg sg1 1 rfl rfl), by decide, by decide, by decide +kernel, by decide⟩
theorem cs_X11_309 : Cs RX11 309 mX11_owingSide 2 := ⟨co_X11_owingSide, (tbg sg6 186 rfl rfl), (tbg sg6 187 rfl rfl)⟩
theorem fl_X11_313_140 : Fl RX11 313 140 4 (0, (-2147483648), 2147483647) := ⟨2, 9, fs_140, RX1, TX1, rfl, rfl, by decide, rfl, by decide, rfl, cf_X1, (tbg sg3 35 rfl rfl)⟩
theorem co_X11_givenTo : Co mX11_givenTo 3 := ⟨(tbg sg6 191 rfl rfl), (tbg sg1 1 rfl rfl), by decide, by decide, by decide +kernel, by decide⟩
theorem cs_X11_316 : Cs RX11 316 mX11_givenTo 3 := ⟨co_X11_givenTo, (tbg sg6 189 rfl rfl), (tbg sg6 190 rfl rfl)⟩
theorem fl_X11_293_128 : Fl RX11 293 128 19 (3, 133, 0) := ⟨11, 20, fs_128, RX11, TX11, rfl, rfl, by decide, rfl, by decide, rfl, cf_X11, (tbg sg2 167 rfl rfl)⟩
theorem fp_X11_293_128 : Fp RX11 293 128 19 (3, 133, 0) := ⟨fl_X11_293_128, 11, 20, fs_128, RX11, TX11, (.object "ShareLife$Flood"), rfl, rfl, rfl, by decide +kernel, fun E S x h => reffit (fun _ => rfl) ⟨rfl, fun _ => rfl⟩ (by decide) x⟩
theorem co_X3_goOn : Co mX3_goOn 1 := ⟨(tbg sg6 102 rfl rfl), (tbg sg1 25 rfl rfl), by decide, by decide, by decide +kernel, by decide⟩
theorem cv_X11_302_133 : Cv RX11 302 mX3_goOn 133 1 := ⟨co_X3_goOn, (tbg sg6 99 rfl rfl), (tbg sg6 100 rfl rfl), 4, 17, fs_133, RX3, TX3, rfl, by decide, rfl, (tbg sg6 101 rfl rfl)⟩
theorem nw_X11_297_147 : Nw RX11 297 147 17 := ⟨4, fs_147, RX3, TX3, tyX3, rfl, rfl, by decide, rfl, tbs [1410, 1412, 1414, 1416, 1418, 1420, 1422, 1424, 1426, 1428, 1430, 1432, 1434, 1436, 1438, 1440, 1442] (by decide +kernel), tyX3_ok, (tbg sg6 36 rfl rfl), (tbg sg6 37 rfl rfl), (tbg sg1 25 rfl rfl), by decide⟩
theorem co_X3_init : Co mX3_init 1 := ⟨(tbg sg6 40 rfl rfl), (tbg sg1 25 rfl rfl), by decide, by decide, by decide +kernel, by decide⟩
theorem ci_X11_299 : Ci RX11 299 mX3_init 1 := ⟨co_X3_init, (tbg sg6 38 rfl rfl), rfl, (tbg sg6 39 rfl rfl), rfl⟩
theorem nf_147 : norf 147 = true := by decide +kernel
theorem fl_X11_289_140 : Fl RX11 289 140 2 (0, 0, 19) := ⟨2, 9, fs_140, RX1, TX1, rfl, rfl, by decide, rfl, by decide, rfl, cf_X1, (tbg sg3 28 rfl rfl)⟩
set_option maxRecDepth 100000 in
set_option maxHeartbeats 4000000 in
theorem c_X11_option (E : En) (S : Sg) (G : Gh) (this : Int) (paper : Int) (day : Int) (strike : Int) (number : Int) (known : Int) (hS : S this = 128) (paper_a : (-2147483648) ≤ paper) (paper_b : paper ≤ 2147483647) (day_a : (-2147483648) ≤ day) (day_b : day ≤ 2147483647) (strike_a : (-2147483648) ≤ strike) (strike_b : strike ≤ 2147483647) (number_a : (-2147483648) ≤ number) (number_b : number ≤ 2147483647) (known_a : (-2147483648) ≤ known) (known_b : known ≤ 2147483647) (ci : CI E S G) : Calls E mX11_option [(2, this), (0, paper), (0, day), (0, strike), (0, number), (0, known)] S G 15 2 82 (fun r S' G' => Gr [141, 152, 160, 161, 162, 163, 164, 165, 166, 167, 168, 169, 170, 171, 172, 173, 174, 175, 176, 177, 178, 179, 180, 181, 182, 183, 184, 185] [(128, 0), (128, 1), (129, 1), (152, 0), (152, 1), (152, 2), (152, 3), (152, 4), (152, 5), (152, 6), (152, 8), (158, 0), (158, 1), (158, 2), (179, -1)] S G S' G' ∧ ∃ z : Int, r = some (0, z) ∧ (-2147483648) ≤ z ∧ z ≤ 2147483647 ∧ CI E S' G') := by
  refine calls_by [(0, (2, this)), (1, (0, paper)), (2, (0, day)), (3, (0, strike)), (4, (0, number)), (5, (0, known))] rfl rfl (Nat.le_of_ble_eq_true rfl) (fun X hX => ?_)
  have hP := hPX11_option
  have j44 : ∀ (l6_j44 : Int), 0 ≤ l6_j44 → l6_j44 ≤ 1 → (l6_j44 = 1 ∨ (0 ≤ day ∧ day ≤ 40000 ∧ 1 ≤ strike ∧ 0 ≤ known ∧ known ≤ 40000)) → X 0 0 44 [] [(0, (2, this)), (1, (0, paper)), (2, (0, day)), (3, (0, strike)), (4, (0, number)), (5, (0, known)), (6, (0, l6_j44))] S G := by
    intro l6_j44 yj44_0 yj44_1 yj44_2
    refine r_ex hX hP 2 (pc' := 46) (st' := [(0, paper), (2, this)]) (lo' := [(0, (2, this)), (1, (0, paper)), (2, (0, day)), (3, (0, strike)), (4, (0, number)), (5, (0, known)), (6, (0, l6_j44))]) rfl ?_
    refine r_callS gd hX hP rfl cs_X11_120 (d' := 1) (mc' := 0) (ms' := 0) (as' := [(0, paper)]) (st := [(2, this)]) (by omega) (by omega) (by omega) rfl rfl (Nat.le_of_ble_eq_true rfl) (c_X11_isPaper E S G paper (by omega) (by omega)) ?_
    rintro _ _ _ ⟨rfl, rfl, z1, rfl, (⟨rfl, f2, f3⟩ | rfl)⟩
    · skip
      refine r_if_ne hX hP rfl (tgt := 56) rfl (by omega) (by omega) (fun c4 => ?_) (fun c4 => ?_)
      · skip
        refine r_ex hX hP 3 (pc' := 60) (st' := [(2, this), (0, l6_j44), (0, 0), (2, this)]) (lo' := [(0, (2, this)), (1, (0, paper)), (2, (0, day)), (3, (0, strike)), (4, (0, number)), (5, (0, known)), (6, (0, l6_j44))]) rfl ?_
        refine r_getR hX hP rfl fl_X11_45_128 hS (fun of5 of5e of5s => ?_)
        refine r_peekI hX (tl_158 2 rfl (by decide)) of5s (fun sip6 sip6e sip6a sip6b => ?_)
        refine r_callV gd hX hP rfl cv_X11_125_158 of5s (d' := 0) (mc' := 0) (ms' := 0) (as' := []) (st := [(0, l6_j44), (0, 0), (2, this)]) (by omega) (by omega) (by omega) rfl rfl (Nat.le_of_ble_eq_true rfl) (c_size_Lop E S G of5  of5s sip6 sip6e) ?_
        rintro _ _ _ ⟨rfl, rfl, z7, rfl, z7a, z7b, f8⟩
        refine r_ex hX hP 1 (pc' := 68) (st' := [(0, 10), (0, z7), (0, l6_j44), (0, 0), (2, this)]) (lo' := [(0, (2, this)), (1, (0, paper)), (2, (0, day)), (3, (0, strike)), (4, (0, number)), (5, (0, known)), (6, (0, l6_j44))]) rfl ?_
        refine r_ic_lt hX hP rfl (tgt := 75) rfl (by omega) (by omega) (by omega) (by omega) (fun c9 => ?_) (fun c9 => ?_)
        · skip
          refine r_ex hX hP 3 (pc' := 79) (st' := [(2, this), (0, known), (0, 0), (0, l6_j44), (0, 0), (2, this)]) (lo' := [(0, (2, this)), (1, (0, paper)), (2, (0, day)), (3, (0, strike)), (4, (0, number)), (5, (0, known)), (6, (0, l6_j44))]) rfl ?_
          refine r_getI hX hP rfl fl_X11_129_128 hS (fun lf10 lf10e lf10a lf10b => ?_)
          refine r_ic_ge hX hP rfl (tgt := 89) rfl (by omega) (by omega) (by omega) (by omega) (fun c11 => ?_) (fun c11 => ?_)
          · skip
            refine r_ex hX hP 1 (pc' := 90) (st' := [(0, 0), (0, 0), (0, l6_j44), (0, 0), (2, this)]) (lo' := [(0, (2, this)), (1, (0, paper)), (2, (0, day)), (3, (0, strike)), (4, (0, number)), (5, (0, known)), (6, (0, l6_j44))]) rfl ?_
            refine r_callS gd hX hP rfl cs_X11_112 (d' := 0) (mc' := 0) (ms' := 0) (as' := [(0, 0), (0, l6_j44), (0, 0), (0, 0)]) (st := [(2, this)]) (by omega) (by omega) (by omega) rfl rfl (Nat.le_of_ble_eq_true rfl) (c_X11_first E S G 0 l6_j44 0 0 (by omega) (by omega) (by omega) (by omega) (by omega) (by omega) (by omega) (by omega)) ?_
            rintro _ _ _ ⟨rfl, rfl, z12, rfl, (⟨rfl, f13⟩ | ⟨rfl, f14, f15⟩ | ⟨rfl, f16, f17, f18⟩ | ⟨rfl, f19, f20, f21, f22⟩ | ⟨rfl, f23, f24, f25, f26⟩)⟩
            · skip
              exfalso; omega
            · skip
              refine r_callV gd hX hP rfl cv_X11_90_128 hS (d' := 0) (mc' := 0) (ms' := 0) (as' := [(0, 2)]) (st := []) (by omega) (by omega) (by omega) rfl rfl (Nat.le_of_ble_eq_true rfl) (c_X11_refused E S G this 2 hS (by omega) (by omega)) ?_
              rintro _ _ _ ⟨rfl, ⟨G27, rfl⟩, z28, rfl, (⟨rfl, f29⟩ | ⟨rfl, f30⟩)⟩
              · skip
                refine r_if_eq hX hP rfl (tgt := 101) rfl (by omega) (by omega) (fun c31 => ?_) (fun c31 => ?_)
                · skip
                  exfalso; omega
                · skip
                  refine r_ex hX hP 1 (pc' := 100) (st' := [(0, (-1))]) (lo' := [(0, (2, this)), (1, (0, paper)), (2, (0, day)), (3, (0, strike)), (4, (0, number)), (5, (0, known)), (6, (0, l6_j44))]) rfl ?_
                  have g32 : Gr [141, 152, 160, 161, 162, 163, 164, 165, 166, 167, 168, 169, 170, 171, 172, 173, 174, 175, 176, 177, 178, 179, 180, 181, 182, 183, 184, 185] [(128, 0), (128, 1), (129, 1), (152, 0), (152, 1), (152, 2), (152, 3), (152, 4), (152, 5), (152, 6), (152, 8), (158, 0), (158, 1), (158, 2), (179, -1)] S G S (hw [(128, 0)] G G27) := (gr_hw (gr_refl [141, 152, 160, 161, 162, 163, 164, 165, 166, 167, 168, 169, 170, 171, 172, 173, 174, 175, 176, 177, 178, 179, 180, 181, 182, 183, 184, 185] [(128, 0), (128, 1), (129, 1), (152, 0), (152, 1), (152, 2), (152, 3), (152, 4), (152, 5), (152, 6), (152, 8), (158, 0), (158, 1), (158, 2), (179, -1)] S G) rfl)
                  have ci33 : CI E S (hw [(128, 0)] G G27) := (ci_hw ci rfl)
                  exact r_retI hX hP rfl rfl (by omega) (by omega) ⟨g32, (-1), rfl, (by omega), (by omega), ci33⟩
              · skip
                exfalso; omega
            · skip
              exfalso; omega
            · skip
              exfalso; omega
            · skip
              refine r_callV gd hX hP rfl cv_X11_90_128 hS (d' := 0) (mc' := 0) (ms' := 0) (as' := [(0, 0)]) (st := []) (by omega) (by omega) (by omega) rfl rfl (Nat.le_of_ble_eq_true rfl) (c_X11_refused E S G this 0 hS (by omega) (by omega)) ?_
              rintro _ _ _ ⟨rfl, ⟨G34, rfl⟩, z35, rfl, (⟨rfl, f36⟩ | ⟨rfl, f37⟩)⟩
              · skip
                exfalso; omega
              · skip
                refine r_if_eq hX hP rfl (tgt := 101) rfl (by omega) (by omega) (fun c38 => ?_) (fun c38 => ?_)
                · skip
                  have g39 : Gr [141, 152, 160, 161, 162, 163, 164, 165, 166, 167, 168, 169, 170, 171, 172, 173, 174, 175, 176, 177, 178, 179, 180, 181, 182, 183, 184, 185] [(128, 0), (128, 1), (129, 1), (152, 0), (152, 1), (152, 2), (152, 3), (152, 4), (152, 5), (152, 6), (152, 8), (158, 0), (158, 1), (158, 2), (179, -1)] S G S (hw [(128, 0)] G G34) := (gr_hw (gr_refl [141, 152, 160, 161, 162, 163, 164, 165, 166, 167, 168, 169, 170, 171, 172, 173, 174, 175, 176, 177, 178, 179, 180, 181, 182, 183, 184, 185] [(128, 0), (128, 1), (129, 1), (152, 0), (152, 1), (152, 2), (152, 3), (152, 4), (152, 5), (152, 6), (152, 8), (158, 0), (158, 1), (158, 2), (179, -1)] S G) rfl)
                  have ci40 : CI E S (hw [(128, 0)] G G34) := (ci_hw ci rfl)
                  refine r_tk hX (fun tk41 => ?_)
                  refine r_newA hX hP rfl (L := 152) (N := 9) nw_X11_132_152 (by omega) (by omega) (fun n42 S43 G44 n42z n42n n42l g45 n42v => ?_)
                  have z46 : S n42 = 0 := gr_zero g39 n42z
                  have s47 : S43 this = 128 := gr_lab g45 hS (by decide)
                  have s48 : S43 of5 = 158 := gr_lab g45 of5s (by decide)
                  have e49 : of5 = G44 128 this 10 := gr_val g45 of5e hS (by decide) rfl
                  have e50 : sip6 = G44 158 of5 2 := gr_val g45 sip6e of5s (by decide) rfl
                  have e51 : lf10 = G44 128 this 1 := gr_val g45 lf10e hS (by decide) rfl
                  have g52 : Gr [141, 152, 160, 161, 162, 163, 164, 165, 166, 167, 168, 169, 170, 171, 172, 173, 174, 175, 176, 177, 178, 179, 180, 181, 182, 183, 184, 185] [(128, 0), (128, 1), (129, 1), (152, 0), (152, 1), (152, 2), (152, 3), (152, 4), (152, 5), (152, 6), (152, 8), (158, 0), (158, 1), (158, 2), (179, -1)] S G S43 G44 := gr_call g39 g45 rfl rfl
                  have ci53 : CI E S43 G44 := ci_gr ci40 tk41 g45 rfl rfl
                  refine r_ex hX hP 5 (pc' := 111) (st' := [(0, known), (0, number), (0, day), (0, paper), (2, n42), (2, n42)]) (lo' := [(0, (2, this)), (1, (0, paper)), (2, (0, day)), (3, (0, strike)), (4, (0, number)), (5, (0, known)), (6, (0, l6_j44))]) rfl ?_
                  refine r_callI gd hX hP rfl ci_X11_134 n42n (d' := 4) (mc' := 0) (ms' := 0) (as' := [(0, paper), (0, day), (0, number), (0, known)]) (st := [(2, n42)]) (by omega) (by omega) (by omega) rfl rfl (Nat.le_of_ble_eq_true rfl) (c_X1_init E S43 G44 n42 paper day number known n42l (by omega) (by omega) (by omega) (by omega) (by omega) (by omega) (by omega) (by omega)) ?_
                  rintro _ _ _ ⟨rfl, ⟨G54, rfl⟩, rfl, -⟩
                  refine r_ex hX hP 3 (pc' := 119) (st' := [(0, strike), (2, n42)]) (lo' := [(0, (2, this)), (1, (0, paper)), (2, (0, day)), (3, (0, strike)), (4, (0, number)), (5, (0, known)), (6, (0, l6_j44)), (7, (2, n42))]) rfl ?_
                  refine r_putIK hX hP rfl fp_X11_140_152 n42l (by omega) (by omega) (fun h55 => ?_)
                  have g56 : Gr [141, 152, 160, 161, 162, 163, 164, 165, 166, 167, 168, 169, 170, 171, 172, 173, 174, 175, 176, 177, 178, 179, 180, 181, 182, 183, 184, 185] [(128, 0), (128, 1), (129, 1), (152, 0), (152, 1), (152, 2), (152, 3), (152, 4), (152, 5), (152, 6), (152, 8), (158, 0), (158, 1), (158, 2), (179, -1)] S G S43 (up (hw [(152, 0), (152, 1), (152, 2), (152, 3), (152, 4), (152, 5), (152, 6)] G44 G54) 152 n42 8 strike) := (gr_up (gr_hw g52 rfl) rfl)
                  refine r_finA hX (L := 152) (ci := 2) (fs := fs_152) rfl n42l (by decide) (fun hr57 => ?_)
                  have hf58 : Fnl E fs_141 152 S43 (up (hw [(152, 0), (152, 1), (152, 2), (152, 3), (152, 4), (152, 5), (152, 6)] G44 G54) 152 n42 8 strike) n42 := by
                    intro j hj
                    rcases (by have : j < 9 := hj; omega : j = 0 ∨ j = 1 ∨ j = 2 ∨ j = 3 ∨ j = 4 ∨ j = 5 ∨ j = 6 ∨ j = 7 ∨ j = 8) with rfl | rfl | rfl | rfl | rfl | rfl | rfl | rfl | rfl
                    · exact hr57 0 (by decide)
                    · exact hr57 1 (by decide)
                    · exact hr57 2 (by decide)
                    · exact hr57 3 (by decide)
                    · exact hr57 4 (by decide)
                    · exact hr57 5 (by decide)
                    · exact hr57 6 (by decide)
                    · exact hr57 7 (by decide)
                    · exact hr57 8 (by decide)
                  have ci59 : CI E S43 (up (hw [(152, 0), (152, 1), (152, 2), (152, 3), (152, 4), (152, 5), (152, 6)] G44 G54) 152 n42 8 strike) := (ci_up (ci_hw ci53 rfl) rfl)
                  refine r_tk hX (fun tk60 => ?_)
                  refine r_relabF hX (L := 152) (L' := 141) (ci := 2) (fs := fs_152) (fs' := fs_141) rfl rfl rfl (by decide) (by decide) nf_152 (by decide) n42l hf58 (fun S62 G63 r61 => ?_)
                  have s65 : S62 this = 128 := r61.lab n42l s47 (by decide)
                  have s66 : S62 of5 = 158 := r61.lab n42l s48 (by decide)
                  have e67 : of5 = G63 128 this 10 := rs_val r61 n42l e49 s47 (by decide)
                  have e68 : sip6 = G63 158 of5 2 := rs_val r61 n42l e50 s48 (by decide)
                  have e69 : lf10 = G63 128 this 1 := rs_val r61 n42l e51 s47 (by decide)
                  have e70 : strike = G63 141 n42 8 := h55.trans (r61.2.2.1 8).symm
                  have g71 : Gr [141, 152, 160, 161, 162, 163, 164, 165, 166, 167, 168, 169, 170, 171, 172, 173, 174, 175, 176, 177, 178, 179, 180, 181, 182, 183, 184, 185] [(128, 0), (128, 1), (129, 1), (152, 0), (152, 1), (152, 2), (152, 3), (152, 4), (152, 5), (152, 6), (152, 8), (158, 0), (158, 1), (158, 2), (179, -1)] S G S62 G63 := gr_rs g56 r61 z46 rfl
                  have ci72 : CI E S62 G63 := ci_rs ci59 tk60 r61 n42l rfl rfl (fun e => absurd e (by decide)) (fun e => absurd e (by decide))
                  refine r_ex hX hP 1 (pc' := 123) (st' := [(2, this)]) (lo' := [(0, (2, this)), (1, (0, paper)), (2, (0, day)), (3, (0, strike)), (4, (0, number)), (5, (0, known)), (6, (0, l6_j44)), (7, (2, n42))]) rfl ?_
                  refine r_getKR hX hP rfl fl_X11_45_128 s65 (x := of5) e67 ?_
                  refine r_ex hX hP 1 (pc' := 128) (st' := [(2, n42), (2, of5)]) (lo' := [(0, (2, this)), (1, (0, paper)), (2, (0, day)), (3, (0, strike)), (4, (0, number)), (5, (0, known)), (6, (0, l6_j44)), (7, (2, n42))]) rfl ?_
                  refine r_tk hX (fun tk73 => ?_)
                  refine r_callV gd hX hP rfl cv_X11_143_158 s66 (d' := 14) (mc' := 1) (ms' := 10) (as' := [(2, n42)]) (st := []) (by omega) (by omega) (by omega) rfl rfl (Nat.le_of_ble_eq_true rfl) (c_add_Lop E S62 G63 of5 n42 s66 r61.1 sip6 e68 (by omega) ci72) ?_
                  rintro _ S74 G75 ⟨g76, z77, rfl, z77a, z77b, ci78, q79⟩
                  have s80 : S74 this = 128 := gr_lab g76 s65 (by decide)
                  have s81 : S74 of5 = 158 := gr_lab g76 s66 (by decide)
                  have s82 : S74 n42 = 141 := gr_lab g76 r61.1 (by decide)
                  have e83 : of5 = G75 128 this 10 := gr_val g76 e67 s65 (by decide) rfl
                  have e84 : lf10 = G75 128 this 1 := gr_val g76 e69 s65 (by decide) rfl
                  have e85 : strike = G75 141 n42 8 := gr_val g76 e70 r61.1 (by decide) rfl
                  have g86 : Gr [141, 152, 160, 161, 162, 163, 164, 165, 166, 167, 168, 169, 170, 171, 172, 173, 174, 175, 176, 177, 178, 179, 180, 181, 182, 183, 184, 185] [(128, 0), (128, 1), (129, 1), (152, 0), (152, 1), (152, 2), (152, 3), (152, 4), (152, 5), (152, 6), (152, 8), (158, 0), (158, 1), (158, 2), (179, -1)] S G S74 G75 := gr_call g71 g76 rfl rfl
                  refine r_ex hX hP 3 (pc' := 135) (st' := [(0, known), (2, this)]) (lo' := [(0, (2, this)), (1, (0, paper)), (2, (0, day)), (3, (0, strike)), (4, (0, number)), (5, (0, known)), (6, (0, l6_j44)), (7, (2, n42))]) rfl ?_
                  refine r_callV gd hX hP rfl cv_X11_147_128 s80 (d' := 0) (mc' := 0) (ms' := 0) (as' := [(0, known)]) (st := []) (by omega) (by omega) (by omega) rfl rfl (Nat.le_of_ble_eq_true rfl) (c_X11_tell E S74 G75 this known s80 (by omega) (by omega)) ?_
                  rintro _ _ _ ⟨rfl, ⟨G87, rfl⟩, rfl, -⟩
                  refine r_ex hX hP 1 (pc' := 139) (st' := [(2, this)]) (lo' := [(0, (2, this)), (1, (0, paper)), (2, (0, day)), (3, (0, strike)), (4, (0, number)), (5, (0, known)), (6, (0, l6_j44)), (7, (2, n42))]) rfl ?_
                  refine r_getKR hX hP rfl fl_X11_45_128 s80 (x := of5) e83 ?_
                  refine r_peekI hX (tl_158 2 rfl (by decide)) s81 (fun sip88 sip88e sip88a sip88b => ?_)
                  refine r_callV gd hX hP rfl cv_X11_125_158 s81 (d' := 0) (mc' := 0) (ms' := 0) (as' := []) (st := []) (by omega) (by omega) (by omega) rfl rfl (Nat.le_of_ble_eq_true rfl) (c_size_Lop E S74 (hw [(128, 1), (129, 1)] G75 G87) of5  s81 sip88 sip88e) ?_
                  rintro _ _ _ ⟨rfl, rfl, z89, rfl, z89a, z89b, f90⟩
                  refine r_ex hX hP 2 (pc' := 147) (st' := [(0, (z89 - 1))]) (lo' := [(0, (2, this)), (1, (0, paper)), (2, (0, day)), (3, (0, strike)), (4, (0, number)), (5, (0, known)), (6, (0, l6_j44)), (7, (2, n42))]) rfl ?_
                  have g91 : Gr [141, 152, 160, 161, 162, 163, 164, 165, 166, 167, 168, 169, 170, 171, 172, 173, 174, 175, 176, 177, 178, 179, 180, 181, 182, 183, 184, 185] [(128, 0), (128, 1), (129, 1), (152, 0), (152, 1), (152, 2), (152, 3), (152, 4), (152, 5), (152, 6), (152, 8), (158, 0), (158, 1), (158, 2), (179, -1)] S G S74 (hw [(128, 1), (129, 1)] G75 G87) := (gr_hw g86 rfl)
                  have ci92 : CI E S74 (hw [(128, 1), (129, 1)] G75 G87) := (ci_hw ci78 rfl)
                  exact r_retI hX hP rfl rfl (by omega) (by omega) ⟨g91, (z89 - 1), rfl, (by omega), (by omega), ci92⟩
                · skip
                  exfalso; omega
          · skip
            refine r_ex hX hP 2 (pc' := 90) (st' := [(0, 1), (0, 0), (0, l6_j44), (0, 0), (2, this)]) (lo' := [(0, (2, this)), (1, (0, paper)), (2, (0, day)), (3, (0, strike)), (4, (0, number)), (5, (0, known)), (6, (0, l6_j44))]) rfl ?_
            refine r_callS gd hX hP rfl cs_X11_112 (d' := 0) (mc' := 0) (ms' := 0) (as' := [(0, 0), (0, l6_j44), (0, 0), (0, 1)]) (st := [(2, this)]) (by omega) (by omega) (by omega) rfl rfl (Nat.le_of_ble_eq_true rfl) (c_X11_first E S G 0 l6_j44 0 1 (by omega) (by omega) (by omega) (by omega) (by omega) (by omega) (by omega) (by omega)) ?_
            rintro _ _ _ ⟨rfl, rfl, z93, rfl, (⟨rfl, f94⟩ | ⟨rfl, f95, f96⟩ | ⟨rfl, f97, f98, f99⟩ | ⟨rfl, f100, f101, f102, f103⟩ | ⟨rfl, f104, f105, f106, f107⟩)⟩
            · skip
              exfalso; omega
            · skip
              refine r_callV gd hX hP rfl cv_X11_90_128 hS (d' := 0) (mc' := 0) (ms' := 0) (as' := [(0, 2)]) (st := []) (by omega) (by omega) (by omega) rfl rfl (Nat.le_of_ble_eq_true rfl) (c_X11_refused E S G this 2 hS (by omega) (by omega)) ?_
              rintro _ _ _ ⟨rfl, ⟨G108, rfl⟩, z109, rfl, (⟨rfl, f110⟩ | ⟨rfl, f111⟩)⟩
              · skip
                refine r_if_eq hX hP rfl (tgt := 101) rfl (by omega) (by omega) (fun c112 => ?_) (fun c112 => ?_)
                · skip
                  exfalso; omega
                · skip
                  refine r_ex hX hP 1 (pc' := 100) (st' := [(0, (-1))]) (lo' := [(0, (2, this)), (1, (0, paper)), (2, (0, day)), (3, (0, strike)), (4, (0, number)), (5, (0, known)), (6, (0, l6_j44))]) rfl ?_
                  have g113 : Gr [141, 152, 160, 161, 162, 163, 164, 165, 166, 167, 168, 169, 170, 171, 172, 173, 174, 175, 176, 177, 178, 179, 180, 181, 182, 183, 184, 185] [(128, 0), (128, 1), (129, 1), (152, 0), (152, 1), (152, 2), (152, 3), (152, 4), (152, 5), (152, 6), (152, 8), (158, 0), (158, 1), (158, 2), (179, -1)] S G S (hw [(128, 0)] G G108) := (gr_hw (gr_refl [141, 152, 160, 161, 162, 163, 164, 165, 166, 167, 168, 169, 170, 171, 172, 173, 174, 175, 176, 177, 178, 179, 180, 181, 182, 183, 184, 185] [(128, 0), (128, 1), (129, 1), (152, 0), (152, 1), (152, 2), (152, 3), (152, 4), (152, 5), (152, 6), (152, 8), (158, 0), (158, 1), (158, 2), (179, -1)] S G) rfl)
                  have ci114 : CI E S (hw [(128, 0)] G G108) := (ci_hw ci rfl)
                  exact r_retI hX hP rfl rfl (by omega) (by omega) ⟨g113, (-1), rfl, (by omega), (by omega), ci114⟩
              · skip
                exfalso; omega
            · skip
              exfalso; omega
            · skip
              refine r_callV gd hX hP rfl cv_X11_90_128 hS (d' := 0) (mc' := 0) (ms' := 0) (as' := [(0, 4)]) (st := []) (by omega) (by omega) (by omega) rfl rfl (Nat.le_of_ble_eq_true rfl) (c_X11_refused E S G this 4 hS (by omega) (by omega)) ?_
              rintro _ _ _ ⟨rfl, ⟨G115, rfl⟩, z116, rfl, (⟨rfl, f117⟩ | ⟨rfl, f118⟩)⟩
              · skip
                refine r_if_eq hX hP rfl (tgt := 101) rfl (by omega) (by omega) (fun c119 => ?_) (fun c119 => ?_)
                · skip
                  exfalso; omega
                · skip
                  refine r_ex hX hP 1 (pc' := 100) (st' := [(0, (-1))]) (lo' := [(0, (2, this)), (1, (0, paper)), (2, (0, day)), (3, (0, strike)), (4, (0, number)), (5, (0, known)), (6, (0, l6_j44))]) rfl ?_
                  have g120 : Gr [141, 152, 160, 161, 162, 163, 164, 165, 166, 167, 168, 169, 170, 171, 172, 173, 174, 175, 176, 177, 178, 179, 180, 181, 182, 183, 184, 185] [(128, 0), (128, 1), (129, 1), (152, 0), (152, 1), (152, 2), (152, 3), (152, 4), (152, 5), (152, 6), (152, 8), (158, 0), (158, 1), (158, 2), (179, -1)] S G S (hw [(128, 0)] G G115) := (gr_hw (gr_refl [141, 152, 160, 161, 162, 163, 164, 165, 166, 167, 168, 169, 170, 171, 172, 173, 174, 175, 176, 177, 178, 179, 180, 181, 182, 183, 184, 185] [(128, 0), (128, 1), (129, 1), (152, 0), (152, 1), (152, 2), (152, 3), (152, 4), (152, 5), (152, 6), (152, 8), (158, 0), (158, 1), (158, 2), (179, -1)] S G) rfl)
                  have ci121 : CI E S (hw [(128, 0)] G G115) := (ci_hw ci rfl)
                  exact r_retI hX hP rfl rfl (by omega) (by omega) ⟨g120, (-1), rfl, (by omega), (by omega), ci121⟩
              · skip
                exfalso; omega
            · skip
              exfalso; omega
        · skip
          refine r_ex hX hP 4 (pc' := 79) (st' := [(2, this), (0, known), (0, 1), (0, l6_j44), (0, 0), (2, this)]) (lo' := [(0, (2, this)), (1, (0, paper)), (2, (0, day)), (3, (0, strike)), (4, (0, number)), (5, (0, known)), (6, (0, l6_j44))]) rfl ?_
          refine r_getI hX hP rfl fl_X11_129_128 hS (fun lf122 lf122e lf122a lf122b => ?_)
          refine r_ic_ge hX hP rfl (tgt := 89) rfl (by omega) (by omega) (by omega) (by omega) (fun c123 => ?_) (fun c123 => ?_)
          · skip
            refine r_ex hX hP 1 (pc' := 90) (st' := [(0, 0), (0, 1), (0, l6_j44), (0, 0), (2, this)]) (lo' := [(0, (2, this)), (1, (0, paper)), (2, (0, day)), (3, (0, strike)), (4, (0, number)), (5, (0, known)), (6, (0, l6_j44))]) rfl ?_
            refine r_callS gd hX hP rfl cs_X11_112 (d' := 0) (mc' := 0) (ms' := 0) (as' := [(0, 0), (0, l6_j44), (0, 1), (0, 0)]) (st := [(2, this)]) (by omega) (by omega) (by omega) rfl rfl (Nat.le_of_ble_eq_true rfl) (c_X11_first E S G 0 l6_j44 1 0 (by omega) (by omega) (by omega) (by omega) (by omega) (by omega) (by omega) (by omega)) ?_
            rintro _ _ _ ⟨rfl, rfl, z124, rfl, (⟨rfl, f125⟩ | ⟨rfl, f126, f127⟩ | ⟨rfl, f128, f129, f130⟩ | ⟨rfl, f131, f132, f133, f134⟩ | ⟨rfl, f135, f136, f137, f138⟩)⟩
            · skip
              exfalso; omega
            · skip
              refine r_callV gd hX hP rfl cv_X11_90_128 hS (d' := 0) (mc' := 0) (ms' := 0) (as' := [(0, 2)]) (st := []) (by omega) (by omega) (by omega) rfl rfl (Nat.le_of_ble_eq_true rfl) (c_X11_refused E S G this 2 hS (by omega) (by omega)) ?_
              rintro _ _ _ ⟨rfl, ⟨G139, rfl⟩, z140, rfl, (⟨rfl, f141⟩ | ⟨rfl, f142⟩)⟩
              · skip
                refine r_if_eq hX hP rfl (tgt := 101) rfl (by omega) (by omega) (fun c143 => ?_) (fun c143 => ?_)
                · skip
                  exfalso; omega
                · skip
                  refine r_ex hX hP 1 (pc' := 100) (st' := [(0, (-1))]) (lo' := [(0, (2, this)), (1, (0, paper)), (2, (0, day)), (3, (0, strike)), (4, (0, number)), (5, (0, known)), (6, (0, l6_j44))]) rfl ?_
                  have g144 : Gr [141, 152, 160, 161, 162, 163, 164, 165, 166, 167, 168, 169, 170, 171, 172, 173, 174, 175, 176, 177, 178, 179, 180, 181, 182, 183, 184, 185] [(128, 0), (128, 1), (129, 1), (152, 0), (152, 1), (152, 2), (152, 3), (152, 4), (152, 5), (152, 6), (152, 8), (158, 0), (158, 1), (158, 2), (179, -1)] S G S (hw [(128, 0)] G G139) := (gr_hw (gr_refl [141, 152, 160, 161, 162, 163, 164, 165, 166, 167, 168, 169, 170, 171, 172, 173, 174, 175, 176, 177, 178, 179, 180, 181, 182, 183, 184, 185] [(128, 0), (128, 1), (129, 1), (152, 0), (152, 1), (152, 2), (152, 3), (152, 4), (152, 5), (152, 6), (152, 8), (158, 0), (158, 1), (158, 2), (179, -1)] S G) rfl)
                  have ci145 : CI E S (hw [(128, 0)] G G139) := (ci_hw ci rfl)
                  exact r_retI hX hP rfl rfl (by omega) (by omega) ⟨g144, (-1), rfl, (by omega), (by omega), ci145⟩
              · skip
                exfalso; omega
            · skip
              refine r_callV gd hX hP rfl cv_X11_90_128 hS (d' := 0) (mc' := 0) (ms' := 0) (as' := [(0, 3)]) (st := []) (by omega) (by omega) (by omega) rfl rfl (Nat.le_of_ble_eq_true rfl) (c_X11_refused E S G this 3 hS (by omega) (by omega)) ?_
              rintro _ _ _ ⟨rfl, ⟨G146, rfl⟩, z147, rfl, (⟨rfl, f148⟩ | ⟨rfl, f149⟩)⟩
              · skip
                refine r_if_eq hX hP rfl (tgt := 101) rfl (by omega) (by omega) (fun c150 => ?_) (fun c150 => ?_)
                · skip
                  exfalso; omega
                · skip
                  refine r_ex hX hP 1 (pc' := 100) (st' := [(0, (-1))]) (lo' := [(0, (2, this)), (1, (0, paper)), (2, (0, day)), (3, (0, strike)), (4, (0, number)), (5, (0, known)), (6, (0, l6_j44))]) rfl ?_
                  have g151 : Gr [141, 152, 160, 161, 162, 163, 164, 165, 166, 167, 168, 169, 170, 171, 172, 173, 174, 175, 176, 177, 178, 179, 180, 181, 182, 183, 184, 185] [(128, 0), (128, 1), (129, 1), (152, 0), (152, 1), (152, 2), (152, 3), (152, 4), (152, 5), (152, 6), (152, 8), (158, 0), (158, 1), (158, 2), (179, -1)] S G S (hw [(128, 0)] G G146) := (gr_hw (gr_refl [141, 152, 160, 161, 162, 163, 164, 165, 166, 167, 168, 169, 170, 171, 172, 173, 174, 175, 176, 177, 178, 179, 180, 181, 182, 183, 184, 185] [(128, 0), (128, 1), (129, 1), (152, 0), (152, 1), (152, 2), (152, 3), (152, 4), (152, 5), (152, 6), (152, 8), (158, 0), (158, 1), (158, 2), (179, -1)] S G) rfl)
                  have ci152 : CI E S (hw [(128, 0)] G G146) := (ci_hw ci rfl)
                  exact r_retI hX hP rfl rfl (by omega) (by omega) ⟨g151, (-1), rfl, (by omega), (by omega), ci152⟩
              · skip
                exfalso; omega
            · skip
              exfalso; omega
            · skip
              exfalso; omega
          · skip
            refine r_ex hX hP 2 (pc' := 90) (st' := [(0, 1), (0, 1), (0, l6_j44), (0, 0), (2, this)]) (lo' := [(0, (2, this)), (1, (0, paper)), (2, (0, day)), (3, (0, strike)), (4, (0, number)), (5, (0, known)), (6, (0, l6_j44))]) rfl ?_
            refine r_callS gd hX hP rfl cs_X11_112 (d' := 0) (mc' := 0) (ms' := 0) (as' := [(0, 0), (0, l6_j44), (0, 1), (0, 1)]) (st := [(2, this)]) (by omega) (by omega) (by omega) rfl rfl (Nat.le_of_ble_eq_true rfl) (c_X11_first E S G 0 l6_j44 1 1 (by omega) (by omega) (by omega) (by omega) (by omega) (by omega) (by omega) (by omega)) ?_
            rintro _ _ _ ⟨rfl, rfl, z153, rfl, (⟨rfl, f154⟩ | ⟨rfl, f155, f156⟩ | ⟨rfl, f157, f158, f159⟩ | ⟨rfl, f160, f161, f162, f163⟩ | ⟨rfl, f164, f165, f166, f167⟩)⟩
            · skip
              exfalso; omega
            · skip
              refine r_callV gd hX hP rfl cv_X11_90_128 hS (d' := 0) (mc' := 0) (ms' := 0) (as' := [(0, 2)]) (st := []) (by omega) (by omega) (by omega) rfl rfl (Nat.le_of_ble_eq_true rfl) (c_X11_refused E S G this 2 hS (by omega) (by omega)) ?_
              rintro _ _ _ ⟨rfl, ⟨G168, rfl⟩, z169, rfl, (⟨rfl, f170⟩ | ⟨rfl, f171⟩)⟩
              · skip
                refine r_if_eq hX hP rfl (tgt := 101) rfl (by omega) (by omega) (fun c172 => ?_) (fun c172 => ?_)
                · skip
                  exfalso; omega
                · skip
                  refine r_ex hX hP 1 (pc' := 100) (st' := [(0, (-1))]) (lo' := [(0, (2, this)), (1, (0, paper)), (2, (0, day)), (3, (0, strike)), (4, (0, number)), (5, (0, known)), (6, (0, l6_j44))]) rfl ?_
                  have g173 : Gr [141, 152, 160, 161, 162, 163, 164, 165, 166, 167, 168, 169, 170, 171, 172, 173, 174, 175, 176, 177, 178, 179, 180, 181, 182, 183, 184, 185] [(128, 0), (128, 1), (129, 1), (152, 0), (152, 1), (152, 2), (152, 3), (152, 4), (152, 5), (152, 6), (152, 8), (158, 0), (158, 1), (158, 2), (179, -1)] S G S (hw [(128, 0)] G G168) := (gr_hw (gr_refl [141, 152, 160, 161, 162, 163, 164, 165, 166, 167, 168, 169, 170, 171, 172, 173, 174, 175, 176, 177, 178, 179, 180, 181, 182, 183, 184, 185] [(128, 0), (128, 1), (129, 1), (152, 0), (152, 1), (152, 2), (152, 3), (152, 4), (152, 5), (152, 6), (152, 8), (158, 0), (158, 1), (158, 2), (179, -1)] S G) rfl)
                  have ci174 : CI E S (hw [(128, 0)] G G168) := (ci_hw ci rfl)
                  exact r_retI hX hP rfl rfl (by omega) (by omega) ⟨g173, (-1), rfl, (by omega), (by omega), ci174⟩
              · skip
                exfalso; omega
            · skip
              refine r_callV gd hX hP rfl cv_X11_90_128 hS (d' := 0) (mc' := 0) (ms' := 0) (as' := [(0, 3)]) (st := []) (by omega) (by omega) (by omega) rfl rfl (Nat.le_of_ble_eq_true rfl) (c_X11_refused E S G this 3 hS (by omega) (by omega)) ?_
              rintro _ _ _ ⟨rfl, ⟨G175, rfl⟩, z176, rfl, (⟨rfl, f177⟩ | ⟨rfl, f178⟩)⟩
              · skip
                refine r_if_eq hX hP rfl (tgt := 101) rfl (by omega) (by omega) (fun c179 => ?_) (fun c179 => ?_)
                · skip
                  exfalso; omega
                · skip
                  refine r_ex hX hP 1 (pc' := 100) (st' := [(0, (-1))]) (lo' := [(0, (2, this)), (1, (0, paper)), (2, (0, day)), (3, (0, strike)), (4, (0, number)), (5, (0, known)), (6, (0, l6_j44))]) rfl ?_
                  have g180 : Gr [141, 152, 160, 161, 162, 163, 164, 165, 166, 167, 168, 169, 170, 171, 172, 173, 174, 175, 176, 177, 178, 179, 180, 181, 182, 183, 184, 185] [(128, 0), (128, 1), (129, 1), (152, 0), (152, 1), (152, 2), (152, 3), (152, 4), (152, 5), (152, 6), (152, 8), (158, 0), (158, 1), (158, 2), (179, -1)] S G S (hw [(128, 0)] G G175) := (gr_hw (gr_refl [141, 152, 160, 161, 162, 163, 164, 165, 166, 167, 168, 169, 170, 171, 172, 173, 174, 175, 176, 177, 178, 179, 180, 181, 182, 183, 184, 185] [(128, 0), (128, 1), (129, 1), (152, 0), (152, 1), (152, 2), (152, 3), (152, 4), (152, 5), (152, 6), (152, 8), (158, 0), (158, 1), (158, 2), (179, -1)] S G) rfl)
                  have ci181 : CI E S (hw [(128, 0)] G G175) := (ci_hw ci rfl)
                  exact r_retI hX hP rfl rfl (by omega) (by omega) ⟨g180, (-1), rfl, (by omega), (by omega), ci181⟩
              · skip
                exfalso; omega
            · skip
              exfalso; omega
            · skip
              exfalso; omega
      · skip
        exfalso; omega
    · skip
      refine r_if_ne hX hP rfl (tgt := 56) rfl (by omega) (by omega) (fun c182 => ?_) (fun c182 => ?_)
      · skip
        exfalso; omega
      · skip
        refine r_ex hX hP 4 (pc' := 60) (st' := [(2, this), (0, l6_j44), (0, 1), (2, this)]) (lo' := [(0, (2, this)), (1, (0, paper)), (2, (0, day)), (3, (0, strike)), (4, (0, number)), (5, (0, known)), (6, (0, l6_j44))]) rfl ?_
        refine r_getR hX hP rfl fl_X11_45_128 hS (fun of183 of183e of183s => ?_)
        refine r_peekI hX (tl_158 2 rfl (by decide)) of183s (fun sip184 sip184e sip184a sip184b => ?_)
        refine r_callV gd hX hP rfl cv_X11_125_158 of183s (d' := 0) (mc' := 0) (ms' := 0) (as' := []) (st := [(0, l6_j44), (0, 1), (2, this)]) (by omega) (by omega) (by omega) rfl rfl (Nat.le_of_ble_eq_true rfl) (c_size_Lop E S G of183  of183s sip184 sip184e) ?_
        rintro _ _ _ ⟨rfl, rfl, z185, rfl, z185a, z185b, f186⟩
        refine r_ex hX hP 1 (pc' := 68) (st' := [(0, 10), (0, z185), (0, l6_j44), (0, 1), (2, this)]) (lo' := [(0, (2, this)), (1, (0, paper)), (2, (0, day)), (3, (0, strike)), (4, (0, number)), (5, (0, known)), (6, (0, l6_j44))]) rfl ?_
        refine r_ic_lt hX hP rfl (tgt := 75) rfl (by omega) (by omega) (by omega) (by omega) (fun c187 => ?_) (fun c187 => ?_)
        · skip
          refine r_ex hX hP 3 (pc' := 79) (st' := [(2, this), (0, known), (0, 0), (0, l6_j44), (0, 1), (2, this)]) (lo' := [(0, (2, this)), (1, (0, paper)), (2, (0, day)), (3, (0, strike)), (4, (0, number)), (5, (0, known)), (6, (0, l6_j44))]) rfl ?_
          refine r_getI hX hP rfl fl_X11_129_128 hS (fun lf188 lf188e lf188a lf188b => ?_)
          refine r_ic_ge hX hP rfl (tgt := 89) rfl (by omega) (by omega) (by omega) (by omega) (fun c189 => ?_) (fun c189 => ?_)
          · skip
            refine r_ex hX hP 1 (pc' := 90) (st' := [(0, 0), (0, 0), (0, l6_j44), (0, 1), (2, this)]) (lo' := [(0, (2, this)), (1, (0, paper)), (2, (0, day)), (3, (0, strike)), (4, (0, number)), (5, (0, known)), (6, (0, l6_j44))]) rfl ?_
            refine r_callS gd hX hP rfl cs_X11_112 (d' := 0) (mc' := 0) (ms' := 0) (as' := [(0, 1), (0, l6_j44), (0, 0), (0, 0)]) (st := [(2, this)]) (by omega) (by omega) (by omega) rfl rfl (Nat.le_of_ble_eq_true rfl) (c_X11_first E S G 1 l6_j44 0 0 (by omega) (by omega) (by omega) (by omega) (by omega) (by omega) (by omega) (by omega)) ?_
            rintro _ _ _ ⟨rfl, rfl, z190, rfl, (⟨rfl, f191⟩ | ⟨rfl, f192, f193⟩ | ⟨rfl, f194, f195, f196⟩ | ⟨rfl, f197, f198, f199, f200⟩ | ⟨rfl, f201, f202, f203, f204⟩)⟩
            · skip
              refine r_callV gd hX hP rfl cv_X11_90_128 hS (d' := 0) (mc' := 0) (ms' := 0) (as' := [(0, 1)]) (st := []) (by omega) (by omega) (by omega) rfl rfl (Nat.le_of_ble_eq_true rfl) (c_X11_refused E S G this 1 hS (by omega) (by omega)) ?_
              rintro _ _ _ ⟨rfl, ⟨G205, rfl⟩, z206, rfl, (⟨rfl, f207⟩ | ⟨rfl, f208⟩)⟩
              · skip
                refine r_if_eq hX hP rfl (tgt := 101) rfl (by omega) (by omega) (fun c209 => ?_) (fun c209 => ?_)
                · skip
                  exfalso; omega
                · skip
                  refine r_ex hX hP 1 (pc' := 100) (st' := [(0, (-1))]) (lo' := [(0, (2, this)), (1, (0, paper)), (2, (0, day)), (3, (0, strike)), (4, (0, number)), (5, (0, known)), (6, (0, l6_j44))]) rfl ?_
                  have g210 : Gr [141, 152, 160, 161, 162, 163, 164, 165, 166, 167, 168, 169, 170, 171, 172, 173, 174, 175, 176, 177, 178, 179, 180, 181, 182, 183, 184, 185] [(128, 0), (128, 1), (129, 1), (152, 0), (152, 1), (152, 2), (152, 3), (152, 4), (152, 5), (152, 6), (152, 8), (158, 0), (158, 1), (158, 2), (179, -1)] S G S (hw [(128, 0)] G G205) := (gr_hw (gr_refl [141, 152, 160, 161, 162, 163, 164, 165, 166, 167, 168, 169, 170, 171, 172, 173, 174, 175, 176, 177, 178, 179, 180, 181, 182, 183, 184, 185] [(128, 0), (128, 1), (129, 1), (152, 0), (152, 1), (152, 2), (152, 3), (152, 4), (152, 5), (152, 6), (152, 8), (158, 0), (158, 1), (158, 2), (179, -1)] S G) rfl)
                  have ci211 : CI E S (hw [(128, 0)] G G205) := (ci_hw ci rfl)
                  exact r_retI hX hP rfl rfl (by omega) (by omega) ⟨g210, (-1), rfl, (by omega), (by omega), ci211⟩
              · skip
                exfalso; omega
            · skip
              exfalso; omega
            · skip
              exfalso; omega
            · skip
              exfalso; omega
            · skip
              exfalso; omega
          · skip
            refine r_ex hX hP 2 (pc' := 90) (st' := [(0, 1), (0, 0), (0, l6_j44), (0, 1), (2, this)]) (lo' := [(0, (2, this)), (1, (0, paper)), (2, (0, day)), (3, (0, strike)), (4, (0, number)), (5, (0, known)), (6, (0, l6_j44))]) rfl ?_
            refine r_callS gd hX hP rfl cs_X11_112 (d' := 0) (mc' := 0) (ms' := 0) (as' := [(0, 1), (0, l6_j44), (0, 0), (0, 1)]) (st := [(2, this)]) (by omega) (by omega) (by omega) rfl rfl (Nat.le_of_ble_eq_true rfl) (c_X11_first E S G 1 l6_j44 0 1 (by omega) (by omega) (by omega) (by omega) (by omega) (by omega) (by omega) (by omega)) ?_
            rintro _ _ _ ⟨rfl, rfl, z212, rfl, (⟨rfl, f213⟩ | ⟨rfl, f214, f215⟩ | ⟨rfl, f216, f217, f218⟩ | ⟨rfl, f219, f220, f221, f222⟩ | ⟨rfl, f223, f224, f225, f226⟩)⟩
            · skip
              refine r_callV gd hX hP rfl cv_X11_90_128 hS (d' := 0) (mc' := 0) (ms' := 0) (as' := [(0, 1)]) (st := []) (by omega) (by omega) (by omega) rfl rfl (Nat.le_of_ble_eq_true rfl) (c_X11_refused E S G this 1 hS (by omega) (by omega)) ?_
              rintro _ _ _ ⟨rfl, ⟨G227, rfl⟩, z228, rfl, (⟨rfl, f229⟩ | ⟨rfl, f230⟩)⟩
              · skip
                refine r_if_eq hX hP rfl (tgt := 101) rfl (by omega) (by omega) (fun c231 => ?_) (fun c231 => ?_)
                · skip
                  exfalso; omega
                · skip
                  refine r_ex hX hP 1 (pc' := 100) (st' := [(0, (-1))]) (lo' := [(0, (2, this)), (1, (0, paper)), (2, (0, day)), (3, (0, strike)), (4, (0, number)), (5, (0, known)), (6, (0, l6_j44))]) rfl ?_
                  have g232 : Gr [141, 152, 160, 161, 162, 163, 164, 165, 166, 167, 168, 169, 170, 171, 172, 173, 174, 175, 176, 177, 178, 179, 180, 181, 182, 183, 184, 185] [(128, 0), (128, 1), (129, 1), (152, 0), (152, 1), (152, 2), (152, 3), (152, 4), (152, 5), (152, 6), (152, 8), (158, 0), (158, 1), (158, 2), (179, -1)] S G S (hw [(128, 0)] G G227) := (gr_hw (gr_refl [141, 152, 160, 161, 162, 163, 164, 165, 166, 167, 168, 169, 170, 171, 172, 173, 174, 175, 176, 177, 178, 179, 180, 181, 182, 183, 184, 185] [(128, 0), (128, 1), (129, 1), (152, 0), (152, 1), (152, 2), (152, 3), (152, 4), (152, 5), (152, 6), (152, 8), (158, 0), (158, 1), (158, 2), (179, -1)] S G) rfl)
                  have ci233 : CI E S (hw [(128, 0)] G G227) := (ci_hw ci rfl)
                  exact r_retI hX hP rfl rfl (by omega) (by omega) ⟨g232, (-1), rfl, (by omega), (by omega), ci233⟩
              · skip
                exfalso; omega
            · skip
              exfalso; omega
            · skip
              exfalso; omega
            · skip
              exfalso; omega
            · skip
              exfalso; omega
        · skip
          refine r_ex hX hP 4 (pc' := 79) (st' := [(2, this), (0, known), (0, 1), (0, l6_j44), (0, 1), (2, this)]) (lo' := [(0, (2, this)), (1, (0, paper)), (2, (0, day)), (3, (0, strike)), (4, (0, number)), (5, (0, known)), (6, (0, l6_j44))]) rfl ?_
          refine r_getI hX hP rfl fl_X11_129_128 hS (fun lf234 lf234e lf234a lf234b => ?_)
          refine r_ic_ge hX hP rfl (tgt := 89) rfl (by omega) (by omega) (by omega) (by omega) (fun c235 => ?_) (fun c235 => ?_)
          · skip
            refine r_ex hX hP 1 (pc' := 90) (st' := [(0, 0), (0, 1), (0, l6_j44), (0, 1), (2, this)]) (lo' := [(0, (2, this)), (1, (0, paper)), (2, (0, day)), (3, (0, strike)), (4, (0, number)), (5, (0, known)), (6, (0, l6_j44))]) rfl ?_
            refine r_callS gd hX hP rfl cs_X11_112 (d' := 0) (mc' := 0) (ms' := 0) (as' := [(0, 1), (0, l6_j44), (0, 1), (0, 0)]) (st := [(2, this)]) (by omega) (by omega) (by omega) rfl rfl (Nat.le_of_ble_eq_true rfl) (c_X11_first E S G 1 l6_j44 1 0 (by omega) (by omega) (by omega) (by omega) (by omega) (by omega) (by omega) (by omega)) ?_
            rintro _ _ _ ⟨rfl, rfl, z236, rfl, (⟨rfl, f237⟩ | ⟨rfl, f238, f239⟩ | ⟨rfl, f240, f241, f242⟩ | ⟨rfl, f243, f244, f245, f246⟩ | ⟨rfl, f247, f248, f249, f250⟩)⟩
            · skip
              refine r_callV gd hX hP rfl cv_X11_90_128 hS (d' := 0) (mc' := 0) (ms' := 0) (as' := [(0, 1)]) (st := []) (by omega) (by omega) (by omega) rfl rfl (Nat.le_of_ble_eq_true rfl) (c_X11_refused E S G this 1 hS (by omega) (by omega)) ?_
              rintro _ _ _ ⟨rfl, ⟨G251, rfl⟩, z252, rfl, (⟨rfl, f253⟩ | ⟨rfl, f254⟩)⟩
              · skip
                refine r_if_eq hX hP rfl (tgt := 101) rfl (by omega) (by omega) (fun c255 => ?_) (fun c255 => ?_)
                · skip
                  exfalso; omega
                · skip
                  refine r_ex hX hP 1 (pc' := 100) (st' := [(0, (-1))]) (lo' := [(0, (2, this)), (1, (0, paper)), (2, (0, day)), (3, (0, strike)), (4, (0, number)), (5, (0, known)), (6, (0, l6_j44))]) rfl ?_
                  have g256 : Gr [141, 152, 160, 161, 162, 163, 164, 165, 166, 167, 168, 169, 170, 171, 172, 173, 174, 175, 176, 177, 178, 179, 180, 181, 182, 183, 184, 185] [(128, 0), (128, 1), (129, 1), (152, 0), (152, 1), (152, 2), (152, 3), (152, 4), (152, 5), (152, 6), (152, 8), (158, 0), (158, 1), (158, 2), (179, -1)] S G S (hw [(128, 0)] G G251) := (gr_hw (gr_refl [141, 152, 160, 161, 162, 163, 164, 165, 166, 167, 168, 169, 170, 171, 172, 173, 174, 175, 176, 177, 178, 179, 180, 181, 182, 183, 184, 185] [(128, 0), (128, 1), (129, 1), (152, 0), (152, 1), (152, 2), (152, 3), (152, 4), (152, 5), (152, 6), (152, 8), (158, 0), (158, 1), (158, 2), (179, -1)] S G) rfl)
                  have ci257 : CI E S (hw [(128, 0)] G G251) := (ci_hw ci rfl)
                  exact r_retI hX hP rfl rfl (by omega) (by omega) ⟨g256, (-1), rfl, (by omega), (by omega), ci257⟩
              · skip
                exfalso; omega
            · skip
              exfalso; omega
            · skip
              exfalso; omega
            · skip
              exfalso; omega
            · skip
              exfalso; omega
          · skip
            refine r_ex hX hP 2 (pc' := 90) (st' := [(0, 1), (0, 1), (0, l6_j44), (0, 1), (2, this)]) (lo' := [(0, (2, this)), (1, (0, paper)), (2, (0, day)), (3, (0, strike)), (4, (0, number)), (5, (0, known)), (6, (0, l6_j44))]) rfl ?_
            refine r_callS gd hX hP rfl cs_X11_112 (d' := 0) (mc' := 0) (ms' := 0) (as' := [(0, 1), (0, l6_j44), (0, 1), (0, 1)]) (st := [(2, this)]) (by omega) (by omega) (by omega) rfl rfl (Nat.le_of_ble_eq_true rfl) (c_X11_first E S G 1 l6_j44 1 1 (by omega) (by omega) (by omega) (by omega) (by omega) (by omega) (by omega) (by omega)) ?_
            rintro _ _ _ ⟨rfl, rfl, z258, rfl, (⟨rfl, f259⟩ | ⟨rfl, f260, f261⟩ | ⟨rfl, f262, f263, f264⟩ | ⟨rfl, f265, f266, f267, f268⟩ | ⟨rfl, f269, f270, f271, f272⟩)⟩
            · skip
              refine r_callV gd hX hP rfl cv_X11_90_128 hS (d' := 0) (mc' := 0) (ms' := 0) (as' := [(0, 1)]) (st := []) (by omega) (by omega) (by omega) rfl rfl (Nat.le_of_ble_eq_true rfl) (c_X11_refused E S G this 1 hS (by omega) (by omega)) ?_
              rintro _ _ _ ⟨rfl, ⟨G273, rfl⟩, z274, rfl, (⟨rfl, f275⟩ | ⟨rfl, f276⟩)⟩
              · skip
                refine r_if_eq hX hP rfl (tgt := 101) rfl (by omega) (by omega) (fun c277 => ?_) (fun c277 => ?_)
                · skip
                  exfalso; omega
                · skip
                  refine r_ex hX hP 1 (pc' := 100) (st' := [(0, (-1))]) (lo' := [(0, (2, this)), (1, (0, paper)), (2, (0, day)), (3, (0, strike)), (4, (0, number)), (5, (0, known)), (6, (0, l6_j44))]) rfl ?_
                  have g278 : Gr [141, 152, 160, 161, 162, 163, 164, 165, 166, 167, 168, 169, 170, 171, 172, 173, 174, 175, 176, 177, 178, 179, 180, 181, 182, 183, 184, 185] [(128, 0), (128, 1), (129, 1), (152, 0), (152, 1), (152, 2), (152, 3), (152, 4), (152, 5), (152, 6), (152, 8), (158, 0), (158, 1), (158, 2), (179, -1)] S G S (hw [(128, 0)] G G273) := (gr_hw (gr_refl [141, 152, 160, 161, 162, 163, 164, 165, 166, 167, 168, 169, 170, 171, 172, 173, 174, 175, 176, 177, 178, 179, 180, 181, 182, 183, 184, 185] [(128, 0), (128, 1), (129, 1), (152, 0), (152, 1), (152, 2), (152, 3), (152, 4), (152, 5), (152, 6), (152, 8), (158, 0), (158, 1), (158, 2), (179, -1)] S G) rfl)
                  have ci279 : CI E S (hw [(128, 0)] G G273) := (ci_hw ci rfl)
                  exact r_retI hX hP rfl rfl (by omega) (by omega) ⟨g278, (-1), rfl, (by omega), (by omega), ci279⟩
              · skip
                exfalso; omega
            · skip
              exfalso; omega
            · skip
              exfalso; omega
            · skip
              exfalso; omega
            · skip
              exfalso; omega
  refine r_ex hX hP 1 (pc' := 1) (st' := [(0, day)]) (lo' := [(0, (2, this)), (1, (0, paper)), (2, (0, day)), (3, (0, strike)), (4, (0, number)), (5, (0, known))]) rfl ?_
  refine r_callS gd hX hP rfl cs_X11_86 (d' := 1) (mc' := 0) (ms' := 0) (as' := [(0, day)]) (st := []) (by omega) (by omega) (by omega) rfl rfl (Nat.le_of_ble_eq_true rfl) (c_X11_isDay E S G day (by omega) (by omega)) ?_
  rintro _ _ _ ⟨rfl, rfl, z280, rfl, (⟨rfl, f281, f282⟩ | ⟨rfl, f283⟩)⟩
  · skip
    refine r_if_eq hX hP rfl (tgt := 37) rfl (by omega) (by omega) (fun c284 => ?_) (fun c284 => ?_)
    · skip
      exfalso; omega
    · skip
      refine r_ex hX hP 2 (pc' := 9) (st' := [(0, 1), (0, strike)]) (lo' := [(0, (2, this)), (1, (0, paper)), (2, (0, day)), (3, (0, strike)), (4, (0, number)), (5, (0, known))]) rfl ?_
      refine r_ldc hX hP rfl (v := 1000000) (tbg sg3 10 rfl rfl) ?_
      refine r_callS gd hX hP rfl cs_X11_103 (d' := 0) (mc' := 0) (ms' := 0) (as' := [(0, strike), (0, 1), (0, 1000000)]) (st := []) (by omega) (by omega) (by omega) rfl rfl (Nat.le_of_ble_eq_true rfl) (c_X11_within E S G strike 1 1000000 (by omega) (by omega) (by omega) (by omega) (by omega) (by omega)) ?_
      rintro _ _ _ ⟨rfl, rfl, z285, rfl, (⟨rfl, f286, f287⟩ | ⟨rfl, f288⟩)⟩
      · skip
        refine r_if_eq hX hP rfl (tgt := 37) rfl (by omega) (by omega) (fun c289 => ?_) (fun c289 => ?_)
        · skip
          exfalso; omega
        · skip
          refine r_ex hX hP 3 (pc' := 23) (st' := [(0, 10000), (0, 1), (0, number)]) (lo' := [(0, (2, this)), (1, (0, paper)), (2, (0, day)), (3, (0, strike)), (4, (0, number)), (5, (0, known))]) rfl ?_
          refine r_callS gd hX hP rfl cs_X11_103 (d' := 0) (mc' := 0) (ms' := 0) (as' := [(0, number), (0, 1), (0, 10000)]) (st := []) (by omega) (by omega) (by omega) rfl rfl (Nat.le_of_ble_eq_true rfl) (c_X11_within E S G number 1 10000 (by omega) (by omega) (by omega) (by omega) (by omega) (by omega)) ?_
          rintro _ _ _ ⟨rfl, rfl, z290, rfl, (⟨rfl, f291, f292⟩ | ⟨rfl, f293⟩)⟩
          · skip
            refine r_if_eq hX hP rfl (tgt := 37) rfl (by omega) (by omega) (fun c294 => ?_) (fun c294 => ?_)
            · skip
              exfalso; omega
            · skip
              refine r_ex hX hP 1 (pc' := 31) (st' := [(0, known)]) (lo' := [(0, (2, this)), (1, (0, paper)), (2, (0, day)), (3, (0, strike)), (4, (0, number)), (5, (0, known))]) rfl ?_
              refine r_callS gd hX hP rfl cs_X11_86 (d' := 1) (mc' := 0) (ms' := 0) (as' := [(0, known)]) (st := []) (by omega) (by omega) (by omega) rfl rfl (Nat.le_of_ble_eq_true rfl) (c_X11_isDay E S G known (by omega) (by omega)) ?_
              rintro _ _ _ ⟨rfl, rfl, z295, rfl, (⟨rfl, f296, f297⟩ | ⟨rfl, f298⟩)⟩
              · skip
                refine r_if_ne hX hP rfl (tgt := 41) rfl (by omega) (by omega) (fun c299 => ?_) (fun c299 => ?_)
                · skip
                  refine r_ex hX hP 2 (pc' := 44) (st' := []) (lo' := [(0, (2, this)), (1, (0, paper)), (2, (0, day)), (3, (0, strike)), (4, (0, number)), (5, (0, known)), (6, (0, 0))]) rfl ?_
                  exact j44 0 (by omega) (by omega) (by omega)
                · skip
                  exfalso; omega
              · skip
                refine r_if_ne hX hP rfl (tgt := 41) rfl (by omega) (by omega) (fun c300 => ?_) (fun c300 => ?_)
                · skip
                  exfalso; omega
                · skip
                  refine r_ex hX hP 3 (pc' := 44) (st' := []) (lo' := [(0, (2, this)), (1, (0, paper)), (2, (0, day)), (3, (0, strike)), (4, (0, number)), (5, (0, known)), (6, (0, 1))]) rfl ?_
                  exact j44 1 (by omega) (by omega) (by omega)
          · skip
            refine r_if_eq hX hP rfl (tgt := 37) rfl (by omega) (by omega) (fun c301 => ?_) (fun c301 => ?_)
            · skip
              refine r_ex hX hP 3 (pc' := 44) (st' := []) (lo' := [(0, (2, this)), (1, (0, paper)), (2, (0, day)), (3, (0, strike)), (4, (0, number)), (5, (0, known)), (6, (0, 1))]) rfl ?_
              exact j44 1 (by omega) (by omega) (by omega)
            · skip
              exfalso; omega
      · skip
        refine r_if_eq hX hP rfl (tgt := 37) rfl (by omega) (by omega) (fun c302 => ?_) (fun c302 => ?_)
        · skip
          refine r_ex hX hP 3 (pc' := 44) (st' := []) (lo' := [(0, (2, this)), (1, (0, paper)), (2, (0, day)), (3, (0, strike)), (4, (0, number)), (5, (0, known)), (6, (0, 1))]) rfl ?_
          exact j44 1 (by omega) (by omega) (by omega)
        · skip
          exfalso; omega
  · skip
    refine r_if_eq hX hP rfl (tgt := 37) rfl (by omega) (by omega) (fun c303 => ?_) (fun c303 => ?_)
    · skip
      refine r_ex hX hP 3 (pc' := 44) (st' := []) (lo' := [(0, (2, this)), (1, (0, paper)), (2, (0, day)), (3, (0, strike)), (4, (0, number)), (5, (0, known)), (6, (0, 1))]) rfl ?_
      exact j44 1 (by omega) (by omega) (by omega)
    · skip
      exfalso; omega
set_option maxRecDepth 100000 in
set_option maxHeartbeats 4000000 in
theorem c_X11_name (E : En) (S : Sg) (G : Gh) (this : Int) (paper : Int) (name_ : Int) (day : Int) (known : Int) (hS : S this = 128) (paper_a : (-2147483648) ≤ paper) (paper_b : paper ≤ 2147483647) (name__a : (-2147483648) ≤ name_) (name__b : name_ ≤ 2147483647) (day_a : (-2147483648) ≤ day) (day_b : day ≤ 2147483647) (known_a : (-2147483648) ≤ known) (known_b : known ≤ 2147483647) (ci : CI E S G) : Calls E mX11_name [(2, this), (0, paper), (0, name_), (0, day), (0, known)] S G 15 2 82 (fun r S' G' => Gr [141, 152, 160, 161, 162, 163, 164, 165, 166, 167, 168, 169, 170, 171, 172, 173, 174, 175, 176, 177, 178, 179, 180, 181, 182, 183, 184, 185] [(128, 0), (128, 1), (129, 1), (152, 0), (152, 1), (152, 2), (152, 3), (152, 4), (152, 5), (152, 6), (159, 0), (159, 1), (159, 2), (180, -1), (181, -1), (182, -1), (183, -1), (184, -1), (185, -1)] S G S' G' ∧ ∃ z : Int, r = some (0, z) ∧ 0 ≤ z ∧ z ≤ 1 ∧ CI E S' G') := by
  refine calls_by [(0, (2, this)), (1, (0, paper)), (2, (0, name_)), (3, (0, day)), (4, (0, known))] rfl rfl (Nat.le_of_ble_eq_true rfl) (fun X hX => ?_)
  have hP := hPX11_name
  have j33 : ∀ (l5_j33 : Int), 0 ≤ l5_j33 → l5_j33 ≤ 1 → (l5_j33 = 1 ∨ (0 ≤ day ∧ day ≤ 40000 ∧ 0 ≤ known ∧ known ≤ 40000)) → X 0 0 33 [] [(0, (2, this)), (1, (0, paper)), (2, (0, name_)), (3, (0, day)), (4, (0, known)), (5, (0, l5_j33))] S G := by
    intro l5_j33 yj33_0 yj33_1 yj33_2
    refine r_ex hX hP 2 (pc' := 35) (st' := [(0, paper), (2, this)]) (lo' := [(0, (2, this)), (1, (0, paper)), (2, (0, name_)), (3, (0, day)), (4, (0, known)), (5, (0, l5_j33))]) rfl ?_
    refine r_callS gd hX hP rfl cs_X11_120 (d' := 1) (mc' := 0) (ms' := 0) (as' := [(0, paper)]) (st := [(2, this)]) (by omega) (by omega) (by omega) rfl rfl (Nat.le_of_ble_eq_true rfl) (c_X11_isPaper E S G paper (by omega) (by omega)) ?_
    rintro _ _ _ ⟨rfl, rfl, z1, rfl, (⟨rfl, f2, f3⟩ | rfl)⟩
    · skip
      refine r_if_ne hX hP rfl (tgt := 45) rfl (by omega) (by omega) (fun c4 => ?_) (fun c4 => ?_)
      · skip
        refine r_ex hX hP 3 (pc' := 49) (st' := [(2, this), (0, l5_j33), (0, 0), (2, this)]) (lo' := [(0, (2, this)), (1, (0, paper)), (2, (0, name_)), (3, (0, day)), (4, (0, known)), (5, (0, l5_j33))]) rfl ?_
        refine r_getR hX hP rfl fl_X11_48_128 hS (fun nf5 nf5e nf5s => ?_)
        refine r_peekI hX (tl_159 2 rfl (by decide)) nf5s (fun sip6 sip6e sip6a sip6b => ?_)
        refine r_callV gd hX hP rfl cv_X11_125_159 nf5s (d' := 0) (mc' := 0) (ms' := 0) (as' := []) (st := [(0, l5_j33), (0, 0), (2, this)]) (by omega) (by omega) (by omega) rfl rfl (Nat.le_of_ble_eq_true rfl) (c_size_Lna E S G nf5  nf5s sip6 sip6e) ?_
        rintro _ _ _ ⟨rfl, rfl, z7, rfl, z7a, z7b, f8⟩
        refine r_ex hX hP 1 (pc' := 57) (st' := [(0, 60), (0, z7), (0, l5_j33), (0, 0), (2, this)]) (lo' := [(0, (2, this)), (1, (0, paper)), (2, (0, name_)), (3, (0, day)), (4, (0, known)), (5, (0, l5_j33))]) rfl ?_
        refine r_ic_lt hX hP rfl (tgt := 64) rfl (by omega) (by omega) (by omega) (by omega) (fun c9 => ?_) (fun c9 => ?_)
        · skip
          refine r_ex hX hP 3 (pc' := 68) (st' := [(2, this), (0, known), (0, 0), (0, l5_j33), (0, 0), (2, this)]) (lo' := [(0, (2, this)), (1, (0, paper)), (2, (0, name_)), (3, (0, day)), (4, (0, known)), (5, (0, l5_j33))]) rfl ?_
          refine r_getI hX hP rfl fl_X11_129_128 hS (fun lf10 lf10e lf10a lf10b => ?_)
          refine r_ic_ge hX hP rfl (tgt := 78) rfl (by omega) (by omega) (by omega) (by omega) (fun c11 => ?_) (fun c11 => ?_)
          · skip
            refine r_ex hX hP 1 (pc' := 79) (st' := [(0, 0), (0, 0), (0, l5_j33), (0, 0), (2, this)]) (lo' := [(0, (2, this)), (1, (0, paper)), (2, (0, name_)), (3, (0, day)), (4, (0, known)), (5, (0, l5_j33))]) rfl ?_
            refine r_callS gd hX hP rfl cs_X11_112 (d' := 0) (mc' := 0) (ms' := 0) (as' := [(0, 0), (0, l5_j33), (0, 0), (0, 0)]) (st := [(2, this)]) (by omega) (by omega) (by omega) rfl rfl (Nat.le_of_ble_eq_true rfl) (c_X11_first E S G 0 l5_j33 0 0 (by omega) (by omega) (by omega) (by omega) (by omega) (by omega) (by omega) (by omega)) ?_
            rintro _ _ _ ⟨rfl, rfl, z12, rfl, (⟨rfl, f13⟩ | ⟨rfl, f14, f15⟩ | ⟨rfl, f16, f17, f18⟩ | ⟨rfl, f19, f20, f21, f22⟩ | ⟨rfl, f23, f24, f25, f26⟩)⟩
            · skip
              exfalso; omega
            · skip
              refine r_callV gd hX hP rfl cv_X11_90_128 hS (d' := 0) (mc' := 0) (ms' := 0) (as' := [(0, 2)]) (st := []) (by omega) (by omega) (by omega) rfl rfl (Nat.le_of_ble_eq_true rfl) (c_X11_refused E S G this 2 hS (by omega) (by omega)) ?_
              rintro _ _ _ ⟨rfl, ⟨G27, rfl⟩, z28, rfl, (⟨rfl, f29⟩ | ⟨rfl, f30⟩)⟩
              · skip
                refine r_if_eq hX hP rfl (tgt := 90) rfl (by omega) (by omega) (fun c31 => ?_) (fun c31 => ?_)
                · skip
                  exfalso; omega
                · skip
                  refine r_ex hX hP 1 (pc' := 89) (st' := [(0, 0)]) (lo' := [(0, (2, this)), (1, (0, paper)), (2, (0, name_)), (3, (0, day)), (4, (0, known)), (5, (0, l5_j33))]) rfl ?_
                  have g32 : Gr [141, 152, 160, 161, 162, 163, 164, 165, 166, 167, 168, 169, 170, 171, 172, 173, 174, 175, 176, 177, 178, 179, 180, 181, 182, 183, 184, 185] [(128, 0), (128, 1), (129, 1), (152, 0), (152, 1), (152, 2), (152, 3), (152, 4), (152, 5), (152, 6), (159, 0), (159, 1), (159, 2), (180, -1), (181, -1), (182, -1), (183, -1), (184, -1), (185, -1)] S G S (hw [(128, 0)] G G27) := (gr_hw (gr_refl [141, 152, 160, 161, 162, 163, 164, 165, 166, 167, 168, 169, 170, 171, 172, 173, 174, 175, 176, 177, 178, 179, 180, 181, 182, 183, 184, 185] [(128, 0), (128, 1), (129, 1), (152, 0), (152, 1), (152, 2), (152, 3), (152, 4), (152, 5), (152, 6), (159, 0), (159, 1), (159, 2), (180, -1), (181, -1), (182, -1), (183, -1), (184, -1), (185, -1)] S G) rfl)
                  have ci33 : CI E S (hw [(128, 0)] G G27) := (ci_hw ci rfl)
                  exact r_retZ hX hP rfl rfl (by omega) (by omega) (by omega) (by omega) ⟨g32, 0, rfl, (by omega), (by omega), ci33⟩
              · skip
                exfalso; omega
            · skip
              exfalso; omega
            · skip
              exfalso; omega
            · skip
              refine r_callV gd hX hP rfl cv_X11_90_128 hS (d' := 0) (mc' := 0) (ms' := 0) (as' := [(0, 0)]) (st := []) (by omega) (by omega) (by omega) rfl rfl (Nat.le_of_ble_eq_true rfl) (c_X11_refused E S G this 0 hS (by omega) (by omega)) ?_
              rintro _ _ _ ⟨rfl, ⟨G34, rfl⟩, z35, rfl, (⟨rfl, f36⟩ | ⟨rfl, f37⟩)⟩
              · skip
                exfalso; omega
              · skip
                refine r_if_eq hX hP rfl (tgt := 90) rfl (by omega) (by omega) (fun c38 => ?_) (fun c38 => ?_)
                · skip
                  refine r_ex hX hP 1 (pc' := 91) (st' := [(2, this)]) (lo' := [(0, (2, this)), (1, (0, paper)), (2, (0, name_)), (3, (0, day)), (4, (0, known)), (5, (0, l5_j33))]) rfl ?_
                  refine r_getKR hX hP rfl fl_X11_48_128 hS (x := nf5) nf5e ?_
                  have g39 : Gr [141, 152, 160, 161, 162, 163, 164, 165, 166, 167, 168, 169, 170, 171, 172, 173, 174, 175, 176, 177, 178, 179, 180, 181, 182, 183, 184, 185] [(128, 0), (128, 1), (129, 1), (152, 0), (152, 1), (152, 2), (152, 3), (152, 4), (152, 5), (152, 6), (159, 0), (159, 1), (159, 2), (180, -1), (181, -1), (182, -1), (183, -1), (184, -1), (185, -1)] S G S (hw [(128, 0)] G G34) := (gr_hw (gr_refl [141, 152, 160, 161, 162, 163, 164, 165, 166, 167, 168, 169, 170, 171, 172, 173, 174, 175, 176, 177, 178, 179, 180, 181, 182, 183, 184, 185] [(128, 0), (128, 1), (129, 1), (152, 0), (152, 1), (152, 2), (152, 3), (152, 4), (152, 5), (152, 6), (159, 0), (159, 1), (159, 2), (180, -1), (181, -1), (182, -1), (183, -1), (184, -1), (185, -1)] S G) rfl)
                  have ci40 : CI E S (hw [(128, 0)] G G34) := (ci_hw ci rfl)
                  refine r_tk hX (fun tk41 => ?_)
                  refine r_newA hX hP rfl (L := 152) (N := 9) nw_X11_132_152 (by omega) (by omega) (fun n42 S43 G44 n42z n42n n42l g45 n42v => ?_)
                  have z46 : S n42 = 0 := gr_zero g39 n42z
                  have s47 : S43 this = 128 := gr_lab g45 hS (by decide)
                  have s48 : S43 nf5 = 159 := gr_lab g45 nf5s (by decide)
                  have e49 : nf5 = G44 128 this 11 := gr_val g45 nf5e hS (by decide) rfl
                  have e50 : sip6 = G44 159 nf5 2 := gr_val g45 sip6e nf5s (by decide) rfl
                  have e51 : lf10 = G44 128 this 1 := gr_val g45 lf10e hS (by decide) rfl
                  have g52 : Gr [141, 152, 160, 161, 162, 163, 164, 165, 166, 167, 168, 169, 170, 171, 172, 173, 174, 175, 176, 177, 178, 179, 180, 181, 182, 183, 184, 185] [(128, 0), (128, 1), (129, 1), (152, 0), (152, 1), (152, 2), (152, 3), (152, 4), (152, 5), (152, 6), (159, 0), (159, 1), (159, 2), (180, -1), (181, -1), (182, -1), (183, -1), (184, -1), (185, -1)] S G S43 G44 := gr_call g39 g45 rfl rfl
                  have ci53 : CI E S43 G44 := ci_gr ci40 tk41 g45 rfl rfl
                  refine r_ex hX hP 5 (pc' := 103) (st' := [(0, known), (0, name_), (0, day), (0, paper), (2, n42), (2, n42), (2, nf5)]) (lo' := [(0, (2, this)), (1, (0, paper)), (2, (0, name_)), (3, (0, day)), (4, (0, known)), (5, (0, l5_j33))]) rfl ?_
                  refine r_callI gd hX hP rfl ci_X11_134 n42n (d' := 4) (mc' := 0) (ms' := 0) (as' := [(0, paper), (0, day), (0, name_), (0, known)]) (st := [(2, n42), (2, nf5)]) (by omega) (by omega) (by omega) rfl rfl (Nat.le_of_ble_eq_true rfl) (c_X1_init E S43 G44 n42 paper day name_ known n42l (by omega) (by omega) (by omega) (by omega) (by omega) (by omega) (by omega) (by omega)) ?_
                  rintro _ _ _ ⟨rfl, ⟨G54, rfl⟩, rfl, -⟩
                  have g55 : Gr [141, 152, 160, 161, 162, 163, 164, 165, 166, 167, 168, 169, 170, 171, 172, 173, 174, 175, 176, 177, 178, 179, 180, 181, 182, 183, 184, 185] [(128, 0), (128, 1), (129, 1), (152, 0), (152, 1), (152, 2), (152, 3), (152, 4), (152, 5), (152, 6), (159, 0), (159, 1), (159, 2), (180, -1), (181, -1), (182, -1), (183, -1), (184, -1), (185, -1)] S G S43 (hw [(152, 0), (152, 1), (152, 2), (152, 3), (152, 4), (152, 5), (152, 6)] G44 G54) := (gr_hw g52 rfl)
                  refine r_finA hX (L := 152) (ci := 2) (fs := fs_152) rfl n42l (by decide) (fun hr56 => ?_)
                  have hf57 : Fnl E fs_141 152 S43 (hw [(152, 0), (152, 1), (152, 2), (152, 3), (152, 4), (152, 5), (152, 6)] G44 G54) n42 := by
                    intro j hj
                    rcases (by have : j < 9 := hj; omega : j = 0 ∨ j = 1 ∨ j = 2 ∨ j = 3 ∨ j = 4 ∨ j = 5 ∨ j = 6 ∨ j = 7 ∨ j = 8) with rfl | rfl | rfl | rfl | rfl | rfl | rfl | rfl | rfl
                    · exact hr56 0 (by decide)
                    · exact hr56 1 (by decide)
                    · exact hr56 2 (by decide)
                    · exact hr56 3 (by decide)
                    · exact hr56 4 (by decide)
                    · exact hr56 5 (by decide)
                    · exact hr56 6 (by decide)
                    · exact hr56 7 (by decide)
                    · exact hr56 8 (by decide)
                  have ci58 : CI E S43 (hw [(152, 0), (152, 1), (152, 2), (152, 3), (152, 4), (152, 5), (152, 6)] G44 G54) := (ci_hw ci53 rfl)
                  refine r_tk hX (fun tk59 => ?_)
                  refine r_relabF hX (L := 152) (L' := 141) (ci := 2) (fs := fs_152) (fs' := fs_141) rfl rfl rfl (by decide) (by decide) nf_152 (by decide) n42l hf57 (fun S61 G62 r60 => ?_)
                  have s64 : S61 this = 128 := r60.lab n42l s47 (by decide)
                  have s65 : S61 nf5 = 159 := r60.lab n42l s48 (by decide)
                  have e66 : nf5 = G62 128 this 11 := rs_val r60 n42l e49 s47 (by decide)
                  have e67 : sip6 = G62 159 nf5 2 := rs_val r60 n42l e50 s48 (by decide)
                  have e68 : lf10 = G62 128 this 1 := rs_val r60 n42l e51 s47 (by decide)
                  have g69 : Gr [141, 152, 160, 161, 162, 163, 164, 165, 166, 167, 168, 169, 170, 171, 172, 173, 174, 175, 176, 177, 178, 179, 180, 181, 182, 183, 184, 185] [(128, 0), (128, 1), (129, 1), (152, 0), (152, 1), (152, 2), (152, 3), (152, 4), (152, 5), (152, 6), (159, 0), (159, 1), (159, 2), (180, -1), (181, -1), (182, -1), (183, -1), (184, -1), (185, -1)] S G S61 G62 := gr_rs g55 r60 z46 rfl
                  have ci70 : CI E S61 G62 := ci_rs ci58 tk59 r60 n42l rfl rfl (fun e => absurd e (by decide)) (fun e => absurd e (by decide))
                  refine r_tk hX (fun tk71 => ?_)
                  refine r_callV gd hX hP rfl cv_X11_143_159 s65 (d' := 14) (mc' := 1) (ms' := 73) (as' := [(2, n42)]) (st := []) (by omega) (by omega) (by omega) rfl rfl (Nat.le_of_ble_eq_true rfl) (c_add_Lna E S61 G62 nf5 n42 s65 r60.1 sip6 e67 (by omega) ci70) ?_
                  rintro _ S72 G73 ⟨g74, z75, rfl, z75a, z75b, ci76, q77⟩
                  have s78 : S72 this = 128 := gr_lab g74 s64 (by decide)
                  have s79 : S72 nf5 = 159 := gr_lab g74 s65 (by decide)
                  have s80 : S72 n42 = 141 := gr_lab g74 r60.1 (by decide)
                  have e81 : nf5 = G73 128 this 11 := gr_val g74 e66 s64 (by decide) rfl
                  have e82 : lf10 = G73 128 this 1 := gr_val g74 e68 s64 (by decide) rfl
                  have g83 : Gr [141, 152, 160, 161, 162, 163, 164, 165, 166, 167, 168, 169, 170, 171, 172, 173, 174, 175, 176, 177, 178, 179, 180, 181, 182, 183, 184, 185] [(128, 0), (128, 1), (129, 1), (152, 0), (152, 1), (152, 2), (152, 3), (152, 4), (152, 5), (152, 6), (159, 0), (159, 1), (159, 2), (180, -1), (181, -1), (182, -1), (183, -1), (184, -1), (185, -1)] S G S72 G73 := gr_call g69 g74 rfl rfl
                  refine r_ex hX hP 3 (pc' := 113) (st' := [(0, known), (2, this)]) (lo' := [(0, (2, this)), (1, (0, paper)), (2, (0, name_)), (3, (0, day)), (4, (0, known)), (5, (0, l5_j33))]) rfl ?_
                  refine r_callV gd hX hP rfl cv_X11_147_128 s78 (d' := 0) (mc' := 0) (ms' := 0) (as' := [(0, known)]) (st := []) (by omega) (by omega) (by omega) rfl rfl (Nat.le_of_ble_eq_true rfl) (c_X11_tell E S72 G73 this known s78 (by omega) (by omega)) ?_
                  rintro _ _ _ ⟨rfl, ⟨G84, rfl⟩, rfl, -⟩
                  refine r_ex hX hP 1 (pc' := 117) (st' := [(0, 1)]) (lo' := [(0, (2, this)), (1, (0, paper)), (2, (0, name_)), (3, (0, day)), (4, (0, known)), (5, (0, l5_j33))]) rfl ?_
                  have g85 : Gr [141, 152, 160, 161, 162, 163, 164, 165, 166, 167, 168, 169, 170, 171, 172, 173, 174, 175, 176, 177, 178, 179, 180, 181, 182, 183, 184, 185] [(128, 0), (128, 1), (129, 1), (152, 0), (152, 1), (152, 2), (152, 3), (152, 4), (152, 5), (152, 6), (159, 0), (159, 1), (159, 2), (180, -1), (181, -1), (182, -1), (183, -1), (184, -1), (185, -1)] S G S72 (hw [(128, 1), (129, 1)] G73 G84) := (gr_hw g83 rfl)
                  have ci86 : CI E S72 (hw [(128, 1), (129, 1)] G73 G84) := (ci_hw ci76 rfl)
                  exact r_retZ hX hP rfl rfl (by omega) (by omega) (by omega) (by omega) ⟨g85, 1, rfl, (by omega), (by omega), ci86⟩
                · skip
                  exfalso; omega
          · skip
            refine r_ex hX hP 2 (pc' := 79) (st' := [(0, 1), (0, 0), (0, l5_j33), (0, 0), (2, this)]) (lo' := [(0, (2, this)), (1, (0, paper)), (2, (0, name_)), (3, (0, day)), (4, (0, known)), (5, (0, l5_j33))]) rfl ?_
            refine r_callS gd hX hP rfl cs_X11_112 (d' := 0) (mc' := 0) (ms' := 0) (as' := [(0, 0), (0, l5_j33), (0, 0), (0, 1)]) (st := [(2, this)]) (by omega) (by omega) (by omega) rfl rfl (Nat.le_of_ble_eq_true rfl) (c_X11_first E S G 0 l5_j33 0 1 (by omega) (by omega) (by omega) (by omega) (by omega) (by omega) (by omega) (by omega)) ?_
            rintro _ _ _ ⟨rfl, rfl, z87, rfl, (⟨rfl, f88⟩ | ⟨rfl, f89, f90⟩ | ⟨rfl, f91, f92, f93⟩ | ⟨rfl, f94, f95, f96, f97⟩ | ⟨rfl, f98, f99, f100, f101⟩)⟩
            · skip
              exfalso; omega
            · skip
              refine r_callV gd hX hP rfl cv_X11_90_128 hS (d' := 0) (mc' := 0) (ms' := 0) (as' := [(0, 2)]) (st := []) (by omega) (by omega) (by omega) rfl rfl (Nat.le_of_ble_eq_true rfl) (c_X11_refused E S G this 2 hS (by omega) (by omega)) ?_
              rintro _ _ _ ⟨rfl, ⟨G102, rfl⟩, z103, rfl, (⟨rfl, f104⟩ | ⟨rfl, f105⟩)⟩
              · skip
                refine r_if_eq hX hP rfl (tgt := 90) rfl (by omega) (by omega) (fun c106 => ?_) (fun c106 => ?_)
                · skip
                  exfalso; omega
                · skip
                  refine r_ex hX hP 1 (pc' := 89) (st' := [(0, 0)]) (lo' := [(0, (2, this)), (1, (0, paper)), (2, (0, name_)), (3, (0, day)), (4, (0, known)), (5, (0, l5_j33))]) rfl ?_
                  have g107 : Gr [141, 152, 160, 161, 162, 163, 164, 165, 166, 167, 168, 169, 170, 171, 172, 173, 174, 175, 176, 177, 178, 179, 180, 181, 182, 183, 184, 185] [(128, 0), (128, 1), (129, 1), (152, 0), (152, 1), (152, 2), (152, 3), (152, 4), (152, 5), (152, 6), (159, 0), (159, 1), (159, 2), (180, -1), (181, -1), (182, -1), (183, -1), (184, -1), (185, -1)] S G S (hw [(128, 0)] G G102) := (gr_hw (gr_refl [141, 152, 160, 161, 162, 163, 164, 165, 166, 167, 168, 169, 170, 171, 172, 173, 174, 175, 176, 177, 178, 179, 180, 181, 182, 183, 184, 185] [(128, 0), (128, 1), (129, 1), (152, 0), (152, 1), (152, 2), (152, 3), (152, 4), (152, 5), (152, 6), (159, 0), (159, 1), (159, 2), (180, -1), (181, -1), (182, -1), (183, -1), (184, -1), (185, -1)] S G) rfl)
                  have ci108 : CI E S (hw [(128, 0)] G G102) := (ci_hw ci rfl)
                  exact r_retZ hX hP rfl rfl (by omega) (by omega) (by omega) (by omega) ⟨g107, 0, rfl, (by omega), (by omega), ci108⟩
              · skip
                exfalso; omega
            · skip
              exfalso; omega
            · skip
              refine r_callV gd hX hP rfl cv_X11_90_128 hS (d' := 0) (mc' := 0) (ms' := 0) (as' := [(0, 4)]) (st := []) (by omega) (by omega) (by omega) rfl rfl (Nat.le_of_ble_eq_true rfl) (c_X11_refused E S G this 4 hS (by omega) (by omega)) ?_
              rintro _ _ _ ⟨rfl, ⟨G109, rfl⟩, z110, rfl, (⟨rfl, f111⟩ | ⟨rfl, f112⟩)⟩
              · skip
                refine r_if_eq hX hP rfl (tgt := 90) rfl (by omega) (by omega) (fun c113 => ?_) (fun c113 => ?_)
                · skip
                  exfalso; omega
                · skip
                  refine r_ex hX hP 1 (pc' := 89) (st' := [(0, 0)]) (lo' := [(0, (2, this)), (1, (0, paper)), (2, (0, name_)), (3, (0, day)), (4, (0, known)), (5, (0, l5_j33))]) rfl ?_
                  have g114 : Gr [141, 152, 160, 161, 162, 163, 164, 165, 166, 167, 168, 169, 170, 171, 172, 173, 174, 175, 176, 177, 178, 179, 180, 181, 182, 183, 184, 185] [(128, 0), (128, 1), (129, 1), (152, 0), (152, 1), (152, 2), (152, 3), (152, 4), (152, 5), (152, 6), (159, 0), (159, 1), (159, 2), (180, -1), (181, -1), (182, -1), (183, -1), (184, -1), (185, -1)] S G S (hw [(128, 0)] G G109) := (gr_hw (gr_refl [141, 152, 160, 161, 162, 163, 164, 165, 166, 167, 168, 169, 170, 171, 172, 173, 174, 175, 176, 177, 178, 179, 180, 181, 182, 183, 184, 185] [(128, 0), (128, 1), (129, 1), (152, 0), (152, 1), (152, 2), (152, 3), (152, 4), (152, 5), (152, 6), (159, 0), (159, 1), (159, 2), (180, -1), (181, -1), (182, -1), (183, -1), (184, -1), (185, -1)] S G) rfl)
                  have ci115 : CI E S (hw [(128, 0)] G G109) := (ci_hw ci rfl)
                  exact r_retZ hX hP rfl rfl (by omega) (by omega) (by omega) (by omega) ⟨g114, 0, rfl, (by omega), (by omega), ci115⟩
              · skip
                exfalso; omega
            · skip
              exfalso; omega
        · skip
          refine r_ex hX hP 4 (pc' := 68) (st' := [(2, this), (0, known), (0, 1), (0, l5_j33), (0, 0), (2, this)]) (lo' := [(0, (2, this)), (1, (0, paper)), (2, (0, name_)), (3, (0, day)), (4, (0, known)), (5, (0, l5_j33))]) rfl ?_
          refine r_getI hX hP rfl fl_X11_129_128 hS (fun lf116 lf116e lf116a lf116b => ?_)
          refine r_ic_ge hX hP rfl (tgt := 78) rfl (by omega) (by omega) (by omega) (by omega) (fun c117 => ?_) (fun c117 => ?_)
          · skip
            refine r_ex hX hP 1 (pc' := 79) (st' := [(0, 0), (0, 1), (0, l5_j33), (0, 0), (2, this)]) (lo' := [(0, (2, this)), (1, (0, paper)), (2, (0, name_)), (3, (0, day)), (4, (0, known)), (5, (0, l5_j33))]) rfl ?_
            refine r_callS gd hX hP rfl cs_X11_112 (d' := 0) (mc' := 0) (ms' := 0) (as' := [(0, 0), (0, l5_j33), (0, 1), (0, 0)]) (st := [(2, this)]) (by omega) (by omega) (by omega) rfl rfl (Nat.le_of_ble_eq_true rfl) (c_X11_first E S G 0 l5_j33 1 0 (by omega) (by omega) (by omega) (by omega) (by omega) (by omega) (by omega) (by omega)) ?_
            rintro _ _ _ ⟨rfl, rfl, z118, rfl, (⟨rfl, f119⟩ | ⟨rfl, f120, f121⟩ | ⟨rfl, f122, f123, f124⟩ | ⟨rfl, f125, f126, f127, f128⟩ | ⟨rfl, f129, f130, f131, f132⟩)⟩
            · skip
              exfalso; omega
            · skip
              refine r_callV gd hX hP rfl cv_X11_90_128 hS (d' := 0) (mc' := 0) (ms' := 0) (as' := [(0, 2)]) (st := []) (by omega) (by omega) (by omega) rfl rfl (Nat.le_of_ble_eq_true rfl) (c_X11_refused E S G this 2 hS (by omega) (by omega)) ?_
              rintro _ _ _ ⟨rfl, ⟨G133, rfl⟩, z134, rfl, (⟨rfl, f135⟩ | ⟨rfl, f136⟩)⟩
              · skip
                refine r_if_eq hX hP rfl (tgt := 90) rfl (by omega) (by omega) (fun c137 => ?_) (fun c137 => ?_)
                · skip
                  exfalso; omega
                · skip
                  refine r_ex hX hP 1 (pc' := 89) (st' := [(0, 0)]) (lo' := [(0, (2, this)), (1, (0, paper)), (2, (0, name_)), (3, (0, day)), (4, (0, known)), (5, (0, l5_j33))]) rfl ?_
                  have g138 : Gr [141, 152, 160, 161, 162, 163, 164, 165, 166, 167, 168, 169, 170, 171, 172, 173, 174, 175, 176, 177, 178, 179, 180, 181, 182, 183, 184, 185] [(128, 0), (128, 1), (129, 1), (152, 0), (152, 1), (152, 2), (152, 3), (152, 4), (152, 5), (152, 6), (159, 0), (159, 1), (159, 2), (180, -1), (181, -1), (182, -1), (183, -1), (184, -1), (185, -1)] S G S (hw [(128, 0)] G G133) := (gr_hw (gr_refl [141, 152, 160, 161, 162, 163, 164, 165, 166, 167, 168, 169, 170, 171, 172, 173, 174, 175, 176, 177, 178, 179, 180, 181, 182, 183, 184, 185] [(128, 0), (128, 1), (129, 1), (152, 0), (152, 1), (152, 2), (152, 3), (152, 4), (152, 5), (152, 6), (159, 0), (159, 1), (159, 2), (180, -1), (181, -1), (182, -1), (183, -1), (184, -1), (185, -1)] S G) rfl)
                  have ci139 : CI E S (hw [(128, 0)] G G133) := (ci_hw ci rfl)
                  exact r_retZ hX hP rfl rfl (by omega) (by omega) (by omega) (by omega) ⟨g138, 0, rfl, (by omega), (by omega), ci139⟩
              · skip
                exfalso; omega
            · skip
              refine r_callV gd hX hP rfl cv_X11_90_128 hS (d' := 0) (mc' := 0) (ms' := 0) (as' := [(0, 3)]) (st := []) (by omega) (by omega) (by omega) rfl rfl (Nat.le_of_ble_eq_true rfl) (c_X11_refused E S G this 3 hS (by omega) (by omega)) ?_
              rintro _ _ _ ⟨rfl, ⟨G140, rfl⟩, z141, rfl, (⟨rfl, f142⟩ | ⟨rfl, f143⟩)⟩
              · skip
                refine r_if_eq hX hP rfl (tgt := 90) rfl (by omega) (by omega) (fun c144 => ?_) (fun c144 => ?_)
                · skip
                  exfalso; omega
                · skip
                  refine r_ex hX hP 1 (pc' := 89) (st' := [(0, 0)]) (lo' := [(0, (2, this)), (1, (0, paper)), (2, (0, name_)), (3, (0, day)), (4, (0, known)), (5, (0, l5_j33))]) rfl ?_
                  have g145 : Gr [141, 152, 160, 161, 162, 163, 164, 165, 166, 167, 168, 169, 170, 171, 172, 173, 174, 175, 176, 177, 178, 179, 180, 181, 182, 183, 184, 185] [(128, 0), (128, 1), (129, 1), (152, 0), (152, 1), (152, 2), (152, 3), (152, 4), (152, 5), (152, 6), (159, 0), (159, 1), (159, 2), (180, -1), (181, -1), (182, -1), (183, -1), (184, -1), (185, -1)] S G S (hw [(128, 0)] G G140) := (gr_hw (gr_refl [141, 152, 160, 161, 162, 163, 164, 165, 166, 167, 168, 169, 170, 171, 172, 173, 174, 175, 176, 177, 178, 179, 180, 181, 182, 183, 184, 185] [(128, 0), (128, 1), (129, 1), (152, 0), (152, 1), (152, 2), (152, 3), (152, 4), (152, 5), (152, 6), (159, 0), (159, 1), (159, 2), (180, -1), (181, -1), (182, -1), (183, -1), (184, -1), (185, -1)] S G) rfl)
                  have ci146 : CI E S (hw [(128, 0)] G G140) := (ci_hw ci rfl)
                  exact r_retZ hX hP rfl rfl (by omega) (by omega) (by omega) (by omega) ⟨g145, 0, rfl, (by omega), (by omega), ci146⟩
              · skip
                exfalso; omega
            · skip
              exfalso; omega
            · skip
              exfalso; omega
          · skip
            refine r_ex hX hP 2 (pc' := 79) (st' := [(0, 1), (0, 1), (0, l5_j33), (0, 0), (2, this)]) (lo' := [(0, (2, this)), (1, (0, paper)), (2, (0, name_)), (3, (0, day)), (4, (0, known)), (5, (0, l5_j33))]) rfl ?_
            refine r_callS gd hX hP rfl cs_X11_112 (d' := 0) (mc' := 0) (ms' := 0) (as' := [(0, 0), (0, l5_j33), (0, 1), (0, 1)]) (st := [(2, this)]) (by omega) (by omega) (by omega) rfl rfl (Nat.le_of_ble_eq_true rfl) (c_X11_first E S G 0 l5_j33 1 1 (by omega) (by omega) (by omega) (by omega) (by omega) (by omega) (by omega) (by omega)) ?_
            rintro _ _ _ ⟨rfl, rfl, z147, rfl, (⟨rfl, f148⟩ | ⟨rfl, f149, f150⟩ | ⟨rfl, f151, f152, f153⟩ | ⟨rfl, f154, f155, f156, f157⟩ | ⟨rfl, f158, f159, f160, f161⟩)⟩
            · skip
              exfalso; omega
            · skip
              refine r_callV gd hX hP rfl cv_X11_90_128 hS (d' := 0) (mc' := 0) (ms' := 0) (as' := [(0, 2)]) (st := []) (by omega) (by omega) (by omega) rfl rfl (Nat.le_of_ble_eq_true rfl) (c_X11_refused E S G this 2 hS (by omega) (by omega)) ?_
              rintro _ _ _ ⟨rfl, ⟨G162, rfl⟩, z163, rfl, (⟨rfl, f164⟩ | ⟨rfl, f165⟩)⟩
              · skip
                refine r_if_eq hX hP rfl (tgt := 90) rfl (by omega) (by omega) (fun c166 => ?_) (fun c166 => ?_)
                · skip
                  exfalso; omega
                · skip
                  refine r_ex hX hP 1 (pc' := 89) (st' := [(0, 0)]) (lo' := [(0, (2, this)), (1, (0, paper)), (2, (0, name_)), (3, (0, day)), (4, (0, known)), (5, (0, l5_j33))]) rfl ?_
                  have g167 : Gr [141, 152, 160, 161, 162, 163, 164, 165, 166, 167, 168, 169, 170, 171, 172, 173, 174, 175, 176, 177, 178, 179, 180, 181, 182, 183, 184, 185] [(128, 0), (128, 1), (129, 1), (152, 0), (152, 1), (152, 2), (152, 3), (152, 4), (152, 5), (152, 6), (159, 0), (159, 1), (159, 2), (180, -1), (181, -1), (182, -1), (183, -1), (184, -1), (185, -1)] S G S (hw [(128, 0)] G G162) := (gr_hw (gr_refl [141, 152, 160, 161, 162, 163, 164, 165, 166, 167, 168, 169, 170, 171, 172, 173, 174, 175, 176, 177, 178, 179, 180, 181, 182, 183, 184, 185] [(128, 0), (128, 1), (129, 1), (152, 0), (152, 1), (152, 2), (152, 3), (152, 4), (152, 5), (152, 6), (159, 0), (159, 1), (159, 2), (180, -1), (181, -1), (182, -1), (183, -1), (184, -1), (185, -1)] S G) rfl)
                  have ci168 : CI E S (hw [(128, 0)] G G162) := (ci_hw ci rfl)
                  exact r_retZ hX hP rfl rfl (by omega) (by omega) (by omega) (by omega) ⟨g167, 0, rfl, (by omega), (by omega), ci168⟩
              · skip
                exfalso; omega
            · skip
              refine r_callV gd hX hP rfl cv_X11_90_128 hS (d' := 0) (mc' := 0) (ms' := 0) (as' := [(0, 3)]) (st := []) (by omega) (by omega) (by omega) rfl rfl (Nat.le_of_ble_eq_true rfl) (c_X11_refused E S G this 3 hS (by omega) (by omega)) ?_
              rintro _ _ _ ⟨rfl, ⟨G169, rfl⟩, z170, rfl, (⟨rfl, f171⟩ | ⟨rfl, f172⟩)⟩
              · skip
                refine r_if_eq hX hP rfl (tgt := 90) rfl (by omega) (by omega) (fun c173 => ?_) (fun c173 => ?_)
                · skip
                  exfalso; omega
                · skip
                  refine r_ex hX hP 1 (pc' := 89) (st' := [(0, 0)]) (lo' := [(0, (2, this)), (1, (0, paper)), (2, (0, name_)), (3, (0, day)), (4, (0, known)), (5, (0, l5_j33))]) rfl ?_
                  have g174 : Gr [141, 152, 160, 161, 162, 163, 164, 165, 166, 167, 168, 169, 170, 171, 172, 173, 174, 175, 176, 177, 178, 179, 180, 181, 182, 183, 184, 185] [(128, 0), (128, 1), (129, 1), (152, 0), (152, 1), (152, 2), (152, 3), (152, 4), (152, 5), (152, 6), (159, 0), (159, 1), (159, 2), (180, -1), (181, -1), (182, -1), (183, -1), (184, -1), (185, -1)] S G S (hw [(128, 0)] G G169) := (gr_hw (gr_refl [141, 152, 160, 161, 162, 163, 164, 165, 166, 167, 168, 169, 170, 171, 172, 173, 174, 175, 176, 177, 178, 179, 180, 181, 182, 183, 184, 185] [(128, 0), (128, 1), (129, 1), (152, 0), (152, 1), (152, 2), (152, 3), (152, 4), (152, 5), (152, 6), (159, 0), (159, 1), (159, 2), (180, -1), (181, -1), (182, -1), (183, -1), (184, -1), (185, -1)] S G) rfl)
                  have ci175 : CI E S (hw [(128, 0)] G G169) := (ci_hw ci rfl)
                  exact r_retZ hX hP rfl rfl (by omega) (by omega) (by omega) (by omega) ⟨g174, 0, rfl, (by omega), (by omega), ci175⟩
              · skip
                exfalso; omega
            · skip
              exfalso; omega
            · skip
              exfalso; omega
      · skip
        exfalso; omega
    · skip
      refine r_if_ne hX hP rfl (tgt := 45) rfl (by omega) (by omega) (fun c176 => ?_) (fun c176 => ?_)
      · skip
        exfalso; omega
      · skip
        refine r_ex hX hP 4 (pc' := 49) (st' := [(2, this), (0, l5_j33), (0, 1), (2, this)]) (lo' := [(0, (2, this)), (1, (0, paper)), (2, (0, name_)), (3, (0, day)), (4, (0, known)), (5, (0, l5_j33))]) rfl ?_
        refine r_getR hX hP rfl fl_X11_48_128 hS (fun nf177 nf177e nf177s => ?_)
        refine r_peekI hX (tl_159 2 rfl (by decide)) nf177s (fun sip178 sip178e sip178a sip178b => ?_)
        refine r_callV gd hX hP rfl cv_X11_125_159 nf177s (d' := 0) (mc' := 0) (ms' := 0) (as' := []) (st := [(0, l5_j33), (0, 1), (2, this)]) (by omega) (by omega) (by omega) rfl rfl (Nat.le_of_ble_eq_true rfl) (c_size_Lna E S G nf177  nf177s sip178 sip178e) ?_
        rintro _ _ _ ⟨rfl, rfl, z179, rfl, z179a, z179b, f180⟩
        refine r_ex hX hP 1 (pc' := 57) (st' := [(0, 60), (0, z179), (0, l5_j33), (0, 1), (2, this)]) (lo' := [(0, (2, this)), (1, (0, paper)), (2, (0, name_)), (3, (0, day)), (4, (0, known)), (5, (0, l5_j33))]) rfl ?_
        refine r_ic_lt hX hP rfl (tgt := 64) rfl (by omega) (by omega) (by omega) (by omega) (fun c181 => ?_) (fun c181 => ?_)
        · skip
          refine r_ex hX hP 3 (pc' := 68) (st' := [(2, this), (0, known), (0, 0), (0, l5_j33), (0, 1), (2, this)]) (lo' := [(0, (2, this)), (1, (0, paper)), (2, (0, name_)), (3, (0, day)), (4, (0, known)), (5, (0, l5_j33))]) rfl ?_
          refine r_getI hX hP rfl fl_X11_129_128 hS (fun lf182 lf182e lf182a lf182b => ?_)
          refine r_ic_ge hX hP rfl (tgt := 78) rfl (by omega) (by omega) (by omega) (by omega) (fun c183 => ?_) (fun c183 => ?_)
          · skip
            refine r_ex hX hP 1 (pc' := 79) (st' := [(0, 0), (0, 0), (0, l5_j33), (0, 1), (2, this)]) (lo' := [(0, (2, this)), (1, (0, paper)), (2, (0, name_)), (3, (0, day)), (4, (0, known)), (5, (0, l5_j33))]) rfl ?_
            refine r_callS gd hX hP rfl cs_X11_112 (d' := 0) (mc' := 0) (ms' := 0) (as' := [(0, 1), (0, l5_j33), (0, 0), (0, 0)]) (st := [(2, this)]) (by omega) (by omega) (by omega) rfl rfl (Nat.le_of_ble_eq_true rfl) (c_X11_first E S G 1 l5_j33 0 0 (by omega) (by omega) (by omega) (by omega) (by omega) (by omega) (by omega) (by omega)) ?_
            rintro _ _ _ ⟨rfl, rfl, z184, rfl, (⟨rfl, f185⟩ | ⟨rfl, f186, f187⟩ | ⟨rfl, f188, f189, f190⟩ | ⟨rfl, f191, f192, f193, f194⟩ | ⟨rfl, f195, f196, f197, f198⟩)⟩
            · skip
              refine r_callV gd hX hP rfl cv_X11_90_128 hS (d' := 0) (mc' := 0) (ms' := 0) (as' := [(0, 1)]) (st := []) (by omega) (by omega) (by omega) rfl rfl (Nat.le_of_ble_eq_true rfl) (c_X11_refused E S G this 1 hS (by omega) (by omega)) ?_
              rintro _ _ _ ⟨rfl, ⟨G199, rfl⟩, z200, rfl, (⟨rfl, f201⟩ | ⟨rfl, f202⟩)⟩
              · skip
                refine r_if_eq hX hP rfl (tgt := 90) rfl (by omega) (by omega) (fun c203 => ?_) (fun c203 => ?_)
                · skip
                  exfalso; omega
                · skip
                  refine r_ex hX hP 1 (pc' := 89) (st' := [(0, 0)]) (lo' := [(0, (2, this)), (1, (0, paper)), (2, (0, name_)), (3, (0, day)), (4, (0, known)), (5, (0, l5_j33))]) rfl ?_
                  have g204 : Gr [141, 152, 160, 161, 162, 163, 164, 165, 166, 167, 168, 169, 170, 171, 172, 173, 174, 175, 176, 177, 178, 179, 180, 181, 182, 183, 184, 185] [(128, 0), (128, 1), (129, 1), (152, 0), (152, 1), (152, 2), (152, 3), (152, 4), (152, 5), (152, 6), (159, 0), (159, 1), (159, 2), (180, -1), (181, -1), (182, -1), (183, -1), (184, -1), (185, -1)] S G S (hw [(128, 0)] G G199) := (gr_hw (gr_refl [141, 152, 160, 161, 162, 163, 164, 165, 166, 167, 168, 169, 170, 171, 172, 173, 174, 175, 176, 177, 178, 179, 180, 181, 182, 183, 184, 185] [(128, 0), (128, 1), (129, 1), (152, 0), (152, 1), (152, 2), (152, 3), (152, 4), (152, 5), (152, 6), (159, 0), (159, 1), (159, 2), (180, -1), (181, -1), (182, -1), (183, -1), (184, -1), (185, -1)] S G) rfl)
                  have ci205 : CI E S (hw [(128, 0)] G G199) := (ci_hw ci rfl)
                  exact r_retZ hX hP rfl rfl (by omega) (by omega) (by omega) (by omega) ⟨g204, 0, rfl, (by omega), (by omega), ci205⟩
              · skip
                exfalso; omega
            · skip
              exfalso; omega
            · skip
              exfalso; omega
            · skip
              exfalso; omega
            · skip
              exfalso; omega
          · skip
            refine r_ex hX hP 2 (pc' := 79) (st' := [(0, 1), (0, 0), (0, l5_j33), (0, 1), (2, this)]) (lo' := [(0, (2, this)), (1, (0, paper)), (2, (0, name_)), (3, (0, day)), (4, (0, known)), (5, (0, l5_j33))]) rfl ?_
            refine r_callS gd hX hP rfl cs_X11_112 (d' := 0) (mc' := 0) (ms' := 0) (as' := [(0, 1), (0, l5_j33), (0, 0), (0, 1)]) (st := [(2, this)]) (by omega) (by omega) (by omega) rfl rfl (Nat.le_of_ble_eq_true rfl) (c_X11_first E S G 1 l5_j33 0 1 (by omega) (by omega) (by omega) (by omega) (by omega) (by omega) (by omega) (by omega)) ?_
            rintro _ _ _ ⟨rfl, rfl, z206, rfl, (⟨rfl, f207⟩ | ⟨rfl, f208, f209⟩ | ⟨rfl, f210, f211, f212⟩ | ⟨rfl, f213, f214, f215, f216⟩ | ⟨rfl, f217, f218, f219, f220⟩)⟩
            · skip
              refine r_callV gd hX hP rfl cv_X11_90_128 hS (d' := 0) (mc' := 0) (ms' := 0) (as' := [(0, 1)]) (st := []) (by omega) (by omega) (by omega) rfl rfl (Nat.le_of_ble_eq_true rfl) (c_X11_refused E S G this 1 hS (by omega) (by omega)) ?_
              rintro _ _ _ ⟨rfl, ⟨G221, rfl⟩, z222, rfl, (⟨rfl, f223⟩ | ⟨rfl, f224⟩)⟩
              · skip
                refine r_if_eq hX hP rfl (tgt := 90) rfl (by omega) (by omega) (fun c225 => ?_) (fun c225 => ?_)
                · skip
                  exfalso; omega
                · skip
                  refine r_ex hX hP 1 (pc' := 89) (st' := [(0, 0)]) (lo' := [(0, (2, this)), (1, (0, paper)), (2, (0, name_)), (3, (0, day)), (4, (0, known)), (5, (0, l5_j33))]) rfl ?_
                  have g226 : Gr [141, 152, 160, 161, 162, 163, 164, 165, 166, 167, 168, 169, 170, 171, 172, 173, 174, 175, 176, 177, 178, 179, 180, 181, 182, 183, 184, 185] [(128, 0), (128, 1), (129, 1), (152, 0), (152, 1), (152, 2), (152, 3), (152, 4), (152, 5), (152, 6), (159, 0), (159, 1), (159, 2), (180, -1), (181, -1), (182, -1), (183, -1), (184, -1), (185, -1)] S G S (hw [(128, 0)] G G221) := (gr_hw (gr_refl [141, 152, 160, 161, 162, 163, 164, 165, 166, 167, 168, 169, 170, 171, 172, 173, 174, 175, 176, 177, 178, 179, 180, 181, 182, 183, 184, 185] [(128, 0), (128, 1), (129, 1), (152, 0), (152, 1), (152, 2), (152, 3), (152, 4), (152, 5), (152, 6), (159, 0), (159, 1), (159, 2), (180, -1), (181, -1), (182, -1), (183, -1), (184, -1), (185, -1)] S G) rfl)
                  have ci227 : CI E S (hw [(128, 0)] G G221) := (ci_hw ci rfl)
                  exact r_retZ hX hP rfl rfl (by omega) (by omega) (by omega) (by omega) ⟨g226, 0, rfl, (by omega), (by omega), ci227⟩
              · skip
                exfalso; omega
            · skip
              exfalso; omega
            · skip
              exfalso; omega
            · skip
              exfalso; omega
            · skip
              exfalso; omega
        · skip
          refine r_ex hX hP 4 (pc' := 68) (st' := [(2, this), (0, known), (0, 1), (0, l5_j33), (0, 1), (2, this)]) (lo' := [(0, (2, this)), (1, (0, paper)), (2, (0, name_)), (3, (0, day)), (4, (0, known)), (5, (0, l5_j33))]) rfl ?_
          refine r_getI hX hP rfl fl_X11_129_128 hS (fun lf228 lf228e lf228a lf228b => ?_)
          refine r_ic_ge hX hP rfl (tgt := 78) rfl (by omega) (by omega) (by omega) (by omega) (fun c229 => ?_) (fun c229 => ?_)
          · skip
            refine r_ex hX hP 1 (pc' := 79) (st' := [(0, 0), (0, 1), (0, l5_j33), (0, 1), (2, this)]) (lo' := [(0, (2, this)), (1, (0, paper)), (2, (0, name_)), (3, (0, day)), (4, (0, known)), (5, (0, l5_j33))]) rfl ?_
            refine r_callS gd hX hP rfl cs_X11_112 (d' := 0) (mc' := 0) (ms' := 0) (as' := [(0, 1), (0, l5_j33), (0, 1), (0, 0)]) (st := [(2, this)]) (by omega) (by omega) (by omega) rfl rfl (Nat.le_of_ble_eq_true rfl) (c_X11_first E S G 1 l5_j33 1 0 (by omega) (by omega) (by omega) (by omega) (by omega) (by omega) (by omega) (by omega)) ?_
            rintro _ _ _ ⟨rfl, rfl, z230, rfl, (⟨rfl, f231⟩ | ⟨rfl, f232, f233⟩ | ⟨rfl, f234, f235, f236⟩ | ⟨rfl, f237, f238, f239, f240⟩ | ⟨rfl, f241, f242, f243, f244⟩)⟩
            · skip
              refine r_callV gd hX hP rfl cv_X11_90_128 hS (d' := 0) (mc' := 0) (ms' := 0) (as' := [(0, 1)]) (st := []) (by omega) (by omega) (by omega) rfl rfl (Nat.le_of_ble_eq_true rfl) (c_X11_refused E S G this 1 hS (by omega) (by omega)) ?_
              rintro _ _ _ ⟨rfl, ⟨G245, rfl⟩, z246, rfl, (⟨rfl, f247⟩ | ⟨rfl, f248⟩)⟩
              · skip
                refine r_if_eq hX hP rfl (tgt := 90) rfl (by omega) (by omega) (fun c249 => ?_) (fun c249 => ?_)
                · skip
                  exfalso; omega
                · skip
                  refine r_ex hX hP 1 (pc' := 89) (st' := [(0, 0)]) (lo' := [(0, (2, this)), (1, (0, paper)), (2, (0, name_)), (3, (0, day)), (4, (0, known)), (5, (0, l5_j33))]) rfl ?_
                  have g250 : Gr [141, 152, 160, 161, 162, 163, 164, 165, 166, 167, 168, 169, 170, 171, 172, 173, 174, 175, 176, 177, 178, 179, 180, 181, 182, 183, 184, 185] [(128, 0), (128, 1), (129, 1), (152, 0), (152, 1), (152, 2), (152, 3), (152, 4), (152, 5), (152, 6), (159, 0), (159, 1), (159, 2), (180, -1), (181, -1), (182, -1), (183, -1), (184, -1), (185, -1)] S G S (hw [(128, 0)] G G245) := (gr_hw (gr_refl [141, 152, 160, 161, 162, 163, 164, 165, 166, 167, 168, 169, 170, 171, 172, 173, 174, 175, 176, 177, 178, 179, 180, 181, 182, 183, 184, 185] [(128, 0), (128, 1), (129, 1), (152, 0), (152, 1), (152, 2), (152, 3), (152, 4), (152, 5), (152, 6), (159, 0), (159, 1), (159, 2), (180, -1), (181, -1), (182, -1), (183, -1), (184, -1), (185, -1)] S G) rfl)
                  have ci251 : CI E S (hw [(128, 0)] G G245) := (ci_hw ci rfl)
                  exact r_retZ hX hP rfl rfl (by omega) (by omega) (by omega) (by omega) ⟨g250, 0, rfl, (by omega), (by omega), ci251⟩
              · skip
                exfalso; omega
            · skip
              exfalso; omega
            · skip
              exfalso; omega
            · skip
              exfalso; omega
            · skip
              exfalso; omega
          · skip
            refine r_ex hX hP 2 (pc' := 79) (st' := [(0, 1), (0, 1), (0, l5_j33), (0, 1), (2, this)]) (lo' := [(0, (2, this)), (1, (0, paper)), (2, (0, name_)), (3, (0, day)), (4, (0, known)), (5, (0, l5_j33))]) rfl ?_
            refine r_callS gd hX hP rfl cs_X11_112 (d' := 0) (mc' := 0) (ms' := 0) (as' := [(0, 1), (0, l5_j33), (0, 1), (0, 1)]) (st := [(2, this)]) (by omega) (by omega) (by omega) rfl rfl (Nat.le_of_ble_eq_true rfl) (c_X11_first E S G 1 l5_j33 1 1 (by omega) (by omega) (by omega) (by omega) (by omega) (by omega) (by omega) (by omega)) ?_
            rintro _ _ _ ⟨rfl, rfl, z252, rfl, (⟨rfl, f253⟩ | ⟨rfl, f254, f255⟩ | ⟨rfl, f256, f257, f258⟩ | ⟨rfl, f259, f260, f261, f262⟩ | ⟨rfl, f263, f264, f265, f266⟩)⟩
            · skip
              refine r_callV gd hX hP rfl cv_X11_90_128 hS (d' := 0) (mc' := 0) (ms' := 0) (as' := [(0, 1)]) (st := []) (by omega) (by omega) (by omega) rfl rfl (Nat.le_of_ble_eq_true rfl) (c_X11_refused E S G this 1 hS (by omega) (by omega)) ?_
              rintro _ _ _ ⟨rfl, ⟨G267, rfl⟩, z268, rfl, (⟨rfl, f269⟩ | ⟨rfl, f270⟩)⟩
              · skip
                refine r_if_eq hX hP rfl (tgt := 90) rfl (by omega) (by omega) (fun c271 => ?_) (fun c271 => ?_)
                · skip
                  exfalso; omega
                · skip
                  refine r_ex hX hP 1 (pc' := 89) (st' := [(0, 0)]) (lo' := [(0, (2, this)), (1, (0, paper)), (2, (0, name_)), (3, (0, day)), (4, (0, known)), (5, (0, l5_j33))]) rfl ?_
                  have g272 : Gr [141, 152, 160, 161, 162, 163, 164, 165, 166, 167, 168, 169, 170, 171, 172, 173, 174, 175, 176, 177, 178, 179, 180, 181, 182, 183, 184, 185] [(128, 0), (128, 1), (129, 1), (152, 0), (152, 1), (152, 2), (152, 3), (152, 4), (152, 5), (152, 6), (159, 0), (159, 1), (159, 2), (180, -1), (181, -1), (182, -1), (183, -1), (184, -1), (185, -1)] S G S (hw [(128, 0)] G G267) := (gr_hw (gr_refl [141, 152, 160, 161, 162, 163, 164, 165, 166, 167, 168, 169, 170, 171, 172, 173, 174, 175, 176, 177, 178, 179, 180, 181, 182, 183, 184, 185] [(128, 0), (128, 1), (129, 1), (152, 0), (152, 1), (152, 2), (152, 3), (152, 4), (152, 5), (152, 6), (159, 0), (159, 1), (159, 2), (180, -1), (181, -1), (182, -1), (183, -1), (184, -1), (185, -1)] S G) rfl)
                  have ci273 : CI E S (hw [(128, 0)] G G267) := (ci_hw ci rfl)
                  exact r_retZ hX hP rfl rfl (by omega) (by omega) (by omega) (by omega) ⟨g272, 0, rfl, (by omega), (by omega), ci273⟩
              · skip
                exfalso; omega
            · skip
              exfalso; omega
            · skip
              exfalso; omega
            · skip
              exfalso; omega
            · skip
              exfalso; omega
  refine r_ex hX hP 3 (pc' := 5) (st' := [(0, 9999), (0, 0), (0, name_)]) (lo' := [(0, (2, this)), (1, (0, paper)), (2, (0, name_)), (3, (0, day)), (4, (0, known))]) rfl ?_
  refine r_callS gd hX hP rfl cs_X11_103 (d' := 0) (mc' := 0) (ms' := 0) (as' := [(0, name_), (0, 0), (0, 9999)]) (st := []) (by omega) (by omega) (by omega) rfl rfl (Nat.le_of_ble_eq_true rfl) (c_X11_within E S G name_ 0 9999 (by omega) (by omega) (by omega) (by omega) (by omega) (by omega)) ?_
  rintro _ _ _ ⟨rfl, rfl, z274, rfl, (⟨rfl, f275, f276⟩ | ⟨rfl, f277⟩)⟩
  · skip
    refine r_if_eq hX hP rfl (tgt := 26) rfl (by omega) (by omega) (fun c278 => ?_) (fun c278 => ?_)
    · skip
      exfalso; omega
    · skip
      refine r_ex hX hP 1 (pc' := 12) (st' := [(0, day)]) (lo' := [(0, (2, this)), (1, (0, paper)), (2, (0, name_)), (3, (0, day)), (4, (0, known))]) rfl ?_
      refine r_callS gd hX hP rfl cs_X11_86 (d' := 1) (mc' := 0) (ms' := 0) (as' := [(0, day)]) (st := []) (by omega) (by omega) (by omega) rfl rfl (Nat.le_of_ble_eq_true rfl) (c_X11_isDay E S G day (by omega) (by omega)) ?_
      rintro _ _ _ ⟨rfl, rfl, z279, rfl, (⟨rfl, f280, f281⟩ | ⟨rfl, f282⟩)⟩
      · skip
        refine r_if_eq hX hP rfl (tgt := 26) rfl (by omega) (by omega) (fun c283 => ?_) (fun c283 => ?_)
        · skip
          exfalso; omega
        · skip
          refine r_ex hX hP 1 (pc' := 20) (st' := [(0, known)]) (lo' := [(0, (2, this)), (1, (0, paper)), (2, (0, name_)), (3, (0, day)), (4, (0, known))]) rfl ?_
          refine r_callS gd hX hP rfl cs_X11_86 (d' := 1) (mc' := 0) (ms' := 0) (as' := [(0, known)]) (st := []) (by omega) (by omega) (by omega) rfl rfl (Nat.le_of_ble_eq_true rfl) (c_X11_isDay E S G known (by omega) (by omega)) ?_
          rintro _ _ _ ⟨rfl, rfl, z284, rfl, (⟨rfl, f285, f286⟩ | ⟨rfl, f287⟩)⟩
          · skip
            refine r_if_ne hX hP rfl (tgt := 30) rfl (by omega) (by omega) (fun c288 => ?_) (fun c288 => ?_)
            · skip
              refine r_ex hX hP 2 (pc' := 33) (st' := []) (lo' := [(0, (2, this)), (1, (0, paper)), (2, (0, name_)), (3, (0, day)), (4, (0, known)), (5, (0, 0))]) rfl ?_
              exact j33 0 (by omega) (by omega) (by omega)
            · skip
              exfalso; omega
          · skip
            refine r_if_ne hX hP rfl (tgt := 30) rfl (by omega) (by omega) (fun c289 => ?_) (fun c289 => ?_)
            · skip
              exfalso; omega
            · skip
              refine r_ex hX hP 3 (pc' := 33) (st' := []) (lo' := [(0, (2, this)), (1, (0, paper)), (2, (0, name_)), (3, (0, day)), (4, (0, known)), (5, (0, 1))]) rfl ?_
              exact j33 1 (by omega) (by omega) (by omega)
      · skip
        refine r_if_eq hX hP rfl (tgt := 26) rfl (by omega) (by omega) (fun c290 => ?_) (fun c290 => ?_)
        · skip
          refine r_ex hX hP 3 (pc' := 33) (st' := []) (lo' := [(0, (2, this)), (1, (0, paper)), (2, (0, name_)), (3, (0, day)), (4, (0, known)), (5, (0, 1))]) rfl ?_
          exact j33 1 (by omega) (by omega) (by omega)
        · skip
          exfalso; omega
  · skip
    refine r_if_eq hX hP rfl (tgt := 26) rfl (by omega) (by omega) (fun c291 => ?_) (fun c291 => ?_)
    · skip
      refine r_ex hX hP 3 (pc' := 33) (st' := []) (lo' := [(0, (2, this)), (1, (0, paper)), (2, (0, name_)), (3, (0, day)), (4, (0, known)), (5, (0, 1))]) rfl ?_
      exact j33 1 (by omega) (by omega) (by omega)
    · skip
      exfalso; omega
set_option maxRecDepth 100000 in
set_option maxHeartbeats 4000000 in
theorem c_X11_due (E : En) (S : Sg) (G : Gh) (this : Int) (trade : Int) (event : Int) (paper : Int) (hS : S this = 128) (trl : Int) (trl_e : trl = G 128 this 7) (trl_s : S trl = 155) (trn : Int) (trn_e : trn = G 155 trl 2) (evl : Int) (evl_e : evl = G 128 this 8) (evl_s : S evl = 156) (evn : Int) (evn_e : evn = G 156 evl 2) (trade_a : (-2147483648) ≤ trade) (trade_b : trade ≤ 2147483647) (event_a : (-2147483648) ≤ event) (event_b : event ≤ 2147483647) (paper_a : (-2147483648) ≤ paper) (paper_b : paper ≤ 2147483647) (ci : CI E S G) : Calls E mX11_due [(2, this), (0, trade), (0, event), (0, paper)] S G 9 704 6964 (fun r S' G' => Gr [95, 97, 99, 100, 101, 102, 103, 104, 133, 147] [(93, -1), (95, -1), (96, -1), (97, -1), (99, -1), (115, -1), (116, -1), (118, -1), (119, -1), (125, -1), (126, -1), (127, -1), (128, 0), (128, 19), (129, 1), (129, 2), (129, 15), (129, 16), (147, 0), (147, 1), (147, 2), (147, 3), (147, 4), (147, 5), (147, 6), (147, 7), (147, 8), (147, 9), (147, 10), (147, 11), (147, 12), (147, 13), (147, 14), (147, 15), (147, 16)] S G S' G' ∧ ∃ z : Int, r = some (1, z) ∧ (-9223372036854775808) ≤ z ∧ z ≤ 9223372036854775807 ∧ CI E S' G') := by
  refine calls_by [(0, (2, this)), (1, (0, trade)), (2, (0, event)), (3, (0, paper))] rfl rfl (Nat.le_of_ble_eq_true rfl) (fun X hX => ?_)
  have hP := hPX11_due
  refine r_peekI hX (tl_155 2 rfl (by decide)) trl_s (fun trn_o trn_oe trn_oa trn_ob => ?_)
  obtain rfl : trn = trn_o := trn_e.trans trn_oe.symm
  refine r_peekI hX (tl_156 2 rfl (by decide)) evl_s (fun evn_o evn_oe evn_oa evn_ob => ?_)
  obtain rfl : evn = evn_o := evn_e.trans evn_oe.symm
  have j35 : ∀ (l4_j35 : Int), 0 ≤ l4_j35 → l4_j35 ≤ 1 → (l4_j35 = 1 ∨ (0 ≤ trade ∧ trade + 1 ≤ trn ∧ 0 ≤ event ∧ event + 1 ≤ evn)) → X 0 0 35 [] [(0, (2, this)), (1, (0, trade)), (2, (0, event)), (3, (0, paper)), (4, (0, l4_j35))] S G := by
    intro l4_j35 yj35_0 yj35_1 yj35_2
    refine r_ex hX hP 2 (pc' := 38) (st' := [(0, l4_j35), (2, this)]) (lo' := [(0, (2, this)), (1, (0, trade)), (2, (0, event)), (3, (0, paper)), (4, (0, l4_j35))]) rfl ?_
    refine r_if_eq hX hP rfl (tgt := 45) rfl (by omega) (by omega) (fun c1 => ?_) (fun c1 => ?_)
    · skip
      refine r_ex hX hP 1 (pc' := 46) (st' := [(0, 0), (2, this)]) (lo' := [(0, (2, this)), (1, (0, trade)), (2, (0, event)), (3, (0, paper)), (4, (0, l4_j35))]) rfl ?_
      refine r_callV gd hX hP rfl cv_X11_90_128 hS (d' := 0) (mc' := 0) (ms' := 0) (as' := [(0, 0)]) (st := []) (by omega) (by omega) (by omega) rfl rfl (Nat.le_of_ble_eq_true rfl) (c_X11_refused E S G this 0 hS (by omega) (by omega)) ?_
      rintro _ _ _ ⟨rfl, ⟨G2, rfl⟩, z3, rfl, (⟨rfl, f4⟩ | ⟨rfl, f5⟩)⟩
      · skip
        exfalso; omega
      · skip
        refine r_if_eq hX hP rfl (tgt := 56) rfl (by omega) (by omega) (fun c6 => ?_) (fun c6 => ?_)
        · skip
          refine r_ex hX hP 1 (pc' := 57) (st' := [(2, this)]) (lo' := [(0, (2, this)), (1, (0, trade)), (2, (0, event)), (3, (0, paper)), (4, (0, l4_j35))]) rfl ?_
          refine r_getKR hX hP rfl fl_X11_33_128 hS (x := trl) trl_e ?_
          refine r_ex hX hP 1 (pc' := 61) (st' := [(0, trade), (2, trl)]) (lo' := [(0, (2, this)), (1, (0, trade)), (2, (0, event)), (3, (0, paper)), (4, (0, l4_j35))]) rfl ?_
          have ci7 : CI E S (hw [(128, 0)] G G2) := (ci_hw ci rfl)
          refine r_callV gd hX hP rfl cv_X11_196_155 trl_s (d' := 2) (mc' := 0) (ms' := 0) (as' := [(0, trade)]) (st := []) (by omega) (by omega) (by omega) rfl rfl (Nat.le_of_ble_eq_true rfl) (c_get_Ltr E S (hw [(128, 0)] G G2) trl trade trl_s trn trn_e (by omega) (by omega) (by omega) ci7) ?_
          rintro _ _ _ ⟨rfl, rfl, z8, rfl, z8s⟩
          refine r_cast hX hP rfl (tbg sg3 16 rfl rfl) ck_140_X1 z8s ?_
          refine r_ex hX hP 2 (pc' := 70) (st' := [(2, this)]) (lo' := [(0, (2, this)), (1, (0, trade)), (2, (0, event)), (3, (0, paper)), (4, (0, l4_j35)), (5, (2, z8))]) rfl ?_
          refine r_getKR hX hP rfl fl_X11_37_128 hS (x := evl) evl_e ?_
          refine r_ex hX hP 1 (pc' := 74) (st' := [(0, event), (2, evl)]) (lo' := [(0, (2, this)), (1, (0, trade)), (2, (0, event)), (3, (0, paper)), (4, (0, l4_j35)), (5, (2, z8))]) rfl ?_
          refine r_callV gd hX hP rfl cv_X11_196_156 evl_s (d' := 2) (mc' := 0) (ms' := 0) (as' := [(0, event)]) (st := []) (by omega) (by omega) (by omega) rfl rfl (Nat.le_of_ble_eq_true rfl) (c_get_Lev E S (hw [(128, 0)] G G2) evl event evl_s evn evn_e (by omega) (by omega) (by omega) ci7) ?_
          rintro _ _ _ ⟨rfl, rfl, z9, rfl, z9s⟩
          refine r_cast hX hP rfl (tbg sg4 200 rfl rfl) ck_137_X2 z9s ?_
          refine r_ex hX hP 1 (pc' := 82) (st' := []) (lo' := [(0, (2, this)), (1, (0, trade)), (2, (0, event)), (3, (0, paper)), (4, (0, l4_j35)), (5, (2, z8)), (6, (2, z9))]) rfl ?_
          have j143 : ∀ (l7_j143 : Int), 0 ≤ l7_j143 → l7_j143 ≤ 1 → X 0 0 143 [] [(0, (2, this)), (1, (0, trade)), (2, (0, event)), (3, (0, paper)), (4, (0, l4_j35)), (5, (2, z8)), (6, (2, z9)), (7, (0, l7_j143))] S (hw [(128, 0)] G G2) := by
            intro l7_j143 yj143_0 yj143_1
            refine r_ex hX hP 2 (pc' := 146) (st' := [(0, l7_j143), (2, this)]) (lo' := [(0, (2, this)), (1, (0, trade)), (2, (0, event)), (3, (0, paper)), (4, (0, l4_j35)), (5, (2, z8)), (6, (2, z9)), (7, (0, l7_j143))]) rfl ?_
            refine r_if_eq hX hP rfl (tgt := 154) rfl (by omega) (by omega) (fun c10 => ?_) (fun c10 => ?_)
            · skip
              refine r_ex hX hP 1 (pc' := 155) (st' := [(0, 0), (2, this)]) (lo' := [(0, (2, this)), (1, (0, trade)), (2, (0, event)), (3, (0, paper)), (4, (0, l4_j35)), (5, (2, z8)), (6, (2, z9)), (7, (0, l7_j143))]) rfl ?_
              refine r_callV gd hX hP rfl cv_X11_90_128 hS (d' := 0) (mc' := 0) (ms' := 0) (as' := [(0, 0)]) (st := []) (by omega) (by omega) (by omega) rfl rfl (Nat.le_of_ble_eq_true rfl) (c_X11_refused E S (hw [(128, 0)] G G2) this 0 hS (by omega) (by omega)) ?_
              rintro _ _ _ ⟨rfl, ⟨G11, rfl⟩, z12, rfl, (⟨rfl, f13⟩ | ⟨rfl, f14⟩)⟩
              · skip
                exfalso; omega
              · skip
                refine r_if_eq hX hP rfl (tgt := 165) rfl (by omega) (by omega) (fun c15 => ?_) (fun c15 => ?_)
                · skip
                  refine r_ex hX hP 1 (pc' := 166) (st' := [(2, this)]) (lo' := [(0, (2, this)), (1, (0, trade)), (2, (0, event)), (3, (0, paper)), (4, (0, l4_j35)), (5, (2, z8)), (6, (2, z9)), (7, (0, l7_j143))]) rfl ?_
                  refine r_getR hX hP rfl fl_X11_16_128 hS (fun rf16 rf16e rf16s => ?_)
                  refine r_ex hX hP 1 (pc' := 171) (st' := [(2, z8), (2, rf16)]) (lo' := [(0, (2, this)), (1, (0, trade)), (2, (0, event)), (3, (0, paper)), (4, (0, l4_j35)), (5, (2, z8)), (6, (2, z9)), (7, (0, l7_j143))]) rfl ?_
                  refine r_getI hX hP rfl fl_X11_283_140 z8s (fun df17 df17e df17a df17b => ?_)
                  have ci18 : CI E S (hw [(128, 0)] (hw [(128, 0)] G G2) G11) := (ci_hw ci7 rfl)
                  refine r_callV gd hX hP rfl cv_X11_233_129 rf16s (d' := 6) (mc' := 0) (ms' := 0) (as' := [(0, df17)]) (st := []) (by omega) (by omega) (by omega) rfl rfl (Nat.le_of_ble_eq_true rfl) (c_X8_to E S (hw [(128, 0)] (hw [(128, 0)] G G2) G11) rf16 df17 rf16s (by omega) (by omega) ci18) ?_
                  rintro _ _ _ ⟨rfl, ⟨G19, rfl⟩, rfl, -⟩
                  refine r_ex hX hP 1 (pc' := 178) (st' := [(2, this)]) (lo' := [(0, (2, this)), (1, (0, trade)), (2, (0, event)), (3, (0, paper)), (4, (0, l4_j35)), (5, (2, z8)), (6, (2, z9)), (7, (0, l7_j143))]) rfl ?_
                  refine r_getKR hX hP rfl fl_X11_16_128 hS (x := rf16) rf16e ?_
                  refine r_getR hX hP rfl fl_X11_286_129 rf16s (fun sf20 sf20e sf20s => ?_)
                  refine r_ex hX hP 1 (pc' := 185) (st' := [(0, trade), (2, sf20)]) (lo' := [(0, (2, this)), (1, (0, trade)), (2, (0, event)), (3, (0, paper)), (4, (0, l4_j35)), (5, (2, z8)), (6, (2, z9)), (7, (0, l7_j143))]) rfl ?_
                  refine r_iald hX hP rfl al_115 sf20s (by omega) (by omega) (fun x21 x21e x21a x21b => ?_)
                  refine r_ex hX hP 1 (pc' := 187) (st' := [(0, (-1)), (0, x21)]) (lo' := [(0, (2, this)), (1, (0, trade)), (2, (0, event)), (3, (0, paper)), (4, (0, l4_j35)), (5, (2, z8)), (6, (2, z9)), (7, (0, l7_j143))]) rfl ?_
                  refine r_ic_ne hX hP rfl (tgt := 230) rfl (by omega) (by omega) (by omega) (by omega) (fun c22 => ?_) (fun c22 => ?_)
                  · skip
                    refine r_ex hX hP 3 (pc' := 233) (st' := [(0, trade), (2, this), (2, this)]) (lo' := [(0, (2, this)), (1, (0, trade)), (2, (0, event)), (3, (0, paper)), (4, (0, l4_j35)), (5, (2, z8)), (6, (2, z9)), (7, (0, l7_j143))]) rfl ?_
                    refine r_callV gd hX hP rfl cv_X11_306_128 hS (d' := 0) (mc' := 0) (ms' := 0) (as' := [(0, trade)]) (st := [(2, this)]) (by omega) (by omega) (by omega) rfl rfl (Nat.le_of_ble_eq_true rfl) (c_X11_settledStatus E S (hw [(93, -1), (95, -1), (96, -1), (97, -1), (115, -1), (116, -1), (118, -1), (119, -1), (125, -1), (126, -1), (127, -1), (129, 1), (129, 2), (129, 15), (129, 16)] (hw [(128, 0)] (hw [(128, 0)] G G2) G11) G19) this trade hS (by omega) (by omega)) ?_
                    rintro _ _ _ ⟨rfl, rfl, z23, rfl, z23a, z23b⟩
                    refine r_callV gd hX hP rfl cv_X11_90_128 hS (d' := 0) (mc' := 0) (ms' := 0) (as' := [(0, z23)]) (st := []) (by omega) (by omega) (by omega) rfl rfl (Nat.le_of_ble_eq_true rfl) (c_X11_refused E S (hw [(93, -1), (95, -1), (96, -1), (97, -1), (115, -1), (116, -1), (118, -1), (119, -1), (125, -1), (126, -1), (127, -1), (129, 1), (129, 2), (129, 15), (129, 16)] (hw [(128, 0)] (hw [(128, 0)] G G2) G11) G19) this z23 hS (by omega) (by omega)) ?_
                    rintro _ _ _ ⟨rfl, ⟨G24, rfl⟩, z25, rfl, (⟨rfl, f26⟩ | ⟨rfl, f27⟩)⟩
                    · skip
                      refine r_if_eq hX hP rfl (tgt := 246) rfl (by omega) (by omega) (fun c28 => ?_) (fun c28 => ?_)
                      · skip
                        exfalso; omega
                      · skip
                        refine r_ldc2 hX hP rfl (v := (-1)) (tbg sg5 231 rfl rfl) ?_
                        have g29 : Gr [95, 97, 99, 100, 101, 102, 103, 104, 133, 147] [(93, -1), (95, -1), (96, -1), (97, -1), (99, -1), (115, -1), (116, -1), (118, -1), (119, -1), (125, -1), (126, -1), (127, -1), (128, 0), (128, 19), (129, 1), (129, 2), (129, 15), (129, 16), (147, 0), (147, 1), (147, 2), (147, 3), (147, 4), (147, 5), (147, 6), (147, 7), (147, 8), (147, 9), (147, 10), (147, 11), (147, 12), (147, 13), (147, 14), (147, 15), (147, 16)] S G S (hw [(128, 0)] (hw [(93, -1), (95, -1), (96, -1), (97, -1), (115, -1), (116, -1), (118, -1), (119, -1), (125, -1), (126, -1), (127, -1), (129, 1), (129, 2), (129, 15), (129, 16)] (hw [(128, 0)] (hw [(128, 0)] G G2) G11) G19) G24) := (gr_hw (gr_hw (gr_hw (gr_hw (gr_refl [95, 97, 99, 100, 101, 102, 103, 104, 133, 147] [(93, -1), (95, -1), (96, -1), (97, -1), (99, -1), (115, -1), (116, -1), (118, -1), (119, -1), (125, -1), (126, -1), (127, -1), (128, 0), (128, 19), (129, 1), (129, 2), (129, 15), (129, 16), (147, 0), (147, 1), (147, 2), (147, 3), (147, 4), (147, 5), (147, 6), (147, 7), (147, 8), (147, 9), (147, 10), (147, 11), (147, 12), (147, 13), (147, 14), (147, 15), (147, 16)] S G) rfl) rfl) rfl) rfl)
                        have ci30 : CI E S (hw [(128, 0)] (hw [(93, -1), (95, -1), (96, -1), (97, -1), (115, -1), (116, -1), (118, -1), (119, -1), (125, -1), (126, -1), (127, -1), (129, 1), (129, 2), (129, 15), (129, 16)] (hw [(128, 0)] (hw [(128, 0)] G G2) G11) G19) G24) := (ci_hw (ci_hw ci18 rfl) rfl)
                        exact r_retL hX hP rfl rfl (by omega) (by omega) ⟨g29, (-1), rfl, (by omega), (by omega), ci30⟩
                    · skip
                      refine r_if_eq hX hP rfl (tgt := 246) rfl (by omega) (by omega) (fun c31 => ?_) (fun c31 => ?_)
                      · skip
                        refine r_ex hX hP 2 (pc' := 250) (st' := [(2, z9), (2, z8)]) (lo' := [(0, (2, this)), (1, (0, trade)), (2, (0, event)), (3, (0, paper)), (4, (0, l4_j35)), (5, (2, z8)), (6, (2, z9)), (7, (0, l7_j143))]) rfl ?_
                        refine r_callS gd hX hP rfl cs_X11_309 (d' := 0) (mc' := 0) (ms' := 0) (as' := [(2, z8), (2, z9)]) (st := []) (by omega) (by omega) (by omega) rfl rfl (Nat.le_of_ble_eq_true rfl) (c_X11_owingSide E S (hw [(128, 0)] (hw [(93, -1), (95, -1), (96, -1), (97, -1), (115, -1), (116, -1), (118, -1), (119, -1), (125, -1), (126, -1), (127, -1), (129, 1), (129, 2), (129, 15), (129, 16)] (hw [(128, 0)] (hw [(128, 0)] G G2) G11) G19) G24) z8 z9 z8s z9s) ?_
                        rintro _ _ _ ⟨rfl, rfl, z32, rfl, z32a, z32b⟩
                        refine r_i2l hX hP rfl (by omega) (by omega) ?_
                        refine r_ex hX hP 1 (pc' := 256) (st' := [(2, z9), (1, z32)]) (lo' := [(0, (2, this)), (1, (0, trade)), (2, (0, event)), (3, (0, paper)), (4, (0, l4_j35)), (5, (2, z8)), (6, (2, z9)), (7, (0, l7_j143))]) rfl ?_
                        refine r_getR hX hP rfl fl_X11_200_137 z9s (fun tf33 tf33e tf33s => ?_)
                        refine r_ex hX hP 1 (pc' := 261) (st' := [(2, z8), (2, tf33), (1, z32)]) (lo' := [(0, (2, this)), (1, (0, trade)), (2, (0, event)), (3, (0, paper)), (4, (0, l4_j35)), (5, (2, z8)), (6, (2, z9)), (7, (0, l7_j143))]) rfl ?_
                        refine r_getI hX hP rfl fl_X11_313_140 z8s (fun nf34 nf34e nf34a nf34b => ?_)
                        refine r_ex hX hP 1 (pc' := 265) (st' := [(0, paper), (0, nf34), (2, tf33), (1, z32)]) (lo' := [(0, (2, this)), (1, (0, trade)), (2, (0, event)), (3, (0, paper)), (4, (0, l4_j35)), (5, (2, z8)), (6, (2, z9)), (7, (0, l7_j143))]) rfl ?_
                        refine r_callS gd hX hP rfl cs_X11_316 (d' := 4) (mc' := 0) (ms' := 0) (as' := [(2, tf33), (0, nf34), (0, paper)]) (st := [(1, z32)]) (by omega) (by omega) (by omega) rfl rfl (Nat.le_of_ble_eq_true rfl) (c_X11_givenTo E S (hw [(128, 0)] (hw [(93, -1), (95, -1), (96, -1), (97, -1), (115, -1), (116, -1), (118, -1), (119, -1), (125, -1), (126, -1), (127, -1), (129, 1), (129, 2), (129, 15), (129, 16)] (hw [(128, 0)] (hw [(128, 0)] G G2) G11) G19) G24) tf33 nf34 paper tf33s (by omega) (by omega) (by omega) (by omega)) ?_
                        rintro _ _ _ ⟨rfl, ⟨G35, rfl⟩, z36, rfl, z36a, z36b⟩
                        refine r_ex hX hP 1 (pc' := 269) (st' := [(1, (z32 * z36))]) (lo' := [(0, (2, this)), (1, (0, trade)), (2, (0, event)), (3, (0, paper)), (4, (0, l4_j35)), (5, (2, z8)), (6, (2, z9)), (7, (0, l7_j143))]) rfl ?_
                        refine r_hvL hX (fun w37 w37a w37b w37e => ?_)
                        have g38 : Gr [95, 97, 99, 100, 101, 102, 103, 104, 133, 147] [(93, -1), (95, -1), (96, -1), (97, -1), (99, -1), (115, -1), (116, -1), (118, -1), (119, -1), (125, -1), (126, -1), (127, -1), (128, 0), (128, 19), (129, 1), (129, 2), (129, 15), (129, 16), (147, 0), (147, 1), (147, 2), (147, 3), (147, 4), (147, 5), (147, 6), (147, 7), (147, 8), (147, 9), (147, 10), (147, 11), (147, 12), (147, 13), (147, 14), (147, 15), (147, 16)] S G S (hw [(119, -1), (125, -1), (126, -1), (127, -1)] (hw [(128, 0)] (hw [(93, -1), (95, -1), (96, -1), (97, -1), (115, -1), (116, -1), (118, -1), (119, -1), (125, -1), (126, -1), (127, -1), (129, 1), (129, 2), (129, 15), (129, 16)] (hw [(128, 0)] (hw [(128, 0)] G G2) G11) G19) G24) G35) := (gr_hw (gr_hw (gr_hw (gr_hw (gr_hw (gr_refl [95, 97, 99, 100, 101, 102, 103, 104, 133, 147] [(93, -1), (95, -1), (96, -1), (97, -1), (99, -1), (115, -1), (116, -1), (118, -1), (119, -1), (125, -1), (126, -1), (127, -1), (128, 0), (128, 19), (129, 1), (129, 2), (129, 15), (129, 16), (147, 0), (147, 1), (147, 2), (147, 3), (147, 4), (147, 5), (147, 6), (147, 7), (147, 8), (147, 9), (147, 10), (147, 11), (147, 12), (147, 13), (147, 14), (147, 15), (147, 16)] S G) rfl) rfl) rfl) rfl) rfl)
                        have ci39 : CI E S (hw [(119, -1), (125, -1), (126, -1), (127, -1)] (hw [(128, 0)] (hw [(93, -1), (95, -1), (96, -1), (97, -1), (115, -1), (116, -1), (118, -1), (119, -1), (125, -1), (126, -1), (127, -1), (129, 1), (129, 2), (129, 15), (129, 16)] (hw [(128, 0)] (hw [(128, 0)] G G2) G11) G19) G24) G35) := (ci_hw (ci_hw (ci_hw ci18 rfl) rfl) rfl)
                        exact r_retL hX hP rfl rfl (by omega) (by omega) ⟨g38, w37, rfl, (by omega), (by omega), ci39⟩
                      · skip
                        exfalso; omega
                  · skip
                    refine r_ex hX hP 2 (pc' := 192) (st' := [(2, this), (2, this)]) (lo' := [(0, (2, this)), (1, (0, trade)), (2, (0, event)), (3, (0, paper)), (4, (0, l4_j35)), (5, (2, z8)), (6, (2, z9)), (7, (0, l7_j143))]) rfl ?_
                    refine r_getN hX hP rfl fl_X11_293_128 hS (fun ff40 ff40e ff40s => ?_)
                    refine r_ifnn hX hP rfl (tgt := 212) rfl (fun c41 => ?_) (fun c41 => ?_)
                    · skip
                      have s42 := nul_lab ff40s c41
                      refine r_ex hX hP 1 (pc' := 213) (st' := [(2, this), (2, this)]) (lo' := [(0, (2, this)), (1, (0, trade)), (2, (0, event)), (3, (0, paper)), (4, (0, l4_j35)), (5, (2, z8)), (6, (2, z9)), (7, (0, l7_j143))]) rfl ?_
                      refine r_getKN hX hP rfl fl_X11_293_128 hS (x := ff40) ff40e ?_
                      refine r_putNK hX hP rfl fp_X11_293_128 hS (by decide) (Or.inr s42) (fun h43 => ?_)
                      refine r_ex hX hP 1 (pc' := 220) (st' := [(2, this)]) (lo' := [(0, (2, this)), (1, (0, trade)), (2, (0, event)), (3, (0, paper)), (4, (0, l4_j35)), (5, (2, z8)), (6, (2, z9)), (7, (0, l7_j143))]) rfl ?_
                      refine r_getKN hX hP rfl fl_X11_293_128 hS (x := ff40) h43 ?_
                      refine r_ex hX hP 1 (pc' := 224) (st' := [(2, this), (2, ff40)]) (lo' := [(0, (2, this)), (1, (0, trade)), (2, (0, event)), (3, (0, paper)), (4, (0, l4_j35)), (5, (2, z8)), (6, (2, z9)), (7, (0, l7_j143))]) rfl ?_
                      refine r_getKR hX hP rfl fl_X11_16_128 hS (x := rf16) rf16e ?_
                      have ci44 : CI E S (up (hw [(93, -1), (95, -1), (96, -1), (97, -1), (115, -1), (116, -1), (118, -1), (119, -1), (125, -1), (126, -1), (127, -1), (129, 1), (129, 2), (129, 15), (129, 16)] (hw [(128, 0)] (hw [(128, 0)] G G2) G11) G19) 128 this 19 ff40) := (ci_up (ci_hw ci18 rfl) rfl)
                      refine r_callV gd hX hP rfl cv_X11_302_133 s42 (d' := 8) (mc' := 0) (ms' := 0) (as' := [(2, rf16)]) (st := []) (by omega) (by omega) (by omega) rfl rfl (Nat.le_of_ble_eq_true rfl) (c_X3_goOn E S (up (hw [(93, -1), (95, -1), (96, -1), (97, -1), (115, -1), (116, -1), (118, -1), (119, -1), (125, -1), (126, -1), (127, -1), (129, 1), (129, 2), (129, 15), (129, 16)] (hw [(128, 0)] (hw [(128, 0)] G G2) G11) G19) 128 this 19 ff40) ff40 rf16 s42 rf16s ci44) ?_
                      rintro _ _ _ ⟨rfl, ⟨G45, rfl⟩, rfl, -⟩
                      refine r_ex hX hP 3 (pc' := 233) (st' := [(0, trade), (2, this), (2, this)]) (lo' := [(0, (2, this)), (1, (0, trade)), (2, (0, event)), (3, (0, paper)), (4, (0, l4_j35)), (5, (2, z8)), (6, (2, z9)), (7, (0, l7_j143))]) rfl ?_
                      refine r_callV gd hX hP rfl cv_X11_306_128 hS (d' := 0) (mc' := 0) (ms' := 0) (as' := [(0, trade)]) (st := [(2, this)]) (by omega) (by omega) (by omega) rfl rfl (Nat.le_of_ble_eq_true rfl) (c_X11_settledStatus E S (hw [(95, -1), (97, -1), (99, -1), (115, -1), (119, -1), (125, -1), (126, -1), (127, -1)] (up (hw [(93, -1), (95, -1), (96, -1), (97, -1), (115, -1), (116, -1), (118, -1), (119, -1), (125, -1), (126, -1), (127, -1), (129, 1), (129, 2), (129, 15), (129, 16)] (hw [(128, 0)] (hw [(128, 0)] G G2) G11) G19) 128 this 19 ff40) G45) this trade hS (by omega) (by omega)) ?_
                      rintro _ _ _ ⟨rfl, rfl, z46, rfl, z46a, z46b⟩
                      refine r_callV gd hX hP rfl cv_X11_90_128 hS (d' := 0) (mc' := 0) (ms' := 0) (as' := [(0, z46)]) (st := []) (by omega) (by omega) (by omega) rfl rfl (Nat.le_of_ble_eq_true rfl) (c_X11_refused E S (hw [(95, -1), (97, -1), (99, -1), (115, -1), (119, -1), (125, -1), (126, -1), (127, -1)] (up (hw [(93, -1), (95, -1), (96, -1), (97, -1), (115, -1), (116, -1), (118, -1), (119, -1), (125, -1), (126, -1), (127, -1), (129, 1), (129, 2), (129, 15), (129, 16)] (hw [(128, 0)] (hw [(128, 0)] G G2) G11) G19) 128 this 19 ff40) G45) this z46 hS (by omega) (by omega)) ?_
                      rintro _ _ _ ⟨rfl, ⟨G47, rfl⟩, z48, rfl, (⟨rfl, f49⟩ | ⟨rfl, f50⟩)⟩
                      · skip
                        refine r_if_eq hX hP rfl (tgt := 246) rfl (by omega) (by omega) (fun c51 => ?_) (fun c51 => ?_)
                        · skip
                          exfalso; omega
                        · skip
                          refine r_ldc2 hX hP rfl (v := (-1)) (tbg sg5 231 rfl rfl) ?_
                          have g52 : Gr [95, 97, 99, 100, 101, 102, 103, 104, 133, 147] [(93, -1), (95, -1), (96, -1), (97, -1), (99, -1), (115, -1), (116, -1), (118, -1), (119, -1), (125, -1), (126, -1), (127, -1), (128, 0), (128, 19), (129, 1), (129, 2), (129, 15), (129, 16), (147, 0), (147, 1), (147, 2), (147, 3), (147, 4), (147, 5), (147, 6), (147, 7), (147, 8), (147, 9), (147, 10), (147, 11), (147, 12), (147, 13), (147, 14), (147, 15), (147, 16)] S G S (hw [(128, 0)] (hw [(95, -1), (97, -1), (99, -1), (115, -1), (119, -1), (125, -1), (126, -1), (127, -1)] (up (hw [(93, -1), (95, -1), (96, -1), (97, -1), (115, -1), (116, -1), (118, -1), (119, -1), (125, -1), (126, -1), (127, -1), (129, 1), (129, 2), (129, 15), (129, 16)] (hw [(128, 0)] (hw [(128, 0)] G G2) G11) G19) 128 this 19 ff40) G45) G47) := (gr_hw (gr_hw (gr_up (gr_hw (gr_hw (gr_hw (gr_refl [95, 97, 99, 100, 101, 102, 103, 104, 133, 147] [(93, -1), (95, -1), (96, -1), (97, -1), (99, -1), (115, -1), (116, -1), (118, -1), (119, -1), (125, -1), (126, -1), (127, -1), (128, 0), (128, 19), (129, 1), (129, 2), (129, 15), (129, 16), (147, 0), (147, 1), (147, 2), (147, 3), (147, 4), (147, 5), (147, 6), (147, 7), (147, 8), (147, 9), (147, 10), (147, 11), (147, 12), (147, 13), (147, 14), (147, 15), (147, 16)] S G) rfl) rfl) rfl) rfl) rfl) rfl)
                          have ci53 : CI E S (hw [(128, 0)] (hw [(95, -1), (97, -1), (99, -1), (115, -1), (119, -1), (125, -1), (126, -1), (127, -1)] (up (hw [(93, -1), (95, -1), (96, -1), (97, -1), (115, -1), (116, -1), (118, -1), (119, -1), (125, -1), (126, -1), (127, -1), (129, 1), (129, 2), (129, 15), (129, 16)] (hw [(128, 0)] (hw [(128, 0)] G G2) G11) G19) 128 this 19 ff40) G45) G47) := (ci_hw (ci_hw ci44 rfl) rfl)
                          exact r_retL hX hP rfl rfl (by omega) (by omega) ⟨g52, (-1), rfl, (by omega), (by omega), ci53⟩
                      · skip
                        refine r_if_eq hX hP rfl (tgt := 246) rfl (by omega) (by omega) (fun c54 => ?_) (fun c54 => ?_)
                        · skip
                          refine r_ex hX hP 2 (pc' := 250) (st' := [(2, z9), (2, z8)]) (lo' := [(0, (2, this)), (1, (0, trade)), (2, (0, event)), (3, (0, paper)), (4, (0, l4_j35)), (5, (2, z8)), (6, (2, z9)), (7, (0, l7_j143))]) rfl ?_
                          refine r_callS gd hX hP rfl cs_X11_309 (d' := 0) (mc' := 0) (ms' := 0) (as' := [(2, z8), (2, z9)]) (st := []) (by omega) (by omega) (by omega) rfl rfl (Nat.le_of_ble_eq_true rfl) (c_X11_owingSide E S (hw [(128, 0)] (hw [(95, -1), (97, -1), (99, -1), (115, -1), (119, -1), (125, -1), (126, -1), (127, -1)] (up (hw [(93, -1), (95, -1), (96, -1), (97, -1), (115, -1), (116, -1), (118, -1), (119, -1), (125, -1), (126, -1), (127, -1), (129, 1), (129, 2), (129, 15), (129, 16)] (hw [(128, 0)] (hw [(128, 0)] G G2) G11) G19) 128 this 19 ff40) G45) G47) z8 z9 z8s z9s) ?_
                          rintro _ _ _ ⟨rfl, rfl, z55, rfl, z55a, z55b⟩
                          refine r_i2l hX hP rfl (by omega) (by omega) ?_
                          refine r_ex hX hP 1 (pc' := 256) (st' := [(2, z9), (1, z55)]) (lo' := [(0, (2, this)), (1, (0, trade)), (2, (0, event)), (3, (0, paper)), (4, (0, l4_j35)), (5, (2, z8)), (6, (2, z9)), (7, (0, l7_j143))]) rfl ?_
                          refine r_getR hX hP rfl fl_X11_200_137 z9s (fun tf56 tf56e tf56s => ?_)
                          refine r_ex hX hP 1 (pc' := 261) (st' := [(2, z8), (2, tf56), (1, z55)]) (lo' := [(0, (2, this)), (1, (0, trade)), (2, (0, event)), (3, (0, paper)), (4, (0, l4_j35)), (5, (2, z8)), (6, (2, z9)), (7, (0, l7_j143))]) rfl ?_
                          refine r_getI hX hP rfl fl_X11_313_140 z8s (fun nf57 nf57e nf57a nf57b => ?_)
                          refine r_ex hX hP 1 (pc' := 265) (st' := [(0, paper), (0, nf57), (2, tf56), (1, z55)]) (lo' := [(0, (2, this)), (1, (0, trade)), (2, (0, event)), (3, (0, paper)), (4, (0, l4_j35)), (5, (2, z8)), (6, (2, z9)), (7, (0, l7_j143))]) rfl ?_
                          refine r_callS gd hX hP rfl cs_X11_316 (d' := 4) (mc' := 0) (ms' := 0) (as' := [(2, tf56), (0, nf57), (0, paper)]) (st := [(1, z55)]) (by omega) (by omega) (by omega) rfl rfl (Nat.le_of_ble_eq_true rfl) (c_X11_givenTo E S (hw [(128, 0)] (hw [(95, -1), (97, -1), (99, -1), (115, -1), (119, -1), (125, -1), (126, -1), (127, -1)] (up (hw [(93, -1), (95, -1), (96, -1), (97, -1), (115, -1), (116, -1), (118, -1), (119, -1), (125, -1), (126, -1), (127, -1), (129, 1), (129, 2), (129, 15), (129, 16)] (hw [(128, 0)] (hw [(128, 0)] G G2) G11) G19) 128 this 19 ff40) G45) G47) tf56 nf57 paper tf56s (by omega) (by omega) (by omega) (by omega)) ?_
                          rintro _ _ _ ⟨rfl, ⟨G58, rfl⟩, z59, rfl, z59a, z59b⟩
                          refine r_ex hX hP 1 (pc' := 269) (st' := [(1, (z55 * z59))]) (lo' := [(0, (2, this)), (1, (0, trade)), (2, (0, event)), (3, (0, paper)), (4, (0, l4_j35)), (5, (2, z8)), (6, (2, z9)), (7, (0, l7_j143))]) rfl ?_
                          refine r_hvL hX (fun w60 w60a w60b w60e => ?_)
                          have g61 : Gr [95, 97, 99, 100, 101, 102, 103, 104, 133, 147] [(93, -1), (95, -1), (96, -1), (97, -1), (99, -1), (115, -1), (116, -1), (118, -1), (119, -1), (125, -1), (126, -1), (127, -1), (128, 0), (128, 19), (129, 1), (129, 2), (129, 15), (129, 16), (147, 0), (147, 1), (147, 2), (147, 3), (147, 4), (147, 5), (147, 6), (147, 7), (147, 8), (147, 9), (147, 10), (147, 11), (147, 12), (147, 13), (147, 14), (147, 15), (147, 16)] S G S (hw [(119, -1), (125, -1), (126, -1), (127, -1)] (hw [(128, 0)] (hw [(95, -1), (97, -1), (99, -1), (115, -1), (119, -1), (125, -1), (126, -1), (127, -1)] (up (hw [(93, -1), (95, -1), (96, -1), (97, -1), (115, -1), (116, -1), (118, -1), (119, -1), (125, -1), (126, -1), (127, -1), (129, 1), (129, 2), (129, 15), (129, 16)] (hw [(128, 0)] (hw [(128, 0)] G G2) G11) G19) 128 this 19 ff40) G45) G47) G58) := (gr_hw (gr_hw (gr_hw (gr_up (gr_hw (gr_hw (gr_hw (gr_refl [95, 97, 99, 100, 101, 102, 103, 104, 133, 147] [(93, -1), (95, -1), (96, -1), (97, -1), (99, -1), (115, -1), (116, -1), (118, -1), (119, -1), (125, -1), (126, -1), (127, -1), (128, 0), (128, 19), (129, 1), (129, 2), (129, 15), (129, 16), (147, 0), (147, 1), (147, 2), (147, 3), (147, 4), (147, 5), (147, 6), (147, 7), (147, 8), (147, 9), (147, 10), (147, 11), (147, 12), (147, 13), (147, 14), (147, 15), (147, 16)] S G) rfl) rfl) rfl) rfl) rfl) rfl) rfl)
                          have ci62 : CI E S (hw [(119, -1), (125, -1), (126, -1), (127, -1)] (hw [(128, 0)] (hw [(95, -1), (97, -1), (99, -1), (115, -1), (119, -1), (125, -1), (126, -1), (127, -1)] (up (hw [(93, -1), (95, -1), (96, -1), (97, -1), (115, -1), (116, -1), (118, -1), (119, -1), (125, -1), (126, -1), (127, -1), (129, 1), (129, 2), (129, 15), (129, 16)] (hw [(128, 0)] (hw [(128, 0)] G G2) G11) G19) 128 this 19 ff40) G45) G47) G58) := (ci_hw (ci_hw (ci_hw ci44 rfl) rfl) rfl)
                          exact r_retL hX hP rfl rfl (by omega) (by omega) ⟨g61, w60, rfl, (by omega), (by omega), ci62⟩
                        · skip
                          exfalso; omega
                    · skip
                      have g63 : Gr [95, 97, 99, 100, 101, 102, 103, 104, 133, 147] [(93, -1), (95, -1), (96, -1), (97, -1), (99, -1), (115, -1), (116, -1), (118, -1), (119, -1), (125, -1), (126, -1), (127, -1), (128, 0), (128, 19), (129, 1), (129, 2), (129, 15), (129, 16), (147, 0), (147, 1), (147, 2), (147, 3), (147, 4), (147, 5), (147, 6), (147, 7), (147, 8), (147, 9), (147, 10), (147, 11), (147, 12), (147, 13), (147, 14), (147, 15), (147, 16)] S G S (hw [(93, -1), (95, -1), (96, -1), (97, -1), (115, -1), (116, -1), (118, -1), (119, -1), (125, -1), (126, -1), (127, -1), (129, 1), (129, 2), (129, 15), (129, 16)] (hw [(128, 0)] (hw [(128, 0)] G G2) G11) G19) := (gr_hw (gr_hw (gr_hw (gr_refl [95, 97, 99, 100, 101, 102, 103, 104, 133, 147] [(93, -1), (95, -1), (96, -1), (97, -1), (99, -1), (115, -1), (116, -1), (118, -1), (119, -1), (125, -1), (126, -1), (127, -1), (128, 0), (128, 19), (129, 1), (129, 2), (129, 15), (129, 16), (147, 0), (147, 1), (147, 2), (147, 3), (147, 4), (147, 5), (147, 6), (147, 7), (147, 8), (147, 9), (147, 10), (147, 11), (147, 12), (147, 13), (147, 14), (147, 15), (147, 16)] S G) rfl) rfl) rfl)
                      have ci64 : CI E S (hw [(93, -1), (95, -1), (96, -1), (97, -1), (115, -1), (116, -1), (118, -1), (119, -1), (125, -1), (126, -1), (127, -1), (129, 1), (129, 2), (129, 15), (129, 16)] (hw [(128, 0)] (hw [(128, 0)] G G2) G11) G19) := (ci_hw ci18 rfl)
                      refine r_tk hX (fun tk65 => ?_)
                      refine r_newA hX hP rfl (L := 147) (N := 17) nw_X11_297_147 (by omega) (by omega) (fun n66 S67 G68 n66z n66n n66l g69 n66v => ?_)
                      have z70 : S n66 = 0 := gr_zero g63 n66z
                      have s71 : S67 this = 128 := gr_lab g69 hS (by decide)
                      have s72 : S67 trl = 155 := gr_lab g69 trl_s (by decide)
                      have s73 : S67 evl = 156 := gr_lab g69 evl_s (by decide)
                      have s74 : S67 z8 = 140 := gr_lab g69 z8s (by decide)
                      have s75 : S67 z9 = 137 := gr_lab g69 z9s (by decide)
                      have s76 : S67 rf16 = 129 := gr_lab g69 rf16s (by decide)
                      have s77 : S67 sf20 = 115 := gr_lab g69 sf20s (by decide)
                      have e78 : trl = G68 128 this 7 := gr_val g69 trl_e hS (by decide) rfl
                      have e79 : trn = G68 155 trl 2 := gr_val g69 trn_e trl_s (by decide) rfl
                      have e80 : evl = G68 128 this 8 := gr_val g69 evl_e hS (by decide) rfl
                      have e81 : evn = G68 156 evl 2 := gr_val g69 evn_e evl_s (by decide) rfl
                      have e82 : rf16 = G68 128 this 17 := gr_val g69 rf16e hS (by decide) rfl
                      have e83 : df17 = G68 140 z8 3 := gr_val g69 df17e z8s (by decide) rfl
                      have e84 : sf20 = G68 129 rf16 7 := gr_val g69 sf20e rf16s (by decide) rfl
                      have e85 : x21 = G68 115 sf20 trade := gr_val g69 x21e sf20s (by decide) rfl
                      have e86 : ff40 = G68 128 this 19 := gr_val g69 ff40e hS (by decide) rfl
                      have g87 : Gr [95, 97, 99, 100, 101, 102, 103, 104, 133, 147] [(93, -1), (95, -1), (96, -1), (97, -1), (99, -1), (115, -1), (116, -1), (118, -1), (119, -1), (125, -1), (126, -1), (127, -1), (128, 0), (128, 19), (129, 1), (129, 2), (129, 15), (129, 16), (147, 0), (147, 1), (147, 2), (147, 3), (147, 4), (147, 5), (147, 6), (147, 7), (147, 8), (147, 9), (147, 10), (147, 11), (147, 12), (147, 13), (147, 14), (147, 15), (147, 16)] S G S67 G68 := gr_call g63 g69 rfl rfl
                      have ci88 : CI E S67 G68 := ci_gr ci64 tk65 g69 rfl rfl
                      refine r_ex hX hP 2 (pc' := 203) (st' := [(2, this), (2, n66), (2, n66), (2, this)]) (lo' := [(0, (2, this)), (1, (0, trade)), (2, (0, event)), (3, (0, paper)), (4, (0, l4_j35)), (5, (2, z8)), (6, (2, z9)), (7, (0, l7_j143))]) rfl ?_
                      refine r_getR hX hP rfl fl_X11_24_128 s71 (fun af89 af89e af89s => ?_)
                      refine r_tk hX (fun tk90 => ?_)
                      refine r_callI gd hX hP rfl ci_X11_299 n66n (d' := 3) (mc' := 703) (ms' := 6947) (as' := [(2, af89)]) (st := [(2, n66), (2, this)]) (by omega) (by omega) (by omega) rfl rfl (Nat.le_of_ble_eq_true rfl) (c_X3_init E S67 G68 n66 af89 n66l af89s) ?_
                      rintro _ S91 G92 ⟨g93, rfl, hf94⟩
                      have s95 : S91 this = 128 := gr_lab g93 s71 (by decide)
                      have s96 : S91 trl = 155 := gr_lab g93 s72 (by decide)
                      have s97 : S91 evl = 156 := gr_lab g93 s73 (by decide)
                      have s98 : S91 z8 = 140 := gr_lab g93 s74 (by decide)
                      have s99 : S91 z9 = 137 := gr_lab g93 s75 (by decide)
                      have s100 : S91 rf16 = 129 := gr_lab g93 s76 (by decide)
                      have s101 : S91 sf20 = 115 := gr_lab g93 s77 (by decide)
                      have s102 : S91 n66 = 147 := gr_lab g93 n66l (by decide)
                      have s103 : S91 af89 = 130 := gr_lab g93 af89s (by decide)
                      have e104 : trl = G92 128 this 7 := gr_val g93 e78 s71 (by decide) rfl
                      have e105 : trn = G92 155 trl 2 := gr_val g93 e79 s72 (by decide) rfl
                      have e106 : evl = G92 128 this 8 := gr_val g93 e80 s71 (by decide) rfl
                      have e107 : evn = G92 156 evl 2 := gr_val g93 e81 s73 (by decide) rfl
                      have e108 : rf16 = G92 128 this 17 := gr_val g93 e82 s71 (by decide) rfl
                      have e109 : df17 = G92 140 z8 3 := gr_val g93 e83 s74 (by decide) rfl
                      have e110 : sf20 = G92 129 rf16 7 := gr_val g93 e84 s76 (by decide) rfl
                      have e111 : x21 = G92 115 sf20 trade := gr_val g93 e85 s77 (by decide) rfl
                      have e112 : ff40 = G92 128 this 19 := gr_val g93 e86 s71 (by decide) rfl
                      have e113 : af89 = G92 128 this 5 := gr_val g93 af89e s71 (by decide) rfl
                      have g114 : Gr [95, 97, 99, 100, 101, 102, 103, 104, 133, 147] [(93, -1), (95, -1), (96, -1), (97, -1), (99, -1), (115, -1), (116, -1), (118, -1), (119, -1), (125, -1), (126, -1), (127, -1), (128, 0), (128, 19), (129, 1), (129, 2), (129, 15), (129, 16), (147, 0), (147, 1), (147, 2), (147, 3), (147, 4), (147, 5), (147, 6), (147, 7), (147, 8), (147, 9), (147, 10), (147, 11), (147, 12), (147, 13), (147, 14), (147, 15), (147, 16)] S G S91 G92 := gr_call g87 g93 rfl rfl
                      have ci115 : CI E S91 G92 := ci_gr ci88 tk90 g93 rfl rfl
                      refine r_ex hX hP 1 (pc' := 216) (st' := [(2, n66), (2, this)]) (lo' := [(0, (2, this)), (1, (0, trade)), (2, (0, event)), (3, (0, paper)), (4, (0, l4_j35)), (5, (2, z8)), (6, (2, z9)), (7, (0, l7_j143))]) rfl ?_
                      refine r_finA hX (L := 147) (ci := 4) (fs := fs_147) rfl s102 (by decide) (fun hr116 => ?_)
                      refine r_tk hX (fun tk118 => ?_)
                      refine r_relabF hX (L := 147) (L' := 133) (ci := 4) (fs := fs_147) (fs' := fs_133) rfl rfl rfl (by decide) (by decide) nf_147 (by decide) s102 hf94 (fun S120 G121 r119 => ?_)
                      have s123 : S120 this = 128 := r119.lab s102 s95 (by decide)
                      have s124 : S120 trl = 155 := r119.lab s102 s96 (by decide)
                      have s125 : S120 evl = 156 := r119.lab s102 s97 (by decide)
                      have s126 : S120 z8 = 140 := r119.lab s102 s98 (by decide)
                      have s127 : S120 z9 = 137 := r119.lab s102 s99 (by decide)
                      have s128 : S120 rf16 = 129 := r119.lab s102 s100 (by decide)
                      have s129 : S120 sf20 = 115 := r119.lab s102 s101 (by decide)
                      have s130 : S120 af89 = 130 := r119.lab s102 s103 (by decide)
                      have e131 : trl = G121 128 this 7 := rs_val r119 s102 e104 s95 (by decide)
                      have e132 : trn = G121 155 trl 2 := rs_val r119 s102 e105 s96 (by decide)
                      have e133 : evl = G121 128 this 8 := rs_val r119 s102 e106 s95 (by decide)
                      have e134 : evn = G121 156 evl 2 := rs_val r119 s102 e107 s97 (by decide)
                      have e135 : rf16 = G121 128 this 17 := rs_val r119 s102 e108 s95 (by decide)
                      have e136 : df17 = G121 140 z8 3 := rs_val r119 s102 e109 s98 (by decide)
                      have e137 : sf20 = G121 129 rf16 7 := rs_val r119 s102 e110 s100 (by decide)
                      have e138 : x21 = G121 115 sf20 trade := rs_val r119 s102 e111 s101 (by decide)
                      have e139 : ff40 = G121 128 this 19 := rs_val r119 s102 e112 s95 (by decide)
                      have e140 : af89 = G121 128 this 5 := rs_val r119 s102 e113 s95 (by decide)
                      have g141 : Gr [95, 97, 99, 100, 101, 102, 103, 104, 133, 147] [(93, -1), (95, -1), (96, -1), (97, -1), (99, -1), (115, -1), (116, -1), (118, -1), (119, -1), (125, -1), (126, -1), (127, -1), (128, 0), (128, 19), (129, 1), (129, 2), (129, 15), (129, 16), (147, 0), (147, 1), (147, 2), (147, 3), (147, 4), (147, 5), (147, 6), (147, 7), (147, 8), (147, 9), (147, 10), (147, 11), (147, 12), (147, 13), (147, 14), (147, 15), (147, 16)] S G S120 G121 := gr_rs g114 r119 z70 rfl
                      have ci142 : CI E S120 G121 := ci_rs ci115 tk118 r119 s102 rfl rfl (fun e => absurd e (by decide)) (fun e => absurd e (by decide))
                      refine r_putNK hX hP rfl fp_X11_293_128 s123 (by decide) (Or.inr r119.1) (fun h143 => ?_)
                      refine r_ex hX hP 1 (pc' := 220) (st' := [(2, this)]) (lo' := [(0, (2, this)), (1, (0, trade)), (2, (0, event)), (3, (0, paper)), (4, (0, l4_j35)), (5, (2, z8)), (6, (2, z9)), (7, (0, l7_j143))]) rfl ?_
                      refine r_getKN hX hP rfl fl_X11_293_128 s123 (x := n66) h143 ?_
                      refine r_ex hX hP 1 (pc' := 224) (st' := [(2, this), (2, n66)]) (lo' := [(0, (2, this)), (1, (0, trade)), (2, (0, event)), (3, (0, paper)), (4, (0, l4_j35)), (5, (2, z8)), (6, (2, z9)), (7, (0, l7_j143))]) rfl ?_
                      refine r_getKR hX hP rfl fl_X11_16_128 s123 (x := rf16) e135 ?_
                      have ci144 : CI E S120 (up G121 128 this 19 n66) := (ci_up ci142 rfl)
                      refine r_callV gd hX hP rfl cv_X11_302_133 r119.1 (d' := 8) (mc' := 0) (ms' := 0) (as' := [(2, rf16)]) (st := []) (by omega) (by omega) (by omega) rfl rfl (Nat.le_of_ble_eq_true rfl) (c_X3_goOn E S120 (up G121 128 this 19 n66) n66 rf16 r119.1 s128 ci144) ?_
                      rintro _ _ _ ⟨rfl, ⟨G145, rfl⟩, rfl, -⟩
                      refine r_ex hX hP 3 (pc' := 233) (st' := [(0, trade), (2, this), (2, this)]) (lo' := [(0, (2, this)), (1, (0, trade)), (2, (0, event)), (3, (0, paper)), (4, (0, l4_j35)), (5, (2, z8)), (6, (2, z9)), (7, (0, l7_j143))]) rfl ?_
                      refine r_callV gd hX hP rfl cv_X11_306_128 s123 (d' := 0) (mc' := 0) (ms' := 0) (as' := [(0, trade)]) (st := [(2, this)]) (by omega) (by omega) (by omega) rfl rfl (Nat.le_of_ble_eq_true rfl) (c_X11_settledStatus E S120 (hw [(95, -1), (97, -1), (99, -1), (115, -1), (119, -1), (125, -1), (126, -1), (127, -1)] (up G121 128 this 19 n66) G145) this trade s123 (by omega) (by omega)) ?_
                      rintro _ _ _ ⟨rfl, rfl, z146, rfl, z146a, z146b⟩
                      refine r_callV gd hX hP rfl cv_X11_90_128 s123 (d' := 0) (mc' := 0) (ms' := 0) (as' := [(0, z146)]) (st := []) (by omega) (by omega) (by omega) rfl rfl (Nat.le_of_ble_eq_true rfl) (c_X11_refused E S120 (hw [(95, -1), (97, -1), (99, -1), (115, -1), (119, -1), (125, -1), (126, -1), (127, -1)] (up G121 128 this 19 n66) G145) this z146 s123 (by omega) (by omega)) ?_
                      rintro _ _ _ ⟨rfl, ⟨G147, rfl⟩, z148, rfl, (⟨rfl, f149⟩ | ⟨rfl, f150⟩)⟩
                      · skip
                        refine r_if_eq hX hP rfl (tgt := 246) rfl (by omega) (by omega) (fun c151 => ?_) (fun c151 => ?_)
                        · skip
                          exfalso; omega
                        · skip
                          refine r_ldc2 hX hP rfl (v := (-1)) (tbg sg5 231 rfl rfl) ?_
                          have g152 : Gr [95, 97, 99, 100, 101, 102, 103, 104, 133, 147] [(93, -1), (95, -1), (96, -1), (97, -1), (99, -1), (115, -1), (116, -1), (118, -1), (119, -1), (125, -1), (126, -1), (127, -1), (128, 0), (128, 19), (129, 1), (129, 2), (129, 15), (129, 16), (147, 0), (147, 1), (147, 2), (147, 3), (147, 4), (147, 5), (147, 6), (147, 7), (147, 8), (147, 9), (147, 10), (147, 11), (147, 12), (147, 13), (147, 14), (147, 15), (147, 16)] S G S120 (hw [(128, 0)] (hw [(95, -1), (97, -1), (99, -1), (115, -1), (119, -1), (125, -1), (126, -1), (127, -1)] (up G121 128 this 19 n66) G145) G147) := (gr_hw (gr_hw (gr_up g141 rfl) rfl) rfl)
                          have ci153 : CI E S120 (hw [(128, 0)] (hw [(95, -1), (97, -1), (99, -1), (115, -1), (119, -1), (125, -1), (126, -1), (127, -1)] (up G121 128 this 19 n66) G145) G147) := (ci_hw (ci_hw ci144 rfl) rfl)
                          exact r_retL hX hP rfl rfl (by omega) (by omega) ⟨g152, (-1), rfl, (by omega), (by omega), ci153⟩
                      · skip
                        refine r_if_eq hX hP rfl (tgt := 246) rfl (by omega) (by omega) (fun c154 => ?_) (fun c154 => ?_)
                        · skip
                          refine r_ex hX hP 2 (pc' := 250) (st' := [(2, z9), (2, z8)]) (lo' := [(0, (2, this)), (1, (0, trade)), (2, (0, event)), (3, (0, paper)), (4, (0, l4_j35)), (5, (2, z8)), (6, (2, z9)), (7, (0, l7_j143))]) rfl ?_
                          refine r_callS gd hX hP rfl cs_X11_309 (d' := 0) (mc' := 0) (ms' := 0) (as' := [(2, z8), (2, z9)]) (st := []) (by omega) (by omega) (by omega) rfl rfl (Nat.le_of_ble_eq_true rfl) (c_X11_owingSide E S120 (hw [(128, 0)] (hw [(95, -1), (97, -1), (99, -1), (115, -1), (119, -1), (125, -1), (126, -1), (127, -1)] (up G121 128 this 19 n66) G145) G147) z8 z9 s126 s127) ?_
                          rintro _ _ _ ⟨rfl, rfl, z155, rfl, z155a, z155b⟩
                          refine r_i2l hX hP rfl (by omega) (by omega) ?_
                          refine r_ex hX hP 1 (pc' := 256) (st' := [(2, z9), (1, z155)]) (lo' := [(0, (2, this)), (1, (0, trade)), (2, (0, event)), (3, (0, paper)), (4, (0, l4_j35)), (5, (2, z8)), (6, (2, z9)), (7, (0, l7_j143))]) rfl ?_
                          refine r_getR hX hP rfl fl_X11_200_137 s127 (fun tf156 tf156e tf156s => ?_)
                          refine r_ex hX hP 1 (pc' := 261) (st' := [(2, z8), (2, tf156), (1, z155)]) (lo' := [(0, (2, this)), (1, (0, trade)), (2, (0, event)), (3, (0, paper)), (4, (0, l4_j35)), (5, (2, z8)), (6, (2, z9)), (7, (0, l7_j143))]) rfl ?_
                          refine r_getI hX hP rfl fl_X11_313_140 s126 (fun nf157 nf157e nf157a nf157b => ?_)
                          refine r_ex hX hP 1 (pc' := 265) (st' := [(0, paper), (0, nf157), (2, tf156), (1, z155)]) (lo' := [(0, (2, this)), (1, (0, trade)), (2, (0, event)), (3, (0, paper)), (4, (0, l4_j35)), (5, (2, z8)), (6, (2, z9)), (7, (0, l7_j143))]) rfl ?_
                          refine r_callS gd hX hP rfl cs_X11_316 (d' := 4) (mc' := 0) (ms' := 0) (as' := [(2, tf156), (0, nf157), (0, paper)]) (st := [(1, z155)]) (by omega) (by omega) (by omega) rfl rfl (Nat.le_of_ble_eq_true rfl) (c_X11_givenTo E S120 (hw [(128, 0)] (hw [(95, -1), (97, -1), (99, -1), (115, -1), (119, -1), (125, -1), (126, -1), (127, -1)] (up G121 128 this 19 n66) G145) G147) tf156 nf157 paper tf156s (by omega) (by omega) (by omega) (by omega)) ?_
                          rintro _ _ _ ⟨rfl, ⟨G158, rfl⟩, z159, rfl, z159a, z159b⟩
                          refine r_ex hX hP 1 (pc' := 269) (st' := [(1, (z155 * z159))]) (lo' := [(0, (2, this)), (1, (0, trade)), (2, (0, event)), (3, (0, paper)), (4, (0, l4_j35)), (5, (2, z8)), (6, (2, z9)), (7, (0, l7_j143))]) rfl ?_
                          refine r_hvL hX (fun w160 w160a w160b w160e => ?_)
                          have g161 : Gr [95, 97, 99, 100, 101, 102, 103, 104, 133, 147] [(93, -1), (95, -1), (96, -1), (97, -1), (99, -1), (115, -1), (116, -1), (118, -1), (119, -1), (125, -1), (126, -1), (127, -1), (128, 0), (128, 19), (129, 1), (129, 2), (129, 15), (129, 16), (147, 0), (147, 1), (147, 2), (147, 3), (147, 4), (147, 5), (147, 6), (147, 7), (147, 8), (147, 9), (147, 10), (147, 11), (147, 12), (147, 13), (147, 14), (147, 15), (147, 16)] S G S120 (hw [(119, -1), (125, -1), (126, -1), (127, -1)] (hw [(128, 0)] (hw [(95, -1), (97, -1), (99, -1), (115, -1), (119, -1), (125, -1), (126, -1), (127, -1)] (up G121 128 this 19 n66) G145) G147) G158) := (gr_hw (gr_hw (gr_hw (gr_up g141 rfl) rfl) rfl) rfl)
                          have ci162 : CI E S120 (hw [(119, -1), (125, -1), (126, -1), (127, -1)] (hw [(128, 0)] (hw [(95, -1), (97, -1), (99, -1), (115, -1), (119, -1), (125, -1), (126, -1), (127, -1)] (up G121 128 this 19 n66) G145) G147) G158) := (ci_hw (ci_hw (ci_hw ci144 rfl) rfl) rfl)
                          exact r_retL hX hP rfl rfl (by omega) (by omega) ⟨g161, w160, rfl, (by omega), (by omega), ci162⟩
                        · skip
                          exfalso; omega
                · skip
                  exfalso; omega
            · skip
              refine r_ex hX hP 2 (pc' := 155) (st' := [(0, 7), (2, this)]) (lo' := [(0, (2, this)), (1, (0, trade)), (2, (0, event)), (3, (0, paper)), (4, (0, l4_j35)), (5, (2, z8)), (6, (2, z9)), (7, (0, l7_j143))]) rfl ?_
              refine r_callV gd hX hP rfl cv_X11_90_128 hS (d' := 0) (mc' := 0) (ms' := 0) (as' := [(0, 7)]) (st := []) (by omega) (by omega) (by omega) rfl rfl (Nat.le_of_ble_eq_true rfl) (c_X11_refused E S (hw [(128, 0)] G G2) this 7 hS (by omega) (by omega)) ?_
              rintro _ _ _ ⟨rfl, ⟨G163, rfl⟩, z164, rfl, (⟨rfl, f165⟩ | ⟨rfl, f166⟩)⟩
              · skip
                refine r_if_eq hX hP rfl (tgt := 165) rfl (by omega) (by omega) (fun c167 => ?_) (fun c167 => ?_)
                · skip
                  exfalso; omega
                · skip
                  refine r_ldc2 hX hP rfl (v := (-1)) (tbg sg5 231 rfl rfl) ?_
                  have g168 : Gr [95, 97, 99, 100, 101, 102, 103, 104, 133, 147] [(93, -1), (95, -1), (96, -1), (97, -1), (99, -1), (115, -1), (116, -1), (118, -1), (119, -1), (125, -1), (126, -1), (127, -1), (128, 0), (128, 19), (129, 1), (129, 2), (129, 15), (129, 16), (147, 0), (147, 1), (147, 2), (147, 3), (147, 4), (147, 5), (147, 6), (147, 7), (147, 8), (147, 9), (147, 10), (147, 11), (147, 12), (147, 13), (147, 14), (147, 15), (147, 16)] S G S (hw [(128, 0)] (hw [(128, 0)] G G2) G163) := (gr_hw (gr_hw (gr_refl [95, 97, 99, 100, 101, 102, 103, 104, 133, 147] [(93, -1), (95, -1), (96, -1), (97, -1), (99, -1), (115, -1), (116, -1), (118, -1), (119, -1), (125, -1), (126, -1), (127, -1), (128, 0), (128, 19), (129, 1), (129, 2), (129, 15), (129, 16), (147, 0), (147, 1), (147, 2), (147, 3), (147, 4), (147, 5), (147, 6), (147, 7), (147, 8), (147, 9), (147, 10), (147, 11), (147, 12), (147, 13), (147, 14), (147, 15), (147, 16)] S G) rfl) rfl)
                  have ci169 : CI E S (hw [(128, 0)] (hw [(128, 0)] G G2) G163) := (ci_hw ci7 rfl)
                  exact r_retL hX hP rfl rfl (by omega) (by omega) ⟨g168, (-1), rfl, (by omega), (by omega), ci169⟩
              · skip
                exfalso; omega
          refine r_ex hX hP 2 (pc' := 85) (st' := [(2, this), (2, z8)]) (lo' := [(0, (2, this)), (1, (0, trade)), (2, (0, event)), (3, (0, paper)), (4, (0, l4_j35)), (5, (2, z8)), (6, (2, z9))]) rfl ?_
          refine r_getR hX hP rfl fl_X11_16_128 hS (fun rf170 rf170e rf170s => ?_)
          refine r_getI hX hP rfl fl_X11_93_129 rf170s (fun af171 af171e af171a af171b => ?_)
          refine r_callU gd hX hP rfl cu_X11_282_140 z8s (d' := 0) (mc' := 0) (ms' := 0) (as' := [(0, af171)]) (st := []) (by omega) (by omega) (by omega) rfl rfl (Nat.le_of_ble_eq_true rfl) (c_counts_Trd E S (hw [(128, 0)] G G2) z8 af171 z8s (by omega) (by omega)) ?_
          rintro _ _ _ ⟨rfl, rfl, z172, rfl, z172a, z172b⟩
          refine r_if_eq hX hP rfl (tgt := 136) rfl (by omega) (by omega) (fun c173 => ?_) (fun c173 => ?_)
          · skip
            refine r_ex hX hP 3 (pc' := 143) (st' := []) (lo' := [(0, (2, this)), (1, (0, trade)), (2, (0, event)), (3, (0, paper)), (4, (0, l4_j35)), (5, (2, z8)), (6, (2, z9)), (7, (0, 1))]) rfl ?_
            exact j143 1 (by omega) (by omega)
          · skip
            refine r_ex hX hP 2 (pc' := 100) (st' := [(2, this), (2, z9)]) (lo' := [(0, (2, this)), (1, (0, trade)), (2, (0, event)), (3, (0, paper)), (4, (0, l4_j35)), (5, (2, z8)), (6, (2, z9))]) rfl ?_
            refine r_getKR hX hP rfl fl_X11_16_128 hS (x := rf170) rf170e ?_
            refine r_getKI hX hP rfl fl_X11_93_129 rf170s (x := af171) af171e ?_
            refine r_callU gd hX hP rfl cu_X11_264_137 z9s (d' := 0) (mc' := 0) (ms' := 0) (as' := [(0, af171)]) (st := []) (by omega) (by omega) (by omega) rfl rfl (Nat.le_of_ble_eq_true rfl) (c_counts_Evt E S (hw [(128, 0)] G G2) z9 af171 z9s (by omega) (by omega)) ?_
            rintro _ _ _ ⟨rfl, rfl, z174, rfl, z174a, z174b⟩
            refine r_if_eq hX hP rfl (tgt := 136) rfl (by omega) (by omega) (fun c175 => ?_) (fun c175 => ?_)
            · skip
              refine r_ex hX hP 3 (pc' := 143) (st' := []) (lo' := [(0, (2, this)), (1, (0, trade)), (2, (0, event)), (3, (0, paper)), (4, (0, l4_j35)), (5, (2, z8)), (6, (2, z9)), (7, (0, 1))]) rfl ?_
              exact j143 1 (by omega) (by omega)
            · skip
              refine r_ex hX hP 1 (pc' := 114) (st' := [(2, z8)]) (lo' := [(0, (2, this)), (1, (0, trade)), (2, (0, event)), (3, (0, paper)), (4, (0, l4_j35)), (5, (2, z8)), (6, (2, z9))]) rfl ?_
              refine r_getI hX hP rfl fl_X11_289_140 z8s (fun pf176 pf176e pf176a pf176b => ?_)
              refine r_ex hX hP 1 (pc' := 119) (st' := [(2, z9), (0, pf176)]) (lo' := [(0, (2, this)), (1, (0, trade)), (2, (0, event)), (3, (0, paper)), (4, (0, l4_j35)), (5, (2, z8)), (6, (2, z9))]) rfl ?_
              refine r_getI hX hP rfl fl_X11_292_137 z9s (fun pf177 pf177e pf177a pf177b => ?_)
              refine r_ic_ne hX hP rfl (tgt := 136) rfl (by omega) (by omega) (by omega) (by omega) (fun c178 => ?_) (fun c178 => ?_)
              · skip
                refine r_ex hX hP 3 (pc' := 143) (st' := []) (lo' := [(0, (2, this)), (1, (0, trade)), (2, (0, event)), (3, (0, paper)), (4, (0, l4_j35)), (5, (2, z8)), (6, (2, z9)), (7, (0, 1))]) rfl ?_
                exact j143 1 (by omega) (by omega)
              · skip
                refine r_ex hX hP 1 (pc' := 127) (st' := [(2, z9)]) (lo' := [(0, (2, this)), (1, (0, trade)), (2, (0, event)), (3, (0, paper)), (4, (0, l4_j35)), (5, (2, z8)), (6, (2, z9))]) rfl ?_
                refine r_getR hX hP rfl fl_X11_200_137 z9s (fun tf179 tf179e tf179s => ?_)
                refine r_getI hX hP rfl fl_X11_204_136 tf179s (fun cf180 cf180e cf180a cf180b => ?_)
                refine r_if_le hX hP rfl (tgt := 140) rfl (by omega) (by omega) (fun c181 => ?_) (fun c181 => ?_)
                · skip
                  refine r_ex hX hP 2 (pc' := 143) (st' := []) (lo' := [(0, (2, this)), (1, (0, trade)), (2, (0, event)), (3, (0, paper)), (4, (0, l4_j35)), (5, (2, z8)), (6, (2, z9)), (7, (0, 0))]) rfl ?_
                  exact j143 0 (by omega) (by omega)
                · skip
                  refine r_ex hX hP 3 (pc' := 143) (st' := []) (lo' := [(0, (2, this)), (1, (0, trade)), (2, (0, event)), (3, (0, paper)), (4, (0, l4_j35)), (5, (2, z8)), (6, (2, z9)), (7, (0, 1))]) rfl ?_
                  exact j143 1 (by omega) (by omega)
        · skip
          exfalso; omega
    · skip
      refine r_ex hX hP 2 (pc' := 46) (st' := [(0, 1), (2, this)]) (lo' := [(0, (2, this)), (1, (0, trade)), (2, (0, event)), (3, (0, paper)), (4, (0, l4_j35))]) rfl ?_
      refine r_callV gd hX hP rfl cv_X11_90_128 hS (d' := 0) (mc' := 0) (ms' := 0) (as' := [(0, 1)]) (st := []) (by omega) (by omega) (by omega) rfl rfl (Nat.le_of_ble_eq_true rfl) (c_X11_refused E S G this 1 hS (by omega) (by omega)) ?_
      rintro _ _ _ ⟨rfl, ⟨G182, rfl⟩, z183, rfl, (⟨rfl, f184⟩ | ⟨rfl, f185⟩)⟩
      · skip
        refine r_if_eq hX hP rfl (tgt := 56) rfl (by omega) (by omega) (fun c186 => ?_) (fun c186 => ?_)
        · skip
          exfalso; omega
        · skip
          refine r_ldc2 hX hP rfl (v := (-1)) (tbg sg5 231 rfl rfl) ?_
          have g187 : Gr [95, 97, 99, 100, 101, 102, 103, 104, 133, 147] [(93, -1), (95, -1), (96, -1), (97, -1), (99, -1), (115, -1), (116, -1), (118, -1), (119, -1), (125, -1), (126, -1), (127, -1), (128, 0), (128, 19), (129, 1), (129, 2), (129, 15), (129, 16), (147, 0), (147, 1), (147, 2), (147, 3), (147, 4), (147, 5), (147, 6), (147, 7), (147, 8), (147, 9), (147, 10), (147, 11), (147, 12), (147, 13), (147, 14), (147, 15), (147, 16)] S G S (hw [(128, 0)] G G182) := (gr_hw (gr_refl [95, 97, 99, 100, 101, 102, 103, 104, 133, 147] [(93, -1), (95, -1), (96, -1), (97, -1), (99, -1), (115, -1), (116, -1), (118, -1), (119, -1), (125, -1), (126, -1), (127, -1), (128, 0), (128, 19), (129, 1), (129, 2), (129, 15), (129, 16), (147, 0), (147, 1), (147, 2), (147, 3), (147, 4), (147, 5), (147, 6), (147, 7), (147, 8), (147, 9), (147, 10), (147, 11), (147, 12), (147, 13), (147, 14), (147, 15), (147, 16)] S G) rfl)
          have ci188 : CI E S (hw [(128, 0)] G G182) := (ci_hw ci rfl)
          exact r_retL hX hP rfl rfl (by omega) (by omega) ⟨g187, (-1), rfl, (by omega), (by omega), ci188⟩
      · skip
        exfalso; omega
  refine r_ex hX hP 2 (pc' := 2) (st' := [(0, trade), (2, this)]) (lo' := [(0, (2, this)), (1, (0, trade)), (2, (0, event)), (3, (0, paper))]) rfl ?_
  refine r_callV gd hX hP rfl cv_X11_227_128 hS (d' := 1) (mc' := 0) (ms' := 0) (as' := [(0, trade)]) (st := []) (by omega) (by omega) (by omega) rfl rfl (Nat.le_of_ble_eq_true rfl) (c_X11_hasTrade E S G this trade hS trl trl_e trl_s trn trn_e (by omega) (by omega)) ?_
  rintro _ _ _ ⟨rfl, rfl, z189, rfl, (⟨rfl, f190, f191⟩ | rfl)⟩
  · skip
    refine r_if_eq hX hP rfl (tgt := 28) rfl (by omega) (by omega) (fun c192 => ?_) (fun c192 => ?_)
    · skip
      exfalso; omega
    · skip
      refine r_ex hX hP 2 (pc' := 10) (st' := [(0, event), (2, this)]) (lo' := [(0, (2, this)), (1, (0, trade)), (2, (0, event)), (3, (0, paper))]) rfl ?_
      refine r_callV gd hX hP rfl cv_X11_193_128 hS (d' := 1) (mc' := 0) (ms' := 0) (as' := [(0, event)]) (st := []) (by omega) (by omega) (by omega) rfl rfl (Nat.le_of_ble_eq_true rfl) (c_X11_hasEvent E S G this event hS evl evl_e evl_s evn evn_e (by omega) (by omega)) ?_
      rintro _ _ _ ⟨rfl, rfl, z193, rfl, (⟨rfl, f194, f195⟩ | rfl)⟩
      · skip
        refine r_if_eq hX hP rfl (tgt := 28) rfl (by omega) (by omega) (fun c196 => ?_) (fun c196 => ?_)
        · skip
          exfalso; omega
        · skip
          refine r_ex hX hP 2 (pc' := 18) (st' := [(0, (-1)), (0, paper)]) (lo' := [(0, (2, this)), (1, (0, trade)), (2, (0, event)), (3, (0, paper))]) rfl ?_
          refine r_ic_eq hX hP rfl (tgt := 32) rfl (by omega) (by omega) (by omega) (by omega) (fun c197 => ?_) (fun c197 => ?_)
          · skip
            refine r_ex hX hP 2 (pc' := 35) (st' := []) (lo' := [(0, (2, this)), (1, (0, trade)), (2, (0, event)), (3, (0, paper)), (4, (0, 0))]) rfl ?_
            exact j35 0 (by omega) (by omega) (by omega)
          · skip
            refine r_ex hX hP 1 (pc' := 22) (st' := [(0, paper)]) (lo' := [(0, (2, this)), (1, (0, trade)), (2, (0, event)), (3, (0, paper))]) rfl ?_
            refine r_callS gd hX hP rfl cs_X11_120 (d' := 1) (mc' := 0) (ms' := 0) (as' := [(0, paper)]) (st := []) (by omega) (by omega) (by omega) rfl rfl (Nat.le_of_ble_eq_true rfl) (c_X11_isPaper E S G paper (by omega) (by omega)) ?_
            rintro _ _ _ ⟨rfl, rfl, z198, rfl, (⟨rfl, f199, f200⟩ | rfl)⟩
            · skip
              refine r_if_ne hX hP rfl (tgt := 32) rfl (by omega) (by omega) (fun c201 => ?_) (fun c201 => ?_)
              · skip
                refine r_ex hX hP 2 (pc' := 35) (st' := []) (lo' := [(0, (2, this)), (1, (0, trade)), (2, (0, event)), (3, (0, paper)), (4, (0, 0))]) rfl ?_
                exact j35 0 (by omega) (by omega) (by omega)
              · skip
                exfalso; omega
            · skip
              refine r_if_ne hX hP rfl (tgt := 32) rfl (by omega) (by omega) (fun c202 => ?_) (fun c202 => ?_)
              · skip
                exfalso; omega
              · skip
                refine r_ex hX hP 3 (pc' := 35) (st' := []) (lo' := [(0, (2, this)), (1, (0, trade)), (2, (0, event)), (3, (0, paper)), (4, (0, 1))]) rfl ?_
                exact j35 1 (by omega) (by omega) (by omega)
      · skip
        refine r_if_eq hX hP rfl (tgt := 28) rfl (by omega) (by omega) (fun c203 => ?_) (fun c203 => ?_)
        · skip
          refine r_ex hX hP 3 (pc' := 35) (st' := []) (lo' := [(0, (2, this)), (1, (0, trade)), (2, (0, event)), (3, (0, paper)), (4, (0, 1))]) rfl ?_
          exact j35 1 (by omega) (by omega) (by omega)
        · skip
          exfalso; omega
  · skip
    refine r_if_eq hX hP rfl (tgt := 28) rfl (by omega) (by omega) (fun c204 => ?_) (fun c204 => ?_)
    · skip
      refine r_ex hX hP 3 (pc' := 35) (st' := []) (lo' := [(0, (2, this)), (1, (0, trade)), (2, (0, event)), (3, (0, paper)), (4, (0, 1))]) rfl ?_
      exact j35 1 (by omega) (by omega) (by omega)
    · skip
      exfalso; omega
