theorem fl_X11_29_128 : Fl RX11 29 128 6 (2, 154, 0) := ⟨11, 20, fs_128, RX11, TX11, rfl, rfl, by decide, rfl, by decide, rfl, cf_X11, (tbg sg2 154 rfl rfl)⟩
theorem cv_X11_125_154 : Cv RX11 125 mJx4a65c_size_8abf5 154 0 := ⟨co_Jx4a65c_size_8abf5, (tbg sg3 12 rfl rfl), (tbg sg3 13 rfl rfl), 0, 3, fs_154, RJx4a65c, TJx4a65c, rfl, by decide, rfl, (tbg sg3 14 rfl rfl)⟩
theorem nw_X11_132_152 : Nw RX11 132 152 9 := ⟨2, fs_152, RX1, TX1, tyX1, rfl, rfl, by decide, rfl, tbs [690, 692, 676, 678, 680, 682, 684, 686, 688] (by decide +kernel), tyX1_ok, (tbg sg3 16 rfl rfl), (tbg sg3 17 rfl rfl), (tbg sg1 12 rfl rfl), by decide⟩
theorem co_X1_init : Co mX1_init 4 := ⟨(tbg sg3 20 rfl rfl), (tbg sg1 12 rfl rfl), by decide, by decide, by decide +kernel, by decide⟩
theorem ci_X11_134 : Ci RX11 134 mX1_init 4 := ⟨co_X1_init, (tbg sg3 18 rfl rfl), rfl, (tbg sg3 19 rfl rfl), rfl⟩
theorem fl_X11_137_152 : Fl RX11 137 152 6 (0, (-1), 19) := ⟨2, 9, fs_152, RX1, TX1, rfl, rfl, by decide, rfl, by decide, rfl, cf_X1, (tbg sg3 41 rfl rfl)⟩
theorem fp_X11_137_152 : Fp RX11 137 152 6 (0, (-1), 19) := ⟨fl_X11_137_152, 2, 9, fs_152, RX1, TX1, .int, rfl, rfl, rfl, by decide +kernel, fun E S x h => ⟨rfl, rfl⟩⟩
theorem fl_X11_140_152 : Fl RX11 140 152 8 (0, 0, 2147483647) := ⟨2, 9, fs_152, RX1, TX1, rfl, rfl, by decide, rfl, by decide, rfl, cf_X1, (tbg sg3 45 rfl rfl)⟩
theorem fp_X11_140_152 : Fp RX11 140 152 8 (0, 0, 2147483647) := ⟨fl_X11_140_152, 2, 9, fs_152, RX1, TX1, .int, rfl, rfl, rfl, by decide +kernel, fun E S x h => ⟨rfl, rfl⟩⟩
theorem nf_152 : norf 152 = true := by decide +kernel
theorem co_Jx4a65c_add_9ea2d : Co mJx4a65c_add_9ea2d 1 := ⟨(tbg sg3 72 rfl rfl), (tbg sg1 6 rfl rfl), by decide, by decide, by decide +kernel, by decide⟩
theorem cv_X11_143_154 : Cv RX11 143 mJx4a65c_add_9ea2d 154 1 := ⟨co_Jx4a65c_add_9ea2d, (tbg sg3 69 rfl rfl), (tbg sg3 70 rfl rfl), 0, 3, fs_154, RJx4a65c, TJx4a65c, rfl, by decide, rfl, (tbg sg3 71 rfl rfl)⟩
theorem fl_X11_151_152 : Fl RX11 151 152 5 (0, (-1), 19) := ⟨2, 9, fs_152, RX1, TX1, rfl, rfl, by decide, rfl, by decide, rfl, cf_X1, (tbg sg3 37 rfl rfl)⟩
theorem fp_X11_151_152 : Fp RX11 151 152 5 (0, (-1), 19) := ⟨fl_X11_151_152, 2, 9, fs_152, RX1, TX1, .int, rfl, rfl, rfl, by decide +kernel, fun E S x h => ⟨rfl, rfl⟩⟩
theorem fl_X11_154_152 : Fl RX11 154 152 7 (0, (-2147483648), 2147483647) := ⟨2, 9, fs_152, RX1, TX1, rfl, rfl, by decide, rfl, by decide, rfl, cf_X1, (tbg sg3 44 rfl rfl)⟩
theorem fp_X11_154_152 : Fp RX11 154 152 7 (0, (-2147483648), 2147483647) := ⟨fl_X11_154_152, 2, 9, fs_152, RX1, TX1, .int, rfl, rfl, rfl, by decide +kernel, fun E S x h => ⟨rfl, rfl⟩⟩
theorem cv_X11_143_155 : Cv RX11 143 mJx4a65c_add_9ea2d 155 1 := ⟨co_Jx4a65c_add_9ea2d, (tbg sg3 69 rfl rfl), (tbg sg3 70 rfl rfl), 0, 3, fs_155, RJx4a65c, TJx4a65c, rfl, by decide, rfl, (tbg sg3 71 rfl rfl)⟩
set_option maxRecDepth 100000 in
set_option maxHeartbeats 4000000 in
theorem c_X11_issue (E : En) (S : Sg) (G : Gh) (this : Int) (account : Int) (paper : Int) (day : Int) (shares : Int) (worth : Int) (known : Int) (hS : S this = 128) (account_a : (-2147483648) ≤ account) (account_b : account ≤ 2147483647) (paper_a : (-2147483648) ≤ paper) (paper_b : paper ≤ 2147483647) (day_a : (-2147483648) ≤ day) (day_b : day ≤ 2147483647) (shares_a : (-2147483648) ≤ shares) (shares_b : shares ≤ 2147483647) (worth_a : (-2147483648) ≤ worth) (worth_b : worth ≤ 2147483647) (known_a : (-2147483648) ≤ known) (known_b : known ≤ 2147483647) (ci : CI E S G) : Calls E mX11_issue [(2, this), (0, account), (0, paper), (0, day), (0, shares), (0, worth), (0, known)] S G 15 2 82 (fun r S' G' => Gr [139, 152, 160, 161, 162, 163, 164, 165, 166, 167, 168, 169, 170, 171, 172, 173, 174, 175, 176, 177, 178, 179, 180, 181, 182, 183, 184, 185] [(128, 0), (128, 1), (129, 1), (152, 0), (152, 1), (152, 2), (152, 3), (152, 4), (152, 5), (152, 6), (152, 8), (154, 0), (154, 1), (154, 2), (160, -1), (161, -1), (162, -1), (163, -1), (164, -1)] S G S' G' ∧ ∃ z : Int, r = some (0, z) ∧ 0 ≤ z ∧ z ≤ 1 ∧ CI E S' G') := by
  refine calls_by [(0, (2, this)), (1, (0, account)), (2, (0, paper)), (3, (0, day)), (4, (0, shares)), (5, (0, worth)), (6, (0, known))] rfl rfl (Nat.le_of_ble_eq_true rfl) (fun X hX => ?_)
  have hP := hPX11_issue
  have j22 : ∀ (l7_j22 : Int), 0 ≤ l7_j22 → l7_j22 ≤ 1 → (l7_j22 = 1 ∨ (0 ≤ account ∧ account ≤ 19 ∧ 0 ≤ paper ∧ paper ≤ 19)) → X 0 0 22 [] [(0, (2, this)), (1, (0, account)), (2, (0, paper)), (3, (0, day)), (4, (0, shares)), (5, (0, worth)), (6, (0, known)), (7, (0, l7_j22))] S G := by
    intro l7_j22 yj22_0 yj22_1 yj22_2
    have j66 : ∀ (l8_j66 : Int), 0 ≤ l8_j66 → l8_j66 ≤ 1 → (l8_j66 = 1 ∨ (0 ≤ day ∧ day ≤ 40000 ∧ 0 ≤ known ∧ known ≤ 40000 ∧ 0 ≤ worth)) → X 0 0 66 [] [(0, (2, this)), (1, (0, account)), (2, (0, paper)), (3, (0, day)), (4, (0, shares)), (5, (0, worth)), (6, (0, known)), (7, (0, l7_j22)), (8, (0, l8_j66))] S G := by
      intro l8_j66 yj66_0 yj66_1 yj66_2
      refine r_ex hX hP 4 (pc' := 72) (st' := [(2, this), (0, l8_j66), (0, l7_j22), (2, this)]) (lo' := [(0, (2, this)), (1, (0, account)), (2, (0, paper)), (3, (0, day)), (4, (0, shares)), (5, (0, worth)), (6, (0, known)), (7, (0, l7_j22)), (8, (0, l8_j66))]) rfl ?_
      refine r_getR hX hP rfl fl_X11_29_128 hS (fun if1 if1e if1s => ?_)
      refine r_peekI hX (tl_154 2 rfl (by decide)) if1s (fun sip2 sip2e sip2a sip2b => ?_)
      refine r_callV gd hX hP rfl cv_X11_125_154 if1s (d' := 0) (mc' := 0) (ms' := 0) (as' := []) (st := [(0, l8_j66), (0, l7_j22), (2, this)]) (by omega) (by omega) (by omega) rfl rfl (Nat.le_of_ble_eq_true rfl) (c_size_Lis E S G if1  if1s sip2 sip2e) ?_
      rintro _ _ _ ⟨rfl, rfl, z3, rfl, z3a, z3b, f4⟩
      refine r_ex hX hP 1 (pc' := 80) (st' := [(0, 40), (0, z3), (0, l8_j66), (0, l7_j22), (2, this)]) (lo' := [(0, (2, this)), (1, (0, account)), (2, (0, paper)), (3, (0, day)), (4, (0, shares)), (5, (0, worth)), (6, (0, known)), (7, (0, l7_j22)), (8, (0, l8_j66))]) rfl ?_
      refine r_ic_lt hX hP rfl (tgt := 87) rfl (by omega) (by omega) (by omega) (by omega) (fun c5 => ?_) (fun c5 => ?_)
      · skip
        refine r_ex hX hP 3 (pc' := 91) (st' := [(2, this), (0, known), (0, 0), (0, l8_j66), (0, l7_j22), (2, this)]) (lo' := [(0, (2, this)), (1, (0, account)), (2, (0, paper)), (3, (0, day)), (4, (0, shares)), (5, (0, worth)), (6, (0, known)), (7, (0, l7_j22)), (8, (0, l8_j66))]) rfl ?_
        refine r_getI hX hP rfl fl_X11_129_128 hS (fun lf6 lf6e lf6a lf6b => ?_)
        refine r_ic_ge hX hP rfl (tgt := 101) rfl (by omega) (by omega) (by omega) (by omega) (fun c7 => ?_) (fun c7 => ?_)
        · skip
          refine r_ex hX hP 1 (pc' := 102) (st' := [(0, 0), (0, 0), (0, l8_j66), (0, l7_j22), (2, this)]) (lo' := [(0, (2, this)), (1, (0, account)), (2, (0, paper)), (3, (0, day)), (4, (0, shares)), (5, (0, worth)), (6, (0, known)), (7, (0, l7_j22)), (8, (0, l8_j66))]) rfl ?_
          refine r_callS gd hX hP rfl cs_X11_112 (d' := 0) (mc' := 0) (ms' := 0) (as' := [(0, l7_j22), (0, l8_j66), (0, 0), (0, 0)]) (st := [(2, this)]) (by omega) (by omega) (by omega) rfl rfl (Nat.le_of_ble_eq_true rfl) (c_X11_first E S G l7_j22 l8_j66 0 0 (by omega) (by omega) (by omega) (by omega) (by omega) (by omega) (by omega) (by omega)) ?_
          rintro _ _ _ ⟨rfl, rfl, z8, rfl, (⟨rfl, f9⟩ | ⟨rfl, f10, f11⟩ | ⟨rfl, f12, f13, f14⟩ | ⟨rfl, f15, f16, f17, f18⟩ | ⟨rfl, f19, f20, f21, f22⟩)⟩
          · skip
            refine r_callV gd hX hP rfl cv_X11_90_128 hS (d' := 0) (mc' := 0) (ms' := 0) (as' := [(0, 1)]) (st := []) (by omega) (by omega) (by omega) rfl rfl (Nat.le_of_ble_eq_true rfl) (c_X11_refused E S G this 1 hS (by omega) (by omega)) ?_
            rintro _ _ _ ⟨rfl, ⟨G23, rfl⟩, z24, rfl, (⟨rfl, f25⟩ | ⟨rfl, f26⟩)⟩
            · skip
              refine r_if_eq hX hP rfl (tgt := 113) rfl (by omega) (by omega) (fun c27 => ?_) (fun c27 => ?_)
              · skip
                exfalso; omega
              · skip
                refine r_ex hX hP 1 (pc' := 112) (st' := [(0, 0)]) (lo' := [(0, (2, this)), (1, (0, account)), (2, (0, paper)), (3, (0, day)), (4, (0, shares)), (5, (0, worth)), (6, (0, known)), (7, (0, l7_j22)), (8, (0, l8_j66))]) rfl ?_
                have g28 : Gr [139, 152, 160, 161, 162, 163, 164, 165, 166, 167, 168, 169, 170, 171, 172, 173, 174, 175, 176, 177, 178, 179, 180, 181, 182, 183, 184, 185] [(128, 0), (128, 1), (129, 1), (152, 0), (152, 1), (152, 2), (152, 3), (152, 4), (152, 5), (152, 6), (152, 8), (154, 0), (154, 1), (154, 2), (160, -1), (161, -1), (162, -1), (163, -1), (164, -1)] S G S (hw [(128, 0)] G G23) := (gr_hw (gr_refl [139, 152, 160, 161, 162, 163, 164, 165, 166, 167, 168, 169, 170, 171, 172, 173, 174, 175, 176, 177, 178, 179, 180, 181, 182, 183, 184, 185] [(128, 0), (128, 1), (129, 1), (152, 0), (152, 1), (152, 2), (152, 3), (152, 4), (152, 5), (152, 6), (152, 8), (154, 0), (154, 1), (154, 2), (160, -1), (161, -1), (162, -1), (163, -1), (164, -1)] S G) rfl)
                have ci29 : CI E S (hw [(128, 0)] G G23) := (ci_hw ci rfl)
                exact r_retZ hX hP rfl rfl (by omega) (by omega) (by omega) (by omega) ⟨g28, 0, rfl, (by omega), (by omega), ci29⟩
            · skip
              exfalso; omega
          · skip
            refine r_callV gd hX hP rfl cv_X11_90_128 hS (d' := 0) (mc' := 0) (ms' := 0) (as' := [(0, 2)]) (st := []) (by omega) (by omega) (by omega) rfl rfl (Nat.le_of_ble_eq_true rfl) (c_X11_refused E S G this 2 hS (by omega) (by omega)) ?_
            rintro _ _ _ ⟨rfl, ⟨G30, rfl⟩, z31, rfl, (⟨rfl, f32⟩ | ⟨rfl, f33⟩)⟩
            · skip
              refine r_if_eq hX hP rfl (tgt := 113) rfl (by omega) (by omega) (fun c34 => ?_) (fun c34 => ?_)
              · skip
                exfalso; omega
              · skip
                refine r_ex hX hP 1 (pc' := 112) (st' := [(0, 0)]) (lo' := [(0, (2, this)), (1, (0, account)), (2, (0, paper)), (3, (0, day)), (4, (0, shares)), (5, (0, worth)), (6, (0, known)), (7, (0, l7_j22)), (8, (0, l8_j66))]) rfl ?_
                have g35 : Gr [139, 152, 160, 161, 162, 163, 164, 165, 166, 167, 168, 169, 170, 171, 172, 173, 174, 175, 176, 177, 178, 179, 180, 181, 182, 183, 184, 185] [(128, 0), (128, 1), (129, 1), (152, 0), (152, 1), (152, 2), (152, 3), (152, 4), (152, 5), (152, 6), (152, 8), (154, 0), (154, 1), (154, 2), (160, -1), (161, -1), (162, -1), (163, -1), (164, -1)] S G S (hw [(128, 0)] G G30) := (gr_hw (gr_refl [139, 152, 160, 161, 162, 163, 164, 165, 166, 167, 168, 169, 170, 171, 172, 173, 174, 175, 176, 177, 178, 179, 180, 181, 182, 183, 184, 185] [(128, 0), (128, 1), (129, 1), (152, 0), (152, 1), (152, 2), (152, 3), (152, 4), (152, 5), (152, 6), (152, 8), (154, 0), (154, 1), (154, 2), (160, -1), (161, -1), (162, -1), (163, -1), (164, -1)] S G) rfl)
                have ci36 : CI E S (hw [(128, 0)] G G30) := (ci_hw ci rfl)
                exact r_retZ hX hP rfl rfl (by omega) (by omega) (by omega) (by omega) ⟨g35, 0, rfl, (by omega), (by omega), ci36⟩
            · skip
              exfalso; omega
          · skip
            exfalso; omega
          · skip
            exfalso; omega
          · skip
            refine r_callV gd hX hP rfl cv_X11_90_128 hS (d' := 0) (mc' := 0) (ms' := 0) (as' := [(0, 0)]) (st := []) (by omega) (by omega) (by omega) rfl rfl (Nat.le_of_ble_eq_true rfl) (c_X11_refused E S G this 0 hS (by omega) (by omega)) ?_
            rintro _ _ _ ⟨rfl, ⟨G37, rfl⟩, z38, rfl, (⟨rfl, f39⟩ | ⟨rfl, f40⟩)⟩
            · skip
              exfalso; omega
            · skip
              refine r_if_eq hX hP rfl (tgt := 113) rfl (by omega) (by omega) (fun c41 => ?_) (fun c41 => ?_)
              · skip
                have g42 : Gr [139, 152, 160, 161, 162, 163, 164, 165, 166, 167, 168, 169, 170, 171, 172, 173, 174, 175, 176, 177, 178, 179, 180, 181, 182, 183, 184, 185] [(128, 0), (128, 1), (129, 1), (152, 0), (152, 1), (152, 2), (152, 3), (152, 4), (152, 5), (152, 6), (152, 8), (154, 0), (154, 1), (154, 2), (160, -1), (161, -1), (162, -1), (163, -1), (164, -1)] S G S (hw [(128, 0)] G G37) := (gr_hw (gr_refl [139, 152, 160, 161, 162, 163, 164, 165, 166, 167, 168, 169, 170, 171, 172, 173, 174, 175, 176, 177, 178, 179, 180, 181, 182, 183, 184, 185] [(128, 0), (128, 1), (129, 1), (152, 0), (152, 1), (152, 2), (152, 3), (152, 4), (152, 5), (152, 6), (152, 8), (154, 0), (154, 1), (154, 2), (160, -1), (161, -1), (162, -1), (163, -1), (164, -1)] S G) rfl)
                have ci43 : CI E S (hw [(128, 0)] G G37) := (ci_hw ci rfl)
                refine r_tk hX (fun tk44 => ?_)
                refine r_newA hX hP rfl (L := 152) (N := 9) nw_X11_132_152 (by omega) (by omega) (fun n45 S46 G47 n45z n45n n45l g48 n45v => ?_)
                have z49 : S n45 = 0 := gr_zero g42 n45z
                have s50 : S46 this = 128 := gr_lab g48 hS (by decide)
                have s51 : S46 if1 = 154 := gr_lab g48 if1s (by decide)
                have e52 : if1 = G47 128 this 6 := gr_val g48 if1e hS (by decide) rfl
                have e53 : sip2 = G47 154 if1 2 := gr_val g48 sip2e if1s (by decide) rfl
                have e54 : lf6 = G47 128 this 1 := gr_val g48 lf6e hS (by decide) rfl
                have g55 : Gr [139, 152, 160, 161, 162, 163, 164, 165, 166, 167, 168, 169, 170, 171, 172, 173, 174, 175, 176, 177, 178, 179, 180, 181, 182, 183, 184, 185] [(128, 0), (128, 1), (129, 1), (152, 0), (152, 1), (152, 2), (152, 3), (152, 4), (152, 5), (152, 6), (152, 8), (154, 0), (154, 1), (154, 2), (160, -1), (161, -1), (162, -1), (163, -1), (164, -1)] S G S46 G47 := gr_call g42 g48 rfl rfl
                have ci56 : CI E S46 G47 := ci_gr ci43 tk44 g48 rfl rfl
                refine r_ex hX hP 5 (pc' := 123) (st' := [(0, known), (0, shares), (0, day), (0, paper), (2, n45), (2, n45)]) (lo' := [(0, (2, this)), (1, (0, account)), (2, (0, paper)), (3, (0, day)), (4, (0, shares)), (5, (0, worth)), (6, (0, known)), (7, (0, l7_j22)), (8, (0, l8_j66))]) rfl ?_
                refine r_callI gd hX hP rfl ci_X11_134 n45n (d' := 4) (mc' := 0) (ms' := 0) (as' := [(0, paper), (0, day), (0, shares), (0, known)]) (st := [(2, n45)]) (by omega) (by omega) (by omega) rfl rfl (Nat.le_of_ble_eq_true rfl) (c_X1_init E S46 G47 n45 paper day shares known n45l (by omega) (by omega) (by omega) (by omega) (by omega) (by omega) (by omega) (by omega)) ?_
                rintro _ _ _ ⟨rfl, ⟨G57, rfl⟩, rfl, -⟩
                refine r_ex hX hP 3 (pc' := 131) (st' := [(0, account), (2, n45)]) (lo' := [(0, (2, this)), (1, (0, account)), (2, (0, paper)), (3, (0, day)), (4, (0, shares)), (5, (0, worth)), (6, (0, known)), (7, (0, l7_j22)), (8, (0, l8_j66)), (9, (2, n45))]) rfl ?_
                refine r_putIK hX hP rfl fp_X11_137_152 n45l (by omega) (by omega) (fun h58 => ?_)
                refine r_ex hX hP 2 (pc' := 138) (st' := [(0, worth), (2, n45)]) (lo' := [(0, (2, this)), (1, (0, account)), (2, (0, paper)), (3, (0, day)), (4, (0, shares)), (5, (0, worth)), (6, (0, known)), (7, (0, l7_j22)), (8, (0, l8_j66)), (9, (2, n45))]) rfl ?_
                refine r_putIK hX hP rfl fp_X11_140_152 n45l (by omega) (by omega) (fun h59 => ?_)
                have g60 : Gr [139, 152, 160, 161, 162, 163, 164, 165, 166, 167, 168, 169, 170, 171, 172, 173, 174, 175, 176, 177, 178, 179, 180, 181, 182, 183, 184, 185] [(128, 0), (128, 1), (129, 1), (152, 0), (152, 1), (152, 2), (152, 3), (152, 4), (152, 5), (152, 6), (152, 8), (154, 0), (154, 1), (154, 2), (160, -1), (161, -1), (162, -1), (163, -1), (164, -1)] S G S46 (up (up (hw [(152, 0), (152, 1), (152, 2), (152, 3), (152, 4), (152, 5), (152, 6)] G47 G57) 152 n45 6 account) 152 n45 8 worth) := (gr_up (gr_up (gr_hw g55 rfl) rfl) rfl)
                refine r_finA hX (L := 152) (ci := 2) (fs := fs_152) rfl n45l (by decide) (fun hr61 => ?_)
                have hf62 : Fnl E fs_139 152 S46 (up (up (hw [(152, 0), (152, 1), (152, 2), (152, 3), (152, 4), (152, 5), (152, 6)] G47 G57) 152 n45 6 account) 152 n45 8 worth) n45 := by
                  intro j hj
                  rcases (by have : j < 9 := hj; omega : j = 0 ∨ j = 1 ∨ j = 2 ∨ j = 3 ∨ j = 4 ∨ j = 5 ∨ j = 6 ∨ j = 7 ∨ j = 8) with rfl | rfl | rfl | rfl | rfl | rfl | rfl | rfl | rfl
                  · exact hr61 0 (by decide)
                  · exact hr61 1 (by decide)
                  · exact hr61 2 (by decide)
                  · exact hr61 3 (by decide)
                  · exact hr61 4 (by decide)
                  · exact hr61 5 (by decide)
                  · have e : account = (up (up (hw [(152, 0), (152, 1), (152, 2), (152, 3), (152, 4), (152, 5), (152, 6)] G47 G57) 152 n45 6 account) 152 n45 8 worth) 152 n45 6 := h58; show (0 : Int) ≤ (up (up (hw [(152, 0), (152, 1), (152, 2), (152, 3), (152, 4), (152, 5), (152, 6)] G47 G57) 152 n45 6 account) 152 n45 8 worth) 152 n45 6 ∧ (up (up (hw [(152, 0), (152, 1), (152, 2), (152, 3), (152, 4), (152, 5), (152, 6)] G47 G57) 152 n45 6 account) 152 n45 8 worth) 152 n45 6 ≤ 19; omega
                  · exact hr61 7 (by decide)
                  · have e : worth = (up (up (hw [(152, 0), (152, 1), (152, 2), (152, 3), (152, 4), (152, 5), (152, 6)] G47 G57) 152 n45 6 account) 152 n45 8 worth) 152 n45 8 := h59; show ((-2147483648) : Int) ≤ (up (up (hw [(152, 0), (152, 1), (152, 2), (152, 3), (152, 4), (152, 5), (152, 6)] G47 G57) 152 n45 6 account) 152 n45 8 worth) 152 n45 8 ∧ (up (up (hw [(152, 0), (152, 1), (152, 2), (152, 3), (152, 4), (152, 5), (152, 6)] G47 G57) 152 n45 6 account) 152 n45 8 worth) 152 n45 8 ≤ 2147483647; omega
                have ci63 : CI E S46 (up (up (hw [(152, 0), (152, 1), (152, 2), (152, 3), (152, 4), (152, 5), (152, 6)] G47 G57) 152 n45 6 account) 152 n45 8 worth) := (ci_up (ci_up (ci_hw ci56 rfl) rfl) rfl)
                refine r_tk hX (fun tk64 => ?_)
                refine r_relabF hX (L := 152) (L' := 139) (ci := 2) (fs := fs_152) (fs' := fs_139) rfl rfl rfl (by decide) (by decide) nf_152 (by decide) n45l hf62 (fun S66 G67 r65 => ?_)
                have s69 : S66 this = 128 := r65.lab n45l s50 (by decide)
                have s70 : S66 if1 = 154 := r65.lab n45l s51 (by decide)
                have e71 : if1 = G67 128 this 6 := rs_val r65 n45l e52 s50 (by decide)
                have e72 : sip2 = G67 154 if1 2 := rs_val r65 n45l e53 s51 (by decide)
                have e73 : lf6 = G67 128 this 1 := rs_val r65 n45l e54 s50 (by decide)
                have e74 : account = G67 139 n45 6 := h58.trans (r65.2.2.1 6).symm
                have e75 : worth = G67 139 n45 8 := h59.trans (r65.2.2.1 8).symm
                have g76 : Gr [139, 152, 160, 161, 162, 163, 164, 165, 166, 167, 168, 169, 170, 171, 172, 173, 174, 175, 176, 177, 178, 179, 180, 181, 182, 183, 184, 185] [(128, 0), (128, 1), (129, 1), (152, 0), (152, 1), (152, 2), (152, 3), (152, 4), (152, 5), (152, 6), (152, 8), (154, 0), (154, 1), (154, 2), (160, -1), (161, -1), (162, -1), (163, -1), (164, -1)] S G S66 G67 := gr_rs g60 r65 z49 rfl
                have ci77 : CI E S66 G67 := ci_rs ci63 tk64 r65 n45l rfl rfl (fun e => absurd e (by decide)) (fun e => absurd e (by decide))
                refine r_ex hX hP 1 (pc' := 142) (st' := [(2, this)]) (lo' := [(0, (2, this)), (1, (0, account)), (2, (0, paper)), (3, (0, day)), (4, (0, shares)), (5, (0, worth)), (6, (0, known)), (7, (0, l7_j22)), (8, (0, l8_j66)), (9, (2, n45))]) rfl ?_
                refine r_getKR hX hP rfl fl_X11_29_128 s69 (x := if1) e71 ?_
                refine r_ex hX hP 1 (pc' := 147) (st' := [(2, n45), (2, if1)]) (lo' := [(0, (2, this)), (1, (0, account)), (2, (0, paper)), (3, (0, day)), (4, (0, shares)), (5, (0, worth)), (6, (0, known)), (7, (0, l7_j22)), (8, (0, l8_j66)), (9, (2, n45))]) rfl ?_
                refine r_tk hX (fun tk78 => ?_)
                refine r_callV gd hX hP rfl cv_X11_143_154 s70 (d' := 14) (mc' := 1) (ms' := 49) (as' := [(2, n45)]) (st := []) (by omega) (by omega) (by omega) rfl rfl (Nat.le_of_ble_eq_true rfl) (c_add_Lis E S66 G67 if1 n45 s70 r65.1 sip2 e72 (by omega) ci77) ?_
                rintro _ S79 G80 ⟨g81, z82, rfl, z82a, z82b, ci83, q84⟩
                have s85 : S79 this = 128 := gr_lab g81 s69 (by decide)
                have s86 : S79 if1 = 154 := gr_lab g81 s70 (by decide)
                have s87 : S79 n45 = 139 := gr_lab g81 r65.1 (by decide)
                have e88 : if1 = G80 128 this 6 := gr_val g81 e71 s69 (by decide) rfl
                have e89 : lf6 = G80 128 this 1 := gr_val g81 e73 s69 (by decide) rfl
                have e90 : account = G80 139 n45 6 := gr_val g81 e74 r65.1 (by decide) rfl
                have e91 : worth = G80 139 n45 8 := gr_val g81 e75 r65.1 (by decide) rfl
                have g92 : Gr [139, 152, 160, 161, 162, 163, 164, 165, 166, 167, 168, 169, 170, 171, 172, 173, 174, 175, 176, 177, 178, 179, 180, 181, 182, 183, 184, 185] [(128, 0), (128, 1), (129, 1), (152, 0), (152, 1), (152, 2), (152, 3), (152, 4), (152, 5), (152, 6), (152, 8), (154, 0), (154, 1), (154, 2), (160, -1), (161, -1), (162, -1), (163, -1), (164, -1)] S G S79 G80 := gr_call g76 g81 rfl rfl
                refine r_ex hX hP 3 (pc' := 154) (st' := [(0, known), (2, this)]) (lo' := [(0, (2, this)), (1, (0, account)), (2, (0, paper)), (3, (0, day)), (4, (0, shares)), (5, (0, worth)), (6, (0, known)), (7, (0, l7_j22)), (8, (0, l8_j66)), (9, (2, n45))]) rfl ?_
                refine r_callV gd hX hP rfl cv_X11_147_128 s85 (d' := 0) (mc' := 0) (ms' := 0) (as' := [(0, known)]) (st := []) (by omega) (by omega) (by omega) rfl rfl (Nat.le_of_ble_eq_true rfl) (c_X11_tell E S79 G80 this known s85 (by omega) (by omega)) ?_
                rintro _ _ _ ⟨rfl, ⟨G93, rfl⟩, rfl, -⟩
                refine r_ex hX hP 1 (pc' := 158) (st' := [(0, 1)]) (lo' := [(0, (2, this)), (1, (0, account)), (2, (0, paper)), (3, (0, day)), (4, (0, shares)), (5, (0, worth)), (6, (0, known)), (7, (0, l7_j22)), (8, (0, l8_j66)), (9, (2, n45))]) rfl ?_
                have g94 : Gr [139, 152, 160, 161, 162, 163, 164, 165, 166, 167, 168, 169, 170, 171, 172, 173, 174, 175, 176, 177, 178, 179, 180, 181, 182, 183, 184, 185] [(128, 0), (128, 1), (129, 1), (152, 0), (152, 1), (152, 2), (152, 3), (152, 4), (152, 5), (152, 6), (152, 8), (154, 0), (154, 1), (154, 2), (160, -1), (161, -1), (162, -1), (163, -1), (164, -1)] S G S79 (hw [(128, 1), (129, 1)] G80 G93) := (gr_hw g92 rfl)
                have ci95 : CI E S79 (hw [(128, 1), (129, 1)] G80 G93) := (ci_hw ci83 rfl)
                exact r_retZ hX hP rfl rfl (by omega) (by omega) (by omega) (by omega) ⟨g94, 1, rfl, (by omega), (by omega), ci95⟩
              · skip
                exfalso; omega
        · skip
          refine r_ex hX hP 2 (pc' := 102) (st' := [(0, 1), (0, 0), (0, l8_j66), (0, l7_j22), (2, this)]) (lo' := [(0, (2, this)), (1, (0, account)), (2, (0, paper)), (3, (0, day)), (4, (0, shares)), (5, (0, worth)), (6, (0, known)), (7, (0, l7_j22)), (8, (0, l8_j66))]) rfl ?_
          refine r_callS gd hX hP rfl cs_X11_112 (d' := 0) (mc' := 0) (ms' := 0) (as' := [(0, l7_j22), (0, l8_j66), (0, 0), (0, 1)]) (st := [(2, this)]) (by omega) (by omega) (by omega) rfl rfl (Nat.le_of_ble_eq_true rfl) (c_X11_first E S G l7_j22 l8_j66 0 1 (by omega) (by omega) (by omega) (by omega) (by omega) (by omega) (by omega) (by omega)) ?_
          rintro _ _ _ ⟨rfl, rfl, z96, rfl, (⟨rfl, f97⟩ | ⟨rfl, f98, f99⟩ | ⟨rfl, f100, f101, f102⟩ | ⟨rfl, f103, f104, f105, f106⟩ | ⟨rfl, f107, f108, f109, f110⟩)⟩
          · skip
            refine r_callV gd hX hP rfl cv_X11_90_128 hS (d' := 0) (mc' := 0) (ms' := 0) (as' := [(0, 1)]) (st := []) (by omega) (by omega) (by omega) rfl rfl (Nat.le_of_ble_eq_true rfl) (c_X11_refused E S G this 1 hS (by omega) (by omega)) ?_
            rintro _ _ _ ⟨rfl, ⟨G111, rfl⟩, z112, rfl, (⟨rfl, f113⟩ | ⟨rfl, f114⟩)⟩
            · skip
              refine r_if_eq hX hP rfl (tgt := 113) rfl (by omega) (by omega) (fun c115 => ?_) (fun c115 => ?_)
              · skip
                exfalso; omega
              · skip
                refine r_ex hX hP 1 (pc' := 112) (st' := [(0, 0)]) (lo' := [(0, (2, this)), (1, (0, account)), (2, (0, paper)), (3, (0, day)), (4, (0, shares)), (5, (0, worth)), (6, (0, known)), (7, (0, l7_j22)), (8, (0, l8_j66))]) rfl ?_
                have g116 : Gr [139, 152, 160, 161, 162, 163, 164, 165, 166, 167, 168, 169, 170, 171, 172, 173, 174, 175, 176, 177, 178, 179, 180, 181, 182, 183, 184, 185] [(128, 0), (128, 1), (129, 1), (152, 0), (152, 1), (152, 2), (152, 3), (152, 4), (152, 5), (152, 6), (152, 8), (154, 0), (154, 1), (154, 2), (160, -1), (161, -1), (162, -1), (163, -1), (164, -1)] S G S (hw [(128, 0)] G G111) := (gr_hw (gr_refl [139, 152, 160, 161, 162, 163, 164, 165, 166, 167, 168, 169, 170, 171, 172, 173, 174, 175, 176, 177, 178, 179, 180, 181, 182, 183, 184, 185] [(128, 0), (128, 1), (129, 1), (152, 0), (152, 1), (152, 2), (152, 3), (152, 4), (152, 5), (152, 6), (152, 8), (154, 0), (154, 1), (154, 2), (160, -1), (161, -1), (162, -1), (163, -1), (164, -1)] S G) rfl)
                have ci117 : CI E S (hw [(128, 0)] G G111) := (ci_hw ci rfl)
                exact r_retZ hX hP rfl rfl (by omega) (by omega) (by omega) (by omega) ⟨g116, 0, rfl, (by omega), (by omega), ci117⟩
            · skip
              exfalso; omega
          · skip
            refine r_callV gd hX hP rfl cv_X11_90_128 hS (d' := 0) (mc' := 0) (ms' := 0) (as' := [(0, 2)]) (st := []) (by omega) (by omega) (by omega) rfl rfl (Nat.le_of_ble_eq_true rfl) (c_X11_refused E S G this 2 hS (by omega) (by omega)) ?_
            rintro _ _ _ ⟨rfl, ⟨G118, rfl⟩, z119, rfl, (⟨rfl, f120⟩ | ⟨rfl, f121⟩)⟩
            · skip
              refine r_if_eq hX hP rfl (tgt := 113) rfl (by omega) (by omega) (fun c122 => ?_) (fun c122 => ?_)
              · skip
                exfalso; omega
              · skip
                refine r_ex hX hP 1 (pc' := 112) (st' := [(0, 0)]) (lo' := [(0, (2, this)), (1, (0, account)), (2, (0, paper)), (3, (0, day)), (4, (0, shares)), (5, (0, worth)), (6, (0, known)), (7, (0, l7_j22)), (8, (0, l8_j66))]) rfl ?_
                have g123 : Gr [139, 152, 160, 161, 162, 163, 164, 165, 166, 167, 168, 169, 170, 171, 172, 173, 174, 175, 176, 177, 178, 179, 180, 181, 182, 183, 184, 185] [(128, 0), (128, 1), (129, 1), (152, 0), (152, 1), (152, 2), (152, 3), (152, 4), (152, 5), (152, 6), (152, 8), (154, 0), (154, 1), (154, 2), (160, -1), (161, -1), (162, -1), (163, -1), (164, -1)] S G S (hw [(128, 0)] G G118) := (gr_hw (gr_refl [139, 152, 160, 161, 162, 163, 164, 165, 166, 167, 168, 169, 170, 171, 172, 173, 174, 175, 176, 177, 178, 179, 180, 181, 182, 183, 184, 185] [(128, 0), (128, 1), (129, 1), (152, 0), (152, 1), (152, 2), (152, 3), (152, 4), (152, 5), (152, 6), (152, 8), (154, 0), (154, 1), (154, 2), (160, -1), (161, -1), (162, -1), (163, -1), (164, -1)] S G) rfl)
                have ci124 : CI E S (hw [(128, 0)] G G118) := (ci_hw ci rfl)
                exact r_retZ hX hP rfl rfl (by omega) (by omega) (by omega) (by omega) ⟨g123, 0, rfl, (by omega), (by omega), ci124⟩
            · skip
              exfalso; omega
          · skip
            exfalso; omega
          · skip
            refine r_callV gd hX hP rfl cv_X11_90_128 hS (d' := 0) (mc' := 0) (ms' := 0) (as' := [(0, 4)]) (st := []) (by omega) (by omega) (by omega) rfl rfl (Nat.le_of_ble_eq_true rfl) (c_X11_refused E S G this 4 hS (by omega) (by omega)) ?_
            rintro _ _ _ ⟨rfl, ⟨G125, rfl⟩, z126, rfl, (⟨rfl, f127⟩ | ⟨rfl, f128⟩)⟩
            · skip
              refine r_if_eq hX hP rfl (tgt := 113) rfl (by omega) (by omega) (fun c129 => ?_) (fun c129 => ?_)
              · skip
                exfalso; omega
              · skip
                refine r_ex hX hP 1 (pc' := 112) (st' := [(0, 0)]) (lo' := [(0, (2, this)), (1, (0, account)), (2, (0, paper)), (3, (0, day)), (4, (0, shares)), (5, (0, worth)), (6, (0, known)), (7, (0, l7_j22)), (8, (0, l8_j66))]) rfl ?_
                have g130 : Gr [139, 152, 160, 161, 162, 163, 164, 165, 166, 167, 168, 169, 170, 171, 172, 173, 174, 175, 176, 177, 178, 179, 180, 181, 182, 183, 184, 185] [(128, 0), (128, 1), (129, 1), (152, 0), (152, 1), (152, 2), (152, 3), (152, 4), (152, 5), (152, 6), (152, 8), (154, 0), (154, 1), (154, 2), (160, -1), (161, -1), (162, -1), (163, -1), (164, -1)] S G S (hw [(128, 0)] G G125) := (gr_hw (gr_refl [139, 152, 160, 161, 162, 163, 164, 165, 166, 167, 168, 169, 170, 171, 172, 173, 174, 175, 176, 177, 178, 179, 180, 181, 182, 183, 184, 185] [(128, 0), (128, 1), (129, 1), (152, 0), (152, 1), (152, 2), (152, 3), (152, 4), (152, 5), (152, 6), (152, 8), (154, 0), (154, 1), (154, 2), (160, -1), (161, -1), (162, -1), (163, -1), (164, -1)] S G) rfl)
                have ci131 : CI E S (hw [(128, 0)] G G125) := (ci_hw ci rfl)
                exact r_retZ hX hP rfl rfl (by omega) (by omega) (by omega) (by omega) ⟨g130, 0, rfl, (by omega), (by omega), ci131⟩
            · skip
              exfalso; omega
          · skip
            exfalso; omega
      · skip
        refine r_ex hX hP 4 (pc' := 91) (st' := [(2, this), (0, known), (0, 1), (0, l8_j66), (0, l7_j22), (2, this)]) (lo' := [(0, (2, this)), (1, (0, account)), (2, (0, paper)), (3, (0, day)), (4, (0, shares)), (5, (0, worth)), (6, (0, known)), (7, (0, l7_j22)), (8, (0, l8_j66))]) rfl ?_
        refine r_getI hX hP rfl fl_X11_129_128 hS (fun lf132 lf132e lf132a lf132b => ?_)
        refine r_ic_ge hX hP rfl (tgt := 101) rfl (by omega) (by omega) (by omega) (by omega) (fun c133 => ?_) (fun c133 => ?_)
        · skip
          refine r_ex hX hP 1 (pc' := 102) (st' := [(0, 0), (0, 1), (0, l8_j66), (0, l7_j22), (2, this)]) (lo' := [(0, (2, this)), (1, (0, account)), (2, (0, paper)), (3, (0, day)), (4, (0, shares)), (5, (0, worth)), (6, (0, known)), (7, (0, l7_j22)), (8, (0, l8_j66))]) rfl ?_
          refine r_callS gd hX hP rfl cs_X11_112 (d' := 0) (mc' := 0) (ms' := 0) (as' := [(0, l7_j22), (0, l8_j66), (0, 1), (0, 0)]) (st := [(2, this)]) (by omega) (by omega) (by omega) rfl rfl (Nat.le_of_ble_eq_true rfl) (c_X11_first E S G l7_j22 l8_j66 1 0 (by omega) (by omega) (by omega) (by omega) (by omega) (by omega) (by omega) (by omega)) ?_
          rintro _ _ _ ⟨rfl, rfl, z134, rfl, (⟨rfl, f135⟩ | ⟨rfl, f136, f137⟩ | ⟨rfl, f138, f139, f140⟩ | ⟨rfl, f141, f142, f143, f144⟩ | ⟨rfl, f145, f146, f147, f148⟩)⟩
          · skip
            refine r_callV gd hX hP rfl cv_X11_90_128 hS (d' := 0) (mc' := 0) (ms' := 0) (as' := [(0, 1)]) (st := []) (by omega) (by omega) (by omega) rfl rfl (Nat.le_of_ble_eq_true rfl) (c_X11_refused E S G this 1 hS (by omega) (by omega)) ?_
            rintro _ _ _ ⟨rfl, ⟨G149, rfl⟩, z150, rfl, (⟨rfl, f151⟩ | ⟨rfl, f152⟩)⟩
            · skip
              refine r_if_eq hX hP rfl (tgt := 113) rfl (by omega) (by omega) (fun c153 => ?_) (fun c153 => ?_)
              · skip
                exfalso; omega
              · skip
                refine r_ex hX hP 1 (pc' := 112) (st' := [(0, 0)]) (lo' := [(0, (2, this)), (1, (0, account)), (2, (0, paper)), (3, (0, day)), (4, (0, shares)), (5, (0, worth)), (6, (0, known)), (7, (0, l7_j22)), (8, (0, l8_j66))]) rfl ?_
                have g154 : Gr [139, 152, 160, 161, 162, 163, 164, 165, 166, 167, 168, 169, 170, 171, 172, 173, 174, 175, 176, 177, 178, 179, 180, 181, 182, 183, 184, 185] [(128, 0), (128, 1), (129, 1), (152, 0), (152, 1), (152, 2), (152, 3), (152, 4), (152, 5), (152, 6), (152, 8), (154, 0), (154, 1), (154, 2), (160, -1), (161, -1), (162, -1), (163, -1), (164, -1)] S G S (hw [(128, 0)] G G149) := (gr_hw (gr_refl [139, 152, 160, 161, 162, 163, 164, 165, 166, 167, 168, 169, 170, 171, 172, 173, 174, 175, 176, 177, 178, 179, 180, 181, 182, 183, 184, 185] [(128, 0), (128, 1), (129, 1), (152, 0), (152, 1), (152, 2), (152, 3), (152, 4), (152, 5), (152, 6), (152, 8), (154, 0), (154, 1), (154, 2), (160, -1), (161, -1), (162, -1), (163, -1), (164, -1)] S G) rfl)
                have ci155 : CI E S (hw [(128, 0)] G G149) := (ci_hw ci rfl)
                exact r_retZ hX hP rfl rfl (by omega) (by omega) (by omega) (by omega) ⟨g154, 0, rfl, (by omega), (by omega), ci155⟩
            · skip
              exfalso; omega
          · skip
            refine r_callV gd hX hP rfl cv_X11_90_128 hS (d' := 0) (mc' := 0) (ms' := 0) (as' := [(0, 2)]) (st := []) (by omega) (by omega) (by omega) rfl rfl (Nat.le_of_ble_eq_true rfl) (c_X11_refused E S G this 2 hS (by omega) (by omega)) ?_
            rintro _ _ _ ⟨rfl, ⟨G156, rfl⟩, z157, rfl, (⟨rfl, f158⟩ | ⟨rfl, f159⟩)⟩
            · skip
              refine r_if_eq hX hP rfl (tgt := 113) rfl (by omega) (by omega) (fun c160 => ?_) (fun c160 => ?_)
              · skip
                exfalso; omega
              · skip
                refine r_ex hX hP 1 (pc' := 112) (st' := [(0, 0)]) (lo' := [(0, (2, this)), (1, (0, account)), (2, (0, paper)), (3, (0, day)), (4, (0, shares)), (5, (0, worth)), (6, (0, known)), (7, (0, l7_j22)), (8, (0, l8_j66))]) rfl ?_
                have g161 : Gr [139, 152, 160, 161, 162, 163, 164, 165, 166, 167, 168, 169, 170, 171, 172, 173, 174, 175, 176, 177, 178, 179, 180, 181, 182, 183, 184, 185] [(128, 0), (128, 1), (129, 1), (152, 0), (152, 1), (152, 2), (152, 3), (152, 4), (152, 5), (152, 6), (152, 8), (154, 0), (154, 1), (154, 2), (160, -1), (161, -1), (162, -1), (163, -1), (164, -1)] S G S (hw [(128, 0)] G G156) := (gr_hw (gr_refl [139, 152, 160, 161, 162, 163, 164, 165, 166, 167, 168, 169, 170, 171, 172, 173, 174, 175, 176, 177, 178, 179, 180, 181, 182, 183, 184, 185] [(128, 0), (128, 1), (129, 1), (152, 0), (152, 1), (152, 2), (152, 3), (152, 4), (152, 5), (152, 6), (152, 8), (154, 0), (154, 1), (154, 2), (160, -1), (161, -1), (162, -1), (163, -1), (164, -1)] S G) rfl)
                have ci162 : CI E S (hw [(128, 0)] G G156) := (ci_hw ci rfl)
                exact r_retZ hX hP rfl rfl (by omega) (by omega) (by omega) (by omega) ⟨g161, 0, rfl, (by omega), (by omega), ci162⟩
            · skip
              exfalso; omega
          · skip
            refine r_callV gd hX hP rfl cv_X11_90_128 hS (d' := 0) (mc' := 0) (ms' := 0) (as' := [(0, 3)]) (st := []) (by omega) (by omega) (by omega) rfl rfl (Nat.le_of_ble_eq_true rfl) (c_X11_refused E S G this 3 hS (by omega) (by omega)) ?_
            rintro _ _ _ ⟨rfl, ⟨G163, rfl⟩, z164, rfl, (⟨rfl, f165⟩ | ⟨rfl, f166⟩)⟩
            · skip
              refine r_if_eq hX hP rfl (tgt := 113) rfl (by omega) (by omega) (fun c167 => ?_) (fun c167 => ?_)
              · skip
                exfalso; omega
              · skip
                refine r_ex hX hP 1 (pc' := 112) (st' := [(0, 0)]) (lo' := [(0, (2, this)), (1, (0, account)), (2, (0, paper)), (3, (0, day)), (4, (0, shares)), (5, (0, worth)), (6, (0, known)), (7, (0, l7_j22)), (8, (0, l8_j66))]) rfl ?_
                have g168 : Gr [139, 152, 160, 161, 162, 163, 164, 165, 166, 167, 168, 169, 170, 171, 172, 173, 174, 175, 176, 177, 178, 179, 180, 181, 182, 183, 184, 185] [(128, 0), (128, 1), (129, 1), (152, 0), (152, 1), (152, 2), (152, 3), (152, 4), (152, 5), (152, 6), (152, 8), (154, 0), (154, 1), (154, 2), (160, -1), (161, -1), (162, -1), (163, -1), (164, -1)] S G S (hw [(128, 0)] G G163) := (gr_hw (gr_refl [139, 152, 160, 161, 162, 163, 164, 165, 166, 167, 168, 169, 170, 171, 172, 173, 174, 175, 176, 177, 178, 179, 180, 181, 182, 183, 184, 185] [(128, 0), (128, 1), (129, 1), (152, 0), (152, 1), (152, 2), (152, 3), (152, 4), (152, 5), (152, 6), (152, 8), (154, 0), (154, 1), (154, 2), (160, -1), (161, -1), (162, -1), (163, -1), (164, -1)] S G) rfl)
                have ci169 : CI E S (hw [(128, 0)] G G163) := (ci_hw ci rfl)
                exact r_retZ hX hP rfl rfl (by omega) (by omega) (by omega) (by omega) ⟨g168, 0, rfl, (by omega), (by omega), ci169⟩
            · skip
              exfalso; omega
          · skip
            exfalso; omega
          · skip
            exfalso; omega
        · skip
          refine r_ex hX hP 2 (pc' := 102) (st' := [(0, 1), (0, 1), (0, l8_j66), (0, l7_j22), (2, this)]) (lo' := [(0, (2, this)), (1, (0, account)), (2, (0, paper)), (3, (0, day)), (4, (0, shares)), (5, (0, worth)), (6, (0, known)), (7, (0, l7_j22)), (8, (0, l8_j66))]) rfl ?_
          refine r_callS gd hX hP rfl cs_X11_112 (d' := 0) (mc' := 0) (ms' := 0) (as' := [(0, l7_j22), (0, l8_j66), (0, 1), (0, 1)]) (st := [(2, this)]) (by omega) (by omega) (by omega) rfl rfl (Nat.le_of_ble_eq_true rfl) (c_X11_first E S G l7_j22 l8_j66 1 1 (by omega) (by omega) (by omega) (by omega) (by omega) (by omega) (by omega) (by omega)) ?_
          rintro _ _ _ ⟨rfl, rfl, z170, rfl, (⟨rfl, f171⟩ | ⟨rfl, f172, f173⟩ | ⟨rfl, f174, f175, f176⟩ | ⟨rfl, f177, f178, f179, f180⟩ | ⟨rfl, f181, f182, f183, f184⟩)⟩
          · skip
            refine r_callV gd hX hP rfl cv_X11_90_128 hS (d' := 0) (mc' := 0) (ms' := 0) (as' := [(0, 1)]) (st := []) (by omega) (by omega) (by omega) rfl rfl (Nat.le_of_ble_eq_true rfl) (c_X11_refused E S G this 1 hS (by omega) (by omega)) ?_
            rintro _ _ _ ⟨rfl, ⟨G185, rfl⟩, z186, rfl, (⟨rfl, f187⟩ | ⟨rfl, f188⟩)⟩
            · skip
              refine r_if_eq hX hP rfl (tgt := 113) rfl (by omega) (by omega) (fun c189 => ?_) (fun c189 => ?_)
              · skip
                exfalso; omega
              · skip
                refine r_ex hX hP 1 (pc' := 112) (st' := [(0, 0)]) (lo' := [(0, (2, this)), (1, (0, account)), (2, (0, paper)), (3, (0, day)), (4, (0, shares)), (5, (0, worth)), (6, (0, known)), (7, (0, l7_j22)), (8, (0, l8_j66))]) rfl ?_
                have g190 : Gr [139, 152, 160, 161, 162, 163, 164, 165, 166, 167, 168, 169, 170, 171, 172, 173, 174, 175, 176, 177, 178, 179, 180, 181, 182, 183, 184, 185] [(128, 0), (128, 1), (129, 1), (152, 0), (152, 1), (152, 2), (152, 3), (152, 4), (152, 5), (152, 6), (152, 8), (154, 0), (154, 1), (154, 2), (160, -1), (161, -1), (162, -1), (163, -1), (164, -1)] S G S (hw [(128, 0)] G G185) := (gr_hw (gr_refl [139, 152, 160, 161, 162, 163, 164, 165, 166, 167, 168, 169, 170, 171, 172, 173, 174, 175, 176, 177, 178, 179, 180, 181, 182, 183, 184, 185] [(128, 0), (128, 1), (129, 1), (152, 0), (152, 1), (152, 2), (152, 3), (152, 4), (152, 5), (152, 6), (152, 8), (154, 0), (154, 1), (154, 2), (160, -1), (161, -1), (162, -1), (163, -1), (164, -1)] S G) rfl)
                have ci191 : CI E S (hw [(128, 0)] G G185) := (ci_hw ci rfl)
                exact r_retZ hX hP rfl rfl (by omega) (by omega) (by omega) (by omega) ⟨g190, 0, rfl, (by omega), (by omega), ci191⟩
            · skip
              exfalso; omega
          · skip
            refine r_callV gd hX hP rfl cv_X11_90_128 hS (d' := 0) (mc' := 0) (ms' := 0) (as' := [(0, 2)]) (st := []) (by omega) (by omega) (by omega) rfl rfl (Nat.le_of_ble_eq_true rfl) (c_X11_refused E S G this 2 hS (by omega) (by omega)) ?_
            rintro _ _ _ ⟨rfl, ⟨G192, rfl⟩, z193, rfl, (⟨rfl, f194⟩ | ⟨rfl, f195⟩)⟩
            · skip
              refine r_if_eq hX hP rfl (tgt := 113) rfl (by omega) (by omega) (fun c196 => ?_) (fun c196 => ?_)
              · skip
                exfalso; omega
              · skip
                refine r_ex hX hP 1 (pc' := 112) (st' := [(0, 0)]) (lo' := [(0, (2, this)), (1, (0, account)), (2, (0, paper)), (3, (0, day)), (4, (0, shares)), (5, (0, worth)), (6, (0, known)), (7, (0, l7_j22)), (8, (0, l8_j66))]) rfl ?_
                have g197 : Gr [139, 152, 160, 161, 162, 163, 164, 165, 166, 167, 168, 169, 170, 171, 172, 173, 174, 175, 176, 177, 178, 179, 180, 181, 182, 183, 184, 185] [(128, 0), (128, 1), (129, 1), (152, 0), (152, 1), (152, 2), (152, 3), (152, 4), (152, 5), (152, 6), (152, 8), (154, 0), (154, 1), (154, 2), (160, -1), (161, -1), (162, -1), (163, -1), (164, -1)] S G S (hw [(128, 0)] G G192) := (gr_hw (gr_refl [139, 152, 160, 161, 162, 163, 164, 165, 166, 167, 168, 169, 170, 171, 172, 173, 174, 175, 176, 177, 178, 179, 180, 181, 182, 183, 184, 185] [(128, 0), (128, 1), (129, 1), (152, 0), (152, 1), (152, 2), (152, 3), (152, 4), (152, 5), (152, 6), (152, 8), (154, 0), (154, 1), (154, 2), (160, -1), (161, -1), (162, -1), (163, -1), (164, -1)] S G) rfl)
                have ci198 : CI E S (hw [(128, 0)] G G192) := (ci_hw ci rfl)
                exact r_retZ hX hP rfl rfl (by omega) (by omega) (by omega) (by omega) ⟨g197, 0, rfl, (by omega), (by omega), ci198⟩
            · skip
              exfalso; omega
          · skip
            refine r_callV gd hX hP rfl cv_X11_90_128 hS (d' := 0) (mc' := 0) (ms' := 0) (as' := [(0, 3)]) (st := []) (by omega) (by omega) (by omega) rfl rfl (Nat.le_of_ble_eq_true rfl) (c_X11_refused E S G this 3 hS (by omega) (by omega)) ?_
            rintro _ _ _ ⟨rfl, ⟨G199, rfl⟩, z200, rfl, (⟨rfl, f201⟩ | ⟨rfl, f202⟩)⟩
            · skip
              refine r_if_eq hX hP rfl (tgt := 113) rfl (by omega) (by omega) (fun c203 => ?_) (fun c203 => ?_)
              · skip
                exfalso; omega
              · skip
                refine r_ex hX hP 1 (pc' := 112) (st' := [(0, 0)]) (lo' := [(0, (2, this)), (1, (0, account)), (2, (0, paper)), (3, (0, day)), (4, (0, shares)), (5, (0, worth)), (6, (0, known)), (7, (0, l7_j22)), (8, (0, l8_j66))]) rfl ?_
                have g204 : Gr [139, 152, 160, 161, 162, 163, 164, 165, 166, 167, 168, 169, 170, 171, 172, 173, 174, 175, 176, 177, 178, 179, 180, 181, 182, 183, 184, 185] [(128, 0), (128, 1), (129, 1), (152, 0), (152, 1), (152, 2), (152, 3), (152, 4), (152, 5), (152, 6), (152, 8), (154, 0), (154, 1), (154, 2), (160, -1), (161, -1), (162, -1), (163, -1), (164, -1)] S G S (hw [(128, 0)] G G199) := (gr_hw (gr_refl [139, 152, 160, 161, 162, 163, 164, 165, 166, 167, 168, 169, 170, 171, 172, 173, 174, 175, 176, 177, 178, 179, 180, 181, 182, 183, 184, 185] [(128, 0), (128, 1), (129, 1), (152, 0), (152, 1), (152, 2), (152, 3), (152, 4), (152, 5), (152, 6), (152, 8), (154, 0), (154, 1), (154, 2), (160, -1), (161, -1), (162, -1), (163, -1), (164, -1)] S G) rfl)
                have ci205 : CI E S (hw [(128, 0)] G G199) := (ci_hw ci rfl)
                exact r_retZ hX hP rfl rfl (by omega) (by omega) (by omega) (by omega) ⟨g204, 0, rfl, (by omega), (by omega), ci205⟩
            · skip
              exfalso; omega
          · skip
            exfalso; omega
          · skip
            exfalso; omega
    refine r_ex hX hP 1 (pc' := 23) (st' := [(0, day)]) (lo' := [(0, (2, this)), (1, (0, account)), (2, (0, paper)), (3, (0, day)), (4, (0, shares)), (5, (0, worth)), (6, (0, known)), (7, (0, l7_j22))]) rfl ?_
    refine r_callS gd hX hP rfl cs_X11_86 (d' := 1) (mc' := 0) (ms' := 0) (as' := [(0, day)]) (st := []) (by omega) (by omega) (by omega) rfl rfl (Nat.le_of_ble_eq_true rfl) (c_X11_isDay E S G day (by omega) (by omega)) ?_
    rintro _ _ _ ⟨rfl, rfl, z206, rfl, (⟨rfl, f207, f208⟩ | ⟨rfl, f209⟩)⟩
    · skip
      refine r_if_eq hX hP rfl (tgt := 59) rfl (by omega) (by omega) (fun c210 => ?_) (fun c210 => ?_)
      · skip
        exfalso; omega
      · skip
        refine r_ex hX hP 2 (pc' := 32) (st' := [(0, 1), (0, shares)]) (lo' := [(0, (2, this)), (1, (0, account)), (2, (0, paper)), (3, (0, day)), (4, (0, shares)), (5, (0, worth)), (6, (0, known)), (7, (0, l7_j22))]) rfl ?_
        refine r_ldc hX hP rfl (v := 1000000) (tbg sg3 10 rfl rfl) ?_
        refine r_callS gd hX hP rfl cs_X11_103 (d' := 0) (mc' := 0) (ms' := 0) (as' := [(0, shares), (0, 1), (0, 1000000)]) (st := []) (by omega) (by omega) (by omega) rfl rfl (Nat.le_of_ble_eq_true rfl) (c_X11_within E S G shares 1 1000000 (by omega) (by omega) (by omega) (by omega) (by omega) (by omega)) ?_
        rintro _ _ _ ⟨rfl, rfl, z211, rfl, (⟨rfl, f212, f213⟩ | ⟨rfl, f214⟩)⟩
        · skip
          refine r_if_eq hX hP rfl (tgt := 59) rfl (by omega) (by omega) (fun c215 => ?_) (fun c215 => ?_)
          · skip
            exfalso; omega
          · skip
            refine r_ex hX hP 2 (pc' := 43) (st' := [(0, 0), (0, worth)]) (lo' := [(0, (2, this)), (1, (0, account)), (2, (0, paper)), (3, (0, day)), (4, (0, shares)), (5, (0, worth)), (6, (0, known)), (7, (0, l7_j22))]) rfl ?_
            refine r_ldc hX hP rfl (v := 100000000) (tbg sg3 11 rfl rfl) ?_
            refine r_callS gd hX hP rfl cs_X11_103 (d' := 0) (mc' := 0) (ms' := 0) (as' := [(0, worth), (0, 0), (0, 100000000)]) (st := []) (by omega) (by omega) (by omega) rfl rfl (Nat.le_of_ble_eq_true rfl) (c_X11_within E S G worth 0 100000000 (by omega) (by omega) (by omega) (by omega) (by omega) (by omega)) ?_
            rintro _ _ _ ⟨rfl, rfl, z216, rfl, (⟨rfl, f217, f218⟩ | ⟨rfl, f219⟩)⟩
            · skip
              refine r_if_eq hX hP rfl (tgt := 59) rfl (by omega) (by omega) (fun c220 => ?_) (fun c220 => ?_)
              · skip
                exfalso; omega
              · skip
                refine r_ex hX hP 1 (pc' := 53) (st' := [(0, known)]) (lo' := [(0, (2, this)), (1, (0, account)), (2, (0, paper)), (3, (0, day)), (4, (0, shares)), (5, (0, worth)), (6, (0, known)), (7, (0, l7_j22))]) rfl ?_
                refine r_callS gd hX hP rfl cs_X11_86 (d' := 1) (mc' := 0) (ms' := 0) (as' := [(0, known)]) (st := []) (by omega) (by omega) (by omega) rfl rfl (Nat.le_of_ble_eq_true rfl) (c_X11_isDay E S G known (by omega) (by omega)) ?_
                rintro _ _ _ ⟨rfl, rfl, z221, rfl, (⟨rfl, f222, f223⟩ | ⟨rfl, f224⟩)⟩
                · skip
                  refine r_if_ne hX hP rfl (tgt := 63) rfl (by omega) (by omega) (fun c225 => ?_) (fun c225 => ?_)
                  · skip
                    refine r_ex hX hP 2 (pc' := 66) (st' := []) (lo' := [(0, (2, this)), (1, (0, account)), (2, (0, paper)), (3, (0, day)), (4, (0, shares)), (5, (0, worth)), (6, (0, known)), (7, (0, l7_j22)), (8, (0, 0))]) rfl ?_
                    exact j66 0 (by omega) (by omega) (by omega)
                  · skip
                    exfalso; omega
                · skip
                  refine r_if_ne hX hP rfl (tgt := 63) rfl (by omega) (by omega) (fun c226 => ?_) (fun c226 => ?_)
                  · skip
                    exfalso; omega
                  · skip
                    refine r_ex hX hP 3 (pc' := 66) (st' := []) (lo' := [(0, (2, this)), (1, (0, account)), (2, (0, paper)), (3, (0, day)), (4, (0, shares)), (5, (0, worth)), (6, (0, known)), (7, (0, l7_j22)), (8, (0, 1))]) rfl ?_
                    exact j66 1 (by omega) (by omega) (by omega)
            · skip
              refine r_if_eq hX hP rfl (tgt := 59) rfl (by omega) (by omega) (fun c227 => ?_) (fun c227 => ?_)
              · skip
                refine r_ex hX hP 3 (pc' := 66) (st' := []) (lo' := [(0, (2, this)), (1, (0, account)), (2, (0, paper)), (3, (0, day)), (4, (0, shares)), (5, (0, worth)), (6, (0, known)), (7, (0, l7_j22)), (8, (0, 1))]) rfl ?_
                exact j66 1 (by omega) (by omega) (by omega)
              · skip
                exfalso; omega
        · skip
          refine r_if_eq hX hP rfl (tgt := 59) rfl (by omega) (by omega) (fun c228 => ?_) (fun c228 => ?_)
          · skip
            refine r_ex hX hP 3 (pc' := 66) (st' := []) (lo' := [(0, (2, this)), (1, (0, account)), (2, (0, paper)), (3, (0, day)), (4, (0, shares)), (5, (0, worth)), (6, (0, known)), (7, (0, l7_j22)), (8, (0, 1))]) rfl ?_
            exact j66 1 (by omega) (by omega) (by omega)
          · skip
            exfalso; omega
    · skip
      refine r_if_eq hX hP rfl (tgt := 59) rfl (by omega) (by omega) (fun c229 => ?_) (fun c229 => ?_)
      · skip
        refine r_ex hX hP 3 (pc' := 66) (st' := []) (lo' := [(0, (2, this)), (1, (0, account)), (2, (0, paper)), (3, (0, day)), (4, (0, shares)), (5, (0, worth)), (6, (0, known)), (7, (0, l7_j22)), (8, (0, 1))]) rfl ?_
        exact j66 1 (by omega) (by omega) (by omega)
      · skip
        exfalso; omega
  refine r_ex hX hP 2 (pc' := 2) (st' := [(0, account), (2, this)]) (lo' := [(0, (2, this)), (1, (0, account)), (2, (0, paper)), (3, (0, day)), (4, (0, shares)), (5, (0, worth)), (6, (0, known))]) rfl ?_
  refine r_peekR hX (tl_128 5 rfl (by decide)) hS (fun acp230 acp230e acp230s => ?_)
  refine r_peekI hX (tl_130 0 rfl (by decide)) acp230s (fun cop231 cop231e cop231a cop231b => ?_)
  refine r_callV gd hX hP rfl cv_X11_100_128 hS (d' := 1) (mc' := 0) (ms' := 0) (as' := [(0, account)]) (st := []) (by omega) (by omega) (by omega) rfl rfl (Nat.le_of_ble_eq_true rfl) (c_X11_hasAccount E S G this account hS acp230 acp230e acp230s cop231 cop231e (by omega) (by omega)) ?_
  rintro _ _ _ ⟨rfl, rfl, z232, rfl, (⟨rfl, f233, f234⟩ | rfl)⟩
  · skip
    refine r_if_eq hX hP rfl (tgt := 15) rfl (by omega) (by omega) (fun c235 => ?_) (fun c235 => ?_)
    · skip
      exfalso; omega
    · skip
      refine r_ex hX hP 1 (pc' := 9) (st' := [(0, paper)]) (lo' := [(0, (2, this)), (1, (0, account)), (2, (0, paper)), (3, (0, day)), (4, (0, shares)), (5, (0, worth)), (6, (0, known))]) rfl ?_
      refine r_callS gd hX hP rfl cs_X11_120 (d' := 1) (mc' := 0) (ms' := 0) (as' := [(0, paper)]) (st := []) (by omega) (by omega) (by omega) rfl rfl (Nat.le_of_ble_eq_true rfl) (c_X11_isPaper E S G paper (by omega) (by omega)) ?_
      rintro _ _ _ ⟨rfl, rfl, z236, rfl, (⟨rfl, f237, f238⟩ | rfl)⟩
      · skip
        refine r_if_ne hX hP rfl (tgt := 19) rfl (by omega) (by omega) (fun c239 => ?_) (fun c239 => ?_)
        · skip
          refine r_ex hX hP 2 (pc' := 22) (st' := []) (lo' := [(0, (2, this)), (1, (0, account)), (2, (0, paper)), (3, (0, day)), (4, (0, shares)), (5, (0, worth)), (6, (0, known)), (7, (0, 0))]) rfl ?_
          exact j22 0 (by omega) (by omega) (by omega)
        · skip
          exfalso; omega
      · skip
        refine r_if_ne hX hP rfl (tgt := 19) rfl (by omega) (by omega) (fun c240 => ?_) (fun c240 => ?_)
        · skip
          exfalso; omega
        · skip
          refine r_ex hX hP 3 (pc' := 22) (st' := []) (lo' := [(0, (2, this)), (1, (0, account)), (2, (0, paper)), (3, (0, day)), (4, (0, shares)), (5, (0, worth)), (6, (0, known)), (7, (0, 1))]) rfl ?_
          exact j22 1 (by omega) (by omega) (by omega)
  · skip
    refine r_if_eq hX hP rfl (tgt := 15) rfl (by omega) (by omega) (fun c241 => ?_) (fun c241 => ?_)
    · skip
      refine r_ex hX hP 3 (pc' := 22) (st' := []) (lo' := [(0, (2, this)), (1, (0, account)), (2, (0, paper)), (3, (0, day)), (4, (0, shares)), (5, (0, worth)), (6, (0, known)), (7, (0, 1))]) rfl ?_
      exact j22 1 (by omega) (by omega) (by omega)
    · skip
      exfalso; omega
set_option maxRecDepth 100000 in
set_option maxHeartbeats 4000000 in
theorem c_X11_trade (E : En) (S : Sg) (G : Gh) (this : Int) (frm : Int) (to_ : Int) (paper : Int) (shares : Int) (dealt : Int) (settled : Int) (known : Int) (hS : S this = 128) (frm_a : (-2147483648) ≤ frm) (frm_b : frm ≤ 2147483647) (to__a : (-2147483648) ≤ to_) (to__b : to_ ≤ 2147483647) (paper_a : (-2147483648) ≤ paper) (paper_b : paper ≤ 2147483647) (shares_a : (-2147483648) ≤ shares) (shares_b : shares ≤ 2147483647) (dealt_a : (-2147483648) ≤ dealt) (dealt_b : dealt ≤ 2147483647) (settled_a : (-2147483648) ≤ settled) (settled_b : settled ≤ 2147483647) (known_a : (-2147483648) ≤ known) (known_b : known ≤ 2147483647) (ci : CI E S G) : Calls E mX11_trade [(2, this), (0, frm), (0, to_), (0, paper), (0, shares), (0, dealt), (0, settled), (0, known)] S G 15 2 82 (fun r S' G' => Gr [140, 152, 160, 161, 162, 163, 164, 165, 166, 167, 168, 169, 170, 171, 172, 173, 174, 175, 176, 177, 178, 179, 180, 181, 182, 183, 184, 185] [(128, 0), (128, 1), (129, 1), (152, 0), (152, 1), (152, 2), (152, 3), (152, 4), (152, 5), (152, 6), (152, 7), (155, 0), (155, 1), (155, 2), (165, -1), (166, -1), (167, -1), (168, -1), (169, -1)] S G S' G' ∧ ∃ z : Int, r = some (0, z) ∧ (-2147483648) ≤ z ∧ z ≤ 2147483647 ∧ CI E S' G') := by
  refine calls_by [(0, (2, this)), (1, (0, frm)), (2, (0, to_)), (3, (0, paper)), (4, (0, shares)), (5, (0, dealt)), (6, (0, settled)), (7, (0, known))] rfl rfl (Nat.le_of_ble_eq_true rfl) (fun X hX => ?_)
  have hP := hPX11_trade
  have j35 : ∀ (l8_j35 : Int), 0 ≤ l8_j35 → l8_j35 ≤ 1 → (l8_j35 = 1 ∨ (0 ≤ frm ∧ frm ≤ 19 ∧ 0 ≤ to_ ∧ to_ ≤ 19 ∧ 0 ≤ paper ∧ paper ≤ 19)) → X 0 0 35 [] [(0, (2, this)), (1, (0, frm)), (2, (0, to_)), (3, (0, paper)), (4, (0, shares)), (5, (0, dealt)), (6, (0, settled)), (7, (0, known)), (8, (0, l8_j35))] S G := by
    intro l8_j35 yj35_0 yj35_1 yj35_2
    have j84 : ∀ (l9_j84 : Int), 0 ≤ l9_j84 → l9_j84 ≤ 1 → (l9_j84 = 1 ∨ (0 ≤ dealt ∧ dealt ≤ 40000 ∧ 0 ≤ settled ∧ settled ≤ 40000 ∧ 0 ≤ known ∧ known ≤ 40000)) → X 0 0 84 [] [(0, (2, this)), (1, (0, frm)), (2, (0, to_)), (3, (0, paper)), (4, (0, shares)), (5, (0, dealt)), (6, (0, settled)), (7, (0, known)), (8, (0, l8_j35)), (9, (0, l9_j84))] S G := by
      intro l9_j84 yj84_0 yj84_1 yj84_2
      refine r_ex hX hP 4 (pc' := 90) (st' := [(2, this), (0, l9_j84), (0, l8_j35), (2, this)]) (lo' := [(0, (2, this)), (1, (0, frm)), (2, (0, to_)), (3, (0, paper)), (4, (0, shares)), (5, (0, dealt)), (6, (0, settled)), (7, (0, known)), (8, (0, l8_j35)), (9, (0, l9_j84))]) rfl ?_
      refine r_getR hX hP rfl fl_X11_33_128 hS (fun tf1 tf1e tf1s => ?_)
      refine r_peekI hX (tl_155 2 rfl (by decide)) tf1s (fun sip2 sip2e sip2a sip2b => ?_)
      refine r_callV gd hX hP rfl cv_X11_125_155 tf1s (d' := 0) (mc' := 0) (ms' := 0) (as' := []) (st := [(0, l9_j84), (0, l8_j35), (2, this)]) (by omega) (by omega) (by omega) rfl rfl (Nat.le_of_ble_eq_true rfl) (c_size_Ltr E S G tf1  tf1s sip2 sip2e) ?_
      rintro _ _ _ ⟨rfl, rfl, z3, rfl, z3a, z3b, f4⟩
      refine r_ex hX hP 1 (pc' := 98) (st' := [(0, 40), (0, z3), (0, l9_j84), (0, l8_j35), (2, this)]) (lo' := [(0, (2, this)), (1, (0, frm)), (2, (0, to_)), (3, (0, paper)), (4, (0, shares)), (5, (0, dealt)), (6, (0, settled)), (7, (0, known)), (8, (0, l8_j35)), (9, (0, l9_j84))]) rfl ?_
      refine r_ic_lt hX hP rfl (tgt := 105) rfl (by omega) (by omega) (by omega) (by omega) (fun c5 => ?_) (fun c5 => ?_)
      · skip
        refine r_ex hX hP 3 (pc' := 109) (st' := [(2, this), (0, known), (0, 0), (0, l9_j84), (0, l8_j35), (2, this)]) (lo' := [(0, (2, this)), (1, (0, frm)), (2, (0, to_)), (3, (0, paper)), (4, (0, shares)), (5, (0, dealt)), (6, (0, settled)), (7, (0, known)), (8, (0, l8_j35)), (9, (0, l9_j84))]) rfl ?_
        refine r_getI hX hP rfl fl_X11_129_128 hS (fun lf6 lf6e lf6a lf6b => ?_)
        refine r_ic_ge hX hP rfl (tgt := 119) rfl (by omega) (by omega) (by omega) (by omega) (fun c7 => ?_) (fun c7 => ?_)
        · skip
          refine r_ex hX hP 1 (pc' := 120) (st' := [(0, 0), (0, 0), (0, l9_j84), (0, l8_j35), (2, this)]) (lo' := [(0, (2, this)), (1, (0, frm)), (2, (0, to_)), (3, (0, paper)), (4, (0, shares)), (5, (0, dealt)), (6, (0, settled)), (7, (0, known)), (8, (0, l8_j35)), (9, (0, l9_j84))]) rfl ?_
          refine r_callS gd hX hP rfl cs_X11_112 (d' := 0) (mc' := 0) (ms' := 0) (as' := [(0, l8_j35), (0, l9_j84), (0, 0), (0, 0)]) (st := [(2, this)]) (by omega) (by omega) (by omega) rfl rfl (Nat.le_of_ble_eq_true rfl) (c_X11_first E S G l8_j35 l9_j84 0 0 (by omega) (by omega) (by omega) (by omega) (by omega) (by omega) (by omega) (by omega)) ?_
          rintro _ _ _ ⟨rfl, rfl, z8, rfl, (⟨rfl, f9⟩ | ⟨rfl, f10, f11⟩ | ⟨rfl, f12, f13, f14⟩ | ⟨rfl, f15, f16, f17, f18⟩ | ⟨rfl, f19, f20, f21, f22⟩)⟩
          · skip
            refine r_callV gd hX hP rfl cv_X11_90_128 hS (d' := 0) (mc' := 0) (ms' := 0) (as' := [(0, 1)]) (st := []) (by omega) (by omega) (by omega) rfl rfl (Nat.le_of_ble_eq_true rfl) (c_X11_refused E S G this 1 hS (by omega) (by omega)) ?_
            rintro _ _ _ ⟨rfl, ⟨G23, rfl⟩, z24, rfl, (⟨rfl, f25⟩ | ⟨rfl, f26⟩)⟩
            · skip
              refine r_if_eq hX hP rfl (tgt := 131) rfl (by omega) (by omega) (fun c27 => ?_) (fun c27 => ?_)
              · skip
                exfalso; omega
              · skip
                refine r_ex hX hP 1 (pc' := 130) (st' := [(0, (-1))]) (lo' := [(0, (2, this)), (1, (0, frm)), (2, (0, to_)), (3, (0, paper)), (4, (0, shares)), (5, (0, dealt)), (6, (0, settled)), (7, (0, known)), (8, (0, l8_j35)), (9, (0, l9_j84))]) rfl ?_
                have g28 : Gr [140, 152, 160, 161, 162, 163, 164, 165, 166, 167, 168, 169, 170, 171, 172, 173, 174, 175, 176, 177, 178, 179, 180, 181, 182, 183, 184, 185] [(128, 0), (128, 1), (129, 1), (152, 0), (152, 1), (152, 2), (152, 3), (152, 4), (152, 5), (152, 6), (152, 7), (155, 0), (155, 1), (155, 2), (165, -1), (166, -1), (167, -1), (168, -1), (169, -1)] S G S (hw [(128, 0)] G G23) := (gr_hw (gr_refl [140, 152, 160, 161, 162, 163, 164, 165, 166, 167, 168, 169, 170, 171, 172, 173, 174, 175, 176, 177, 178, 179, 180, 181, 182, 183, 184, 185] [(128, 0), (128, 1), (129, 1), (152, 0), (152, 1), (152, 2), (152, 3), (152, 4), (152, 5), (152, 6), (152, 7), (155, 0), (155, 1), (155, 2), (165, -1), (166, -1), (167, -1), (168, -1), (169, -1)] S G) rfl)
                have ci29 : CI E S (hw [(128, 0)] G G23) := (ci_hw ci rfl)
                exact r_retI hX hP rfl rfl (by omega) (by omega) ⟨g28, (-1), rfl, (by omega), (by omega), ci29⟩
            · skip
              exfalso; omega
          · skip
            refine r_callV gd hX hP rfl cv_X11_90_128 hS (d' := 0) (mc' := 0) (ms' := 0) (as' := [(0, 2)]) (st := []) (by omega) (by omega) (by omega) rfl rfl (Nat.le_of_ble_eq_true rfl) (c_X11_refused E S G this 2 hS (by omega) (by omega)) ?_
            rintro _ _ _ ⟨rfl, ⟨G30, rfl⟩, z31, rfl, (⟨rfl, f32⟩ | ⟨rfl, f33⟩)⟩
            · skip
              refine r_if_eq hX hP rfl (tgt := 131) rfl (by omega) (by omega) (fun c34 => ?_) (fun c34 => ?_)
              · skip
                exfalso; omega
              · skip
                refine r_ex hX hP 1 (pc' := 130) (st' := [(0, (-1))]) (lo' := [(0, (2, this)), (1, (0, frm)), (2, (0, to_)), (3, (0, paper)), (4, (0, shares)), (5, (0, dealt)), (6, (0, settled)), (7, (0, known)), (8, (0, l8_j35)), (9, (0, l9_j84))]) rfl ?_
                have g35 : Gr [140, 152, 160, 161, 162, 163, 164, 165, 166, 167, 168, 169, 170, 171, 172, 173, 174, 175, 176, 177, 178, 179, 180, 181, 182, 183, 184, 185] [(128, 0), (128, 1), (129, 1), (152, 0), (152, 1), (152, 2), (152, 3), (152, 4), (152, 5), (152, 6), (152, 7), (155, 0), (155, 1), (155, 2), (165, -1), (166, -1), (167, -1), (168, -1), (169, -1)] S G S (hw [(128, 0)] G G30) := (gr_hw (gr_refl [140, 152, 160, 161, 162, 163, 164, 165, 166, 167, 168, 169, 170, 171, 172, 173, 174, 175, 176, 177, 178, 179, 180, 181, 182, 183, 184, 185] [(128, 0), (128, 1), (129, 1), (152, 0), (152, 1), (152, 2), (152, 3), (152, 4), (152, 5), (152, 6), (152, 7), (155, 0), (155, 1), (155, 2), (165, -1), (166, -1), (167, -1), (168, -1), (169, -1)] S G) rfl)
                have ci36 : CI E S (hw [(128, 0)] G G30) := (ci_hw ci rfl)
                exact r_retI hX hP rfl rfl (by omega) (by omega) ⟨g35, (-1), rfl, (by omega), (by omega), ci36⟩
            · skip
              exfalso; omega
          · skip
            exfalso; omega
          · skip
            exfalso; omega
          · skip
            refine r_callV gd hX hP rfl cv_X11_90_128 hS (d' := 0) (mc' := 0) (ms' := 0) (as' := [(0, 0)]) (st := []) (by omega) (by omega) (by omega) rfl rfl (Nat.le_of_ble_eq_true rfl) (c_X11_refused E S G this 0 hS (by omega) (by omega)) ?_
            rintro _ _ _ ⟨rfl, ⟨G37, rfl⟩, z38, rfl, (⟨rfl, f39⟩ | ⟨rfl, f40⟩)⟩
            · skip
              exfalso; omega
            · skip
              refine r_if_eq hX hP rfl (tgt := 131) rfl (by omega) (by omega) (fun c41 => ?_) (fun c41 => ?_)
              · skip
                have g42 : Gr [140, 152, 160, 161, 162, 163, 164, 165, 166, 167, 168, 169, 170, 171, 172, 173, 174, 175, 176, 177, 178, 179, 180, 181, 182, 183, 184, 185] [(128, 0), (128, 1), (129, 1), (152, 0), (152, 1), (152, 2), (152, 3), (152, 4), (152, 5), (152, 6), (152, 7), (155, 0), (155, 1), (155, 2), (165, -1), (166, -1), (167, -1), (168, -1), (169, -1)] S G S (hw [(128, 0)] G G37) := (gr_hw (gr_refl [140, 152, 160, 161, 162, 163, 164, 165, 166, 167, 168, 169, 170, 171, 172, 173, 174, 175, 176, 177, 178, 179, 180, 181, 182, 183, 184, 185] [(128, 0), (128, 1), (129, 1), (152, 0), (152, 1), (152, 2), (152, 3), (152, 4), (152, 5), (152, 6), (152, 7), (155, 0), (155, 1), (155, 2), (165, -1), (166, -1), (167, -1), (168, -1), (169, -1)] S G) rfl)
                have ci43 : CI E S (hw [(128, 0)] G G37) := (ci_hw ci rfl)
                refine r_tk hX (fun tk44 => ?_)
                refine r_newA hX hP rfl (L := 152) (N := 9) nw_X11_132_152 (by omega) (by omega) (fun n45 S46 G47 n45z n45n n45l g48 n45v => ?_)
                have z49 : S n45 = 0 := gr_zero g42 n45z
                have s50 : S46 this = 128 := gr_lab g48 hS (by decide)
                have s51 : S46 tf1 = 155 := gr_lab g48 tf1s (by decide)
                have e52 : tf1 = G47 128 this 7 := gr_val g48 tf1e hS (by decide) rfl
                have e53 : sip2 = G47 155 tf1 2 := gr_val g48 sip2e tf1s (by decide) rfl
                have e54 : lf6 = G47 128 this 1 := gr_val g48 lf6e hS (by decide) rfl
                have g55 : Gr [140, 152, 160, 161, 162, 163, 164, 165, 166, 167, 168, 169, 170, 171, 172, 173, 174, 175, 176, 177, 178, 179, 180, 181, 182, 183, 184, 185] [(128, 0), (128, 1), (129, 1), (152, 0), (152, 1), (152, 2), (152, 3), (152, 4), (152, 5), (152, 6), (152, 7), (155, 0), (155, 1), (155, 2), (165, -1), (166, -1), (167, -1), (168, -1), (169, -1)] S G S46 G47 := gr_call g42 g48 rfl rfl
                have ci56 : CI E S46 G47 := ci_gr ci43 tk44 g48 rfl rfl
                refine r_ex hX hP 5 (pc' := 142) (st' := [(0, known), (0, shares), (0, settled), (0, paper), (2, n45), (2, n45)]) (lo' := [(0, (2, this)), (1, (0, frm)), (2, (0, to_)), (3, (0, paper)), (4, (0, shares)), (5, (0, dealt)), (6, (0, settled)), (7, (0, known)), (8, (0, l8_j35)), (9, (0, l9_j84))]) rfl ?_
                refine r_callI gd hX hP rfl ci_X11_134 n45n (d' := 4) (mc' := 0) (ms' := 0) (as' := [(0, paper), (0, settled), (0, shares), (0, known)]) (st := [(2, n45)]) (by omega) (by omega) (by omega) rfl rfl (Nat.le_of_ble_eq_true rfl) (c_X1_init E S46 G47 n45 paper settled shares known n45l (by omega) (by omega) (by omega) (by omega) (by omega) (by omega) (by omega) (by omega)) ?_
                rintro _ _ _ ⟨rfl, ⟨G57, rfl⟩, rfl, -⟩
                refine r_ex hX hP 3 (pc' := 150) (st' := [(0, frm), (2, n45)]) (lo' := [(0, (2, this)), (1, (0, frm)), (2, (0, to_)), (3, (0, paper)), (4, (0, shares)), (5, (0, dealt)), (6, (0, settled)), (7, (0, known)), (8, (0, l8_j35)), (9, (0, l9_j84)), (10, (2, n45))]) rfl ?_
                refine r_putIK hX hP rfl fp_X11_151_152 n45l (by omega) (by omega) (fun h58 => ?_)
                refine r_ex hX hP 2 (pc' := 156) (st' := [(0, to_), (2, n45)]) (lo' := [(0, (2, this)), (1, (0, frm)), (2, (0, to_)), (3, (0, paper)), (4, (0, shares)), (5, (0, dealt)), (6, (0, settled)), (7, (0, known)), (8, (0, l8_j35)), (9, (0, l9_j84)), (10, (2, n45))]) rfl ?_
                refine r_putIK hX hP rfl fp_X11_137_152 n45l (by omega) (by omega) (fun h59 => ?_)
                refine r_ex hX hP 2 (pc' := 163) (st' := [(0, dealt), (2, n45)]) (lo' := [(0, (2, this)), (1, (0, frm)), (2, (0, to_)), (3, (0, paper)), (4, (0, shares)), (5, (0, dealt)), (6, (0, settled)), (7, (0, known)), (8, (0, l8_j35)), (9, (0, l9_j84)), (10, (2, n45))]) rfl ?_
                refine r_putIK hX hP rfl fp_X11_154_152 n45l (by omega) (by omega) (fun h60 => ?_)
                have g61 : Gr [140, 152, 160, 161, 162, 163, 164, 165, 166, 167, 168, 169, 170, 171, 172, 173, 174, 175, 176, 177, 178, 179, 180, 181, 182, 183, 184, 185] [(128, 0), (128, 1), (129, 1), (152, 0), (152, 1), (152, 2), (152, 3), (152, 4), (152, 5), (152, 6), (152, 7), (155, 0), (155, 1), (155, 2), (165, -1), (166, -1), (167, -1), (168, -1), (169, -1)] S G S46 (up (up (up (hw [(152, 0), (152, 1), (152, 2), (152, 3), (152, 4), (152, 5), (152, 6)] G47 G57) 152 n45 5 frm) 152 n45 6 to_) 152 n45 7 dealt) := (gr_up (gr_up (gr_up (gr_hw g55 rfl) rfl) rfl) rfl)
                refine r_finA hX (L := 152) (ci := 2) (fs := fs_152) rfl n45l (by decide) (fun hr62 => ?_)
                have hf63 : Fnl E fs_140 152 S46 (up (up (up (hw [(152, 0), (152, 1), (152, 2), (152, 3), (152, 4), (152, 5), (152, 6)] G47 G57) 152 n45 5 frm) 152 n45 6 to_) 152 n45 7 dealt) n45 := by
                  intro j hj
                  rcases (by have : j < 9 := hj; omega : j = 0 ∨ j = 1 ∨ j = 2 ∨ j = 3 ∨ j = 4 ∨ j = 5 ∨ j = 6 ∨ j = 7 ∨ j = 8) with rfl | rfl | rfl | rfl | rfl | rfl | rfl | rfl | rfl
                  · exact hr62 0 (by decide)
                  · exact hr62 1 (by decide)
                  · exact hr62 2 (by decide)
                  · exact hr62 3 (by decide)
                  · exact hr62 4 (by decide)
                  · have e : frm = (up (up (up (hw [(152, 0), (152, 1), (152, 2), (152, 3), (152, 4), (152, 5), (152, 6)] G47 G57) 152 n45 5 frm) 152 n45 6 to_) 152 n45 7 dealt) 152 n45 5 := h58; show (0 : Int) ≤ (up (up (up (hw [(152, 0), (152, 1), (152, 2), (152, 3), (152, 4), (152, 5), (152, 6)] G47 G57) 152 n45 5 frm) 152 n45 6 to_) 152 n45 7 dealt) 152 n45 5 ∧ (up (up (up (hw [(152, 0), (152, 1), (152, 2), (152, 3), (152, 4), (152, 5), (152, 6)] G47 G57) 152 n45 5 frm) 152 n45 6 to_) 152 n45 7 dealt) 152 n45 5 ≤ 19; omega
                  · have e : to_ = (up (up (up (hw [(152, 0), (152, 1), (152, 2), (152, 3), (152, 4), (152, 5), (152, 6)] G47 G57) 152 n45 5 frm) 152 n45 6 to_) 152 n45 7 dealt) 152 n45 6 := h59; show (0 : Int) ≤ (up (up (up (hw [(152, 0), (152, 1), (152, 2), (152, 3), (152, 4), (152, 5), (152, 6)] G47 G57) 152 n45 5 frm) 152 n45 6 to_) 152 n45 7 dealt) 152 n45 6 ∧ (up (up (up (hw [(152, 0), (152, 1), (152, 2), (152, 3), (152, 4), (152, 5), (152, 6)] G47 G57) 152 n45 5 frm) 152 n45 6 to_) 152 n45 7 dealt) 152 n45 6 ≤ 19; omega
                  · have e : dealt = (up (up (up (hw [(152, 0), (152, 1), (152, 2), (152, 3), (152, 4), (152, 5), (152, 6)] G47 G57) 152 n45 5 frm) 152 n45 6 to_) 152 n45 7 dealt) 152 n45 7 := h60; show (0 : Int) ≤ (up (up (up (hw [(152, 0), (152, 1), (152, 2), (152, 3), (152, 4), (152, 5), (152, 6)] G47 G57) 152 n45 5 frm) 152 n45 6 to_) 152 n45 7 dealt) 152 n45 7 ∧ (up (up (up (hw [(152, 0), (152, 1), (152, 2), (152, 3), (152, 4), (152, 5), (152, 6)] G47 G57) 152 n45 5 frm) 152 n45 6 to_) 152 n45 7 dealt) 152 n45 7 ≤ 40000; omega
                  · have e : (0 : Int) ≤ (up (up (up (hw [(152, 0), (152, 1), (152, 2), (152, 3), (152, 4), (152, 5), (152, 6)] G47 G57) 152 n45 5 frm) 152 n45 6 to_) 152 n45 7 dealt) 152 n45 8 ∧ (up (up (up (hw [(152, 0), (152, 1), (152, 2), (152, 3), (152, 4), (152, 5), (152, 6)] G47 G57) 152 n45 5 frm) 152 n45 6 to_) 152 n45 7 dealt) 152 n45 8 ≤ 2147483647 := hr62 8 (by decide); show ((-2147483648) : Int) ≤ (up (up (up (hw [(152, 0), (152, 1), (152, 2), (152, 3), (152, 4), (152, 5), (152, 6)] G47 G57) 152 n45 5 frm) 152 n45 6 to_) 152 n45 7 dealt) 152 n45 8 ∧ (up (up (up (hw [(152, 0), (152, 1), (152, 2), (152, 3), (152, 4), (152, 5), (152, 6)] G47 G57) 152 n45 5 frm) 152 n45 6 to_) 152 n45 7 dealt) 152 n45 8 ≤ 2147483647; omega
                have ci64 : CI E S46 (up (up (up (hw [(152, 0), (152, 1), (152, 2), (152, 3), (152, 4), (152, 5), (152, 6)] G47 G57) 152 n45 5 frm) 152 n45 6 to_) 152 n45 7 dealt) := (ci_up (ci_up (ci_up (ci_hw ci56 rfl) rfl) rfl) rfl)
                refine r_tk hX (fun tk65 => ?_)
                refine r_relabF hX (L := 152) (L' := 140) (ci := 2) (fs := fs_152) (fs' := fs_140) rfl rfl rfl (by decide) (by decide) nf_152 (by decide) n45l hf63 (fun S67 G68 r66 => ?_)
                have s70 : S67 this = 128 := r66.lab n45l s50 (by decide)
                have s71 : S67 tf1 = 155 := r66.lab n45l s51 (by decide)
                have e72 : tf1 = G68 128 this 7 := rs_val r66 n45l e52 s50 (by decide)
                have e73 : sip2 = G68 155 tf1 2 := rs_val r66 n45l e53 s51 (by decide)
                have e74 : lf6 = G68 128 this 1 := rs_val r66 n45l e54 s50 (by decide)
                have e75 : frm = G68 140 n45 5 := h58.trans (r66.2.2.1 5).symm
                have e76 : to_ = G68 140 n45 6 := h59.trans (r66.2.2.1 6).symm
                have e77 : dealt = G68 140 n45 7 := h60.trans (r66.2.2.1 7).symm
                have g78 : Gr [140, 152, 160, 161, 162, 163, 164, 165, 166, 167, 168, 169, 170, 171, 172, 173, 174, 175, 176, 177, 178, 179, 180, 181, 182, 183, 184, 185] [(128, 0), (128, 1), (129, 1), (152, 0), (152, 1), (152, 2), (152, 3), (152, 4), (152, 5), (152, 6), (152, 7), (155, 0), (155, 1), (155, 2), (165, -1), (166, -1), (167, -1), (168, -1), (169, -1)] S G S67 G68 := gr_rs g61 r66 z49 rfl
                have ci79 : CI E S67 G68 := ci_rs ci64 tk65 r66 n45l rfl rfl (fun e => absurd e (by decide)) (fun e => absurd e (by decide))
                refine r_ex hX hP 1 (pc' := 167) (st' := [(2, this)]) (lo' := [(0, (2, this)), (1, (0, frm)), (2, (0, to_)), (3, (0, paper)), (4, (0, shares)), (5, (0, dealt)), (6, (0, settled)), (7, (0, known)), (8, (0, l8_j35)), (9, (0, l9_j84)), (10, (2, n45))]) rfl ?_
                refine r_getKR hX hP rfl fl_X11_33_128 s70 (x := tf1) e72 ?_
                refine r_ex hX hP 1 (pc' := 172) (st' := [(2, n45), (2, tf1)]) (lo' := [(0, (2, this)), (1, (0, frm)), (2, (0, to_)), (3, (0, paper)), (4, (0, shares)), (5, (0, dealt)), (6, (0, settled)), (7, (0, known)), (8, (0, l8_j35)), (9, (0, l9_j84)), (10, (2, n45))]) rfl ?_
                refine r_tk hX (fun tk80 => ?_)
                refine r_callV gd hX hP rfl cv_X11_143_155 s71 (d' := 14) (mc' := 1) (ms' := 49) (as' := [(2, n45)]) (st := []) (by omega) (by omega) (by omega) rfl rfl (Nat.le_of_ble_eq_true rfl) (c_add_Ltr E S67 G68 tf1 n45 s71 r66.1 sip2 e73 (by omega) ci79) ?_
                rintro _ S81 G82 ⟨g83, z84, rfl, z84a, z84b, ci85, q86⟩
                have s87 : S81 this = 128 := gr_lab g83 s70 (by decide)
                have s88 : S81 tf1 = 155 := gr_lab g83 s71 (by decide)
                have s89 : S81 n45 = 140 := gr_lab g83 r66.1 (by decide)
                have e90 : tf1 = G82 128 this 7 := gr_val g83 e72 s70 (by decide) rfl
                have e91 : lf6 = G82 128 this 1 := gr_val g83 e74 s70 (by decide) rfl
                have e92 : frm = G82 140 n45 5 := gr_val g83 e75 r66.1 (by decide) rfl
                have e93 : to_ = G82 140 n45 6 := gr_val g83 e76 r66.1 (by decide) rfl
                have e94 : dealt = G82 140 n45 7 := gr_val g83 e77 r66.1 (by decide) rfl
                have g95 : Gr [140, 152, 160, 161, 162, 163, 164, 165, 166, 167, 168, 169, 170, 171, 172, 173, 174, 175, 176, 177, 178, 179, 180, 181, 182, 183, 184, 185] [(128, 0), (128, 1), (129, 1), (152, 0), (152, 1), (152, 2), (152, 3), (152, 4), (152, 5), (152, 6), (152, 7), (155, 0), (155, 1), (155, 2), (165, -1), (166, -1), (167, -1), (168, -1), (169, -1)] S G S81 G82 := gr_call g78 g83 rfl rfl
                refine r_ex hX hP 3 (pc' := 179) (st' := [(0, known), (2, this)]) (lo' := [(0, (2, this)), (1, (0, frm)), (2, (0, to_)), (3, (0, paper)), (4, (0, shares)), (5, (0, dealt)), (6, (0, settled)), (7, (0, known)), (8, (0, l8_j35)), (9, (0, l9_j84)), (10, (2, n45))]) rfl ?_
                refine r_callV gd hX hP rfl cv_X11_147_128 s87 (d' := 0) (mc' := 0) (ms' := 0) (as' := [(0, known)]) (st := []) (by omega) (by omega) (by omega) rfl rfl (Nat.le_of_ble_eq_true rfl) (c_X11_tell E S81 G82 this known s87 (by omega) (by omega)) ?_
                rintro _ _ _ ⟨rfl, ⟨G96, rfl⟩, rfl, -⟩
                refine r_ex hX hP 1 (pc' := 183) (st' := [(2, this)]) (lo' := [(0, (2, this)), (1, (0, frm)), (2, (0, to_)), (3, (0, paper)), (4, (0, shares)), (5, (0, dealt)), (6, (0, settled)), (7, (0, known)), (8, (0, l8_j35)), (9, (0, l9_j84)), (10, (2, n45))]) rfl ?_
                refine r_getKR hX hP rfl fl_X11_33_128 s87 (x := tf1) e90 ?_
                refine r_peekI hX (tl_155 2 rfl (by decide)) s88 (fun sip97 sip97e sip97a sip97b => ?_)
                refine r_callV gd hX hP rfl cv_X11_125_155 s88 (d' := 0) (mc' := 0) (ms' := 0) (as' := []) (st := []) (by omega) (by omega) (by omega) rfl rfl (Nat.le_of_ble_eq_true rfl) (c_size_Ltr E S81 (hw [(128, 1), (129, 1)] G82 G96) tf1  s88 sip97 sip97e) ?_
                rintro _ _ _ ⟨rfl, rfl, z98, rfl, z98a, z98b, f99⟩
                refine r_ex hX hP 2 (pc' := 191) (st' := [(0, (z98 - 1))]) (lo' := [(0, (2, this)), (1, (0, frm)), (2, (0, to_)), (3, (0, paper)), (4, (0, shares)), (5, (0, dealt)), (6, (0, settled)), (7, (0, known)), (8, (0, l8_j35)), (9, (0, l9_j84)), (10, (2, n45))]) rfl ?_
                have g100 : Gr [140, 152, 160, 161, 162, 163, 164, 165, 166, 167, 168, 169, 170, 171, 172, 173, 174, 175, 176, 177, 178, 179, 180, 181, 182, 183, 184, 185] [(128, 0), (128, 1), (129, 1), (152, 0), (152, 1), (152, 2), (152, 3), (152, 4), (152, 5), (152, 6), (152, 7), (155, 0), (155, 1), (155, 2), (165, -1), (166, -1), (167, -1), (168, -1), (169, -1)] S G S81 (hw [(128, 1), (129, 1)] G82 G96) := (gr_hw g95 rfl)
                have ci101 : CI E S81 (hw [(128, 1), (129, 1)] G82 G96) := (ci_hw ci85 rfl)
                exact r_retI hX hP rfl rfl (by omega) (by omega) ⟨g100, (z98 - 1), rfl, (by omega), (by omega), ci101⟩
              · skip
                exfalso; omega
        · skip
          refine r_ex hX hP 2 (pc' := 120) (st' := [(0, 1), (0, 0), (0, l9_j84), (0, l8_j35), (2, this)]) (lo' := [(0, (2, this)), (1, (0, frm)), (2, (0, to_)), (3, (0, paper)), (4, (0, shares)), (5, (0, dealt)), (6, (0, settled)), (7, (0, known)), (8, (0, l8_j35)), (9, (0, l9_j84))]) rfl ?_
          refine r_callS gd hX hP rfl cs_X11_112 (d' := 0) (mc' := 0) (ms' := 0) (as' := [(0, l8_j35), (0, l9_j84), (0, 0), (0, 1)]) (st := [(2, this)]) (by omega) (by omega) (by omega) rfl rfl (Nat.le_of_ble_eq_true rfl) (c_X11_first E S G l8_j35 l9_j84 0 1 (by omega) (by omega) (by omega) (by omega) (by omega) (by omega) (by omega) (by omega)) ?_
          rintro _ _ _ ⟨rfl, rfl, z102, rfl, (⟨rfl, f103⟩ | ⟨rfl, f104, f105⟩ | ⟨rfl, f106, f107, f108⟩ | ⟨rfl, f109, f110, f111, f112⟩ | ⟨rfl, f113, f114, f115, f116⟩)⟩
          · skip
            refine r_callV gd hX hP rfl cv_X11_90_128 hS (d' := 0) (mc' := 0) (ms' := 0) (as' := [(0, 1)]) (st := []) (by omega) (by omega) (by omega) rfl rfl (Nat.le_of_ble_eq_true rfl) (c_X11_refused E S G this 1 hS (by omega) (by omega)) ?_
            rintro _ _ _ ⟨rfl, ⟨G117, rfl⟩, z118, rfl, (⟨rfl, f119⟩ | ⟨rfl, f120⟩)⟩
            · skip
              refine r_if_eq hX hP rfl (tgt := 131) rfl (by omega) (by omega) (fun c121 => ?_) (fun c121 => ?_)
              · skip
                exfalso; omega
              · skip
                refine r_ex hX hP 1 (pc' := 130) (st' := [(0, (-1))]) (lo' := [(0, (2, this)), (1, (0, frm)), (2, (0, to_)), (3, (0, paper)), (4, (0, shares)), (5, (0, dealt)), (6, (0, settled)), (7, (0, known)), (8, (0, l8_j35)), (9, (0, l9_j84))]) rfl ?_
                have g122 : Gr [140, 152, 160, 161, 162, 163, 164, 165, 166, 167, 168, 169, 170, 171, 172, 173, 174, 175, 176, 177, 178, 179, 180, 181, 182, 183, 184, 185] [(128, 0), (128, 1), (129, 1), (152, 0), (152, 1), (152, 2), (152, 3), (152, 4), (152, 5), (152, 6), (152, 7), (155, 0), (155, 1), (155, 2), (165, -1), (166, -1), (167, -1), (168, -1), (169, -1)] S G S (hw [(128, 0)] G G117) := (gr_hw (gr_refl [140, 152, 160, 161, 162, 163, 164, 165, 166, 167, 168, 169, 170, 171, 172, 173, 174, 175, 176, 177, 178, 179, 180, 181, 182, 183, 184, 185] [(128, 0), (128, 1), (129, 1), (152, 0), (152, 1), (152, 2), (152, 3), (152, 4), (152, 5), (152, 6), (152, 7), (155, 0), (155, 1), (155, 2), (165, -1), (166, -1), (167, -1), (168, -1), (169, -1)] S G) rfl)
                have ci123 : CI E S (hw [(128, 0)] G G117) := (ci_hw ci rfl)
                exact r_retI hX hP rfl rfl (by omega) (by omega) ⟨g122, (-1), rfl, (by omega), (by omega), ci123⟩
            · skip
              exfalso; omega
          · skip
            refine r_callV gd hX hP rfl cv_X11_90_128 hS (d' := 0) (mc' := 0) (ms' := 0) (as' := [(0, 2)]) (st := []) (by omega) (by omega) (by omega) rfl rfl (Nat.le_of_ble_eq_true rfl) (c_X11_refused E S G this 2 hS (by omega) (by omega)) ?_
            rintro _ _ _ ⟨rfl, ⟨G124, rfl⟩, z125, rfl, (⟨rfl, f126⟩ | ⟨rfl, f127⟩)⟩
            · skip
              refine r_if_eq hX hP rfl (tgt := 131) rfl (by omega) (by omega) (fun c128 => ?_) (fun c128 => ?_)
              · skip
                exfalso; omega
              · skip
                refine r_ex hX hP 1 (pc' := 130) (st' := [(0, (-1))]) (lo' := [(0, (2, this)), (1, (0, frm)), (2, (0, to_)), (3, (0, paper)), (4, (0, shares)), (5, (0, dealt)), (6, (0, settled)), (7, (0, known)), (8, (0, l8_j35)), (9, (0, l9_j84))]) rfl ?_
                have g129 : Gr [140, 152, 160, 161, 162, 163, 164, 165, 166, 167, 168, 169, 170, 171, 172, 173, 174, 175, 176, 177, 178, 179, 180, 181, 182, 183, 184, 185] [(128, 0), (128, 1), (129, 1), (152, 0), (152, 1), (152, 2), (152, 3), (152, 4), (152, 5), (152, 6), (152, 7), (155, 0), (155, 1), (155, 2), (165, -1), (166, -1), (167, -1), (168, -1), (169, -1)] S G S (hw [(128, 0)] G G124) := (gr_hw (gr_refl [140, 152, 160, 161, 162, 163, 164, 165, 166, 167, 168, 169, 170, 171, 172, 173, 174, 175, 176, 177, 178, 179, 180, 181, 182, 183, 184, 185] [(128, 0), (128, 1), (129, 1), (152, 0), (152, 1), (152, 2), (152, 3), (152, 4), (152, 5), (152, 6), (152, 7), (155, 0), (155, 1), (155, 2), (165, -1), (166, -1), (167, -1), (168, -1), (169, -1)] S G) rfl)
                have ci130 : CI E S (hw [(128, 0)] G G124) := (ci_hw ci rfl)
                exact r_retI hX hP rfl rfl (by omega) (by omega) ⟨g129, (-1), rfl, (by omega), (by omega), ci130⟩
            · skip
              exfalso; omega
          · skip
            exfalso; omega
          · skip
            refine r_callV gd hX hP rfl cv_X11_90_128 hS (d' := 0) (mc' := 0) (ms' := 0) (as' := [(0, 4)]) (st := []) (by omega) (by omega) (by omega) rfl rfl (Nat.le_of_ble_eq_true rfl) (c_X11_refused E S G this 4 hS (by omega) (by omega)) ?_
            rintro _ _ _ ⟨rfl, ⟨G131, rfl⟩, z132, rfl, (⟨rfl, f133⟩ | ⟨rfl, f134⟩)⟩
            · skip
              refine r_if_eq hX hP rfl (tgt := 131) rfl (by omega) (by omega) (fun c135 => ?_) (fun c135 => ?_)
              · skip
                exfalso; omega
              · skip
                refine r_ex hX hP 1 (pc' := 130) (st' := [(0, (-1))]) (lo' := [(0, (2, this)), (1, (0, frm)), (2, (0, to_)), (3, (0, paper)), (4, (0, shares)), (5, (0, dealt)), (6, (0, settled)), (7, (0, known)), (8, (0, l8_j35)), (9, (0, l9_j84))]) rfl ?_
                have g136 : Gr [140, 152, 160, 161, 162, 163, 164, 165, 166, 167, 168, 169, 170, 171, 172, 173, 174, 175, 176, 177, 178, 179, 180, 181, 182, 183, 184, 185] [(128, 0), (128, 1), (129, 1), (152, 0), (152, 1), (152, 2), (152, 3), (152, 4), (152, 5), (152, 6), (152, 7), (155, 0), (155, 1), (155, 2), (165, -1), (166, -1), (167, -1), (168, -1), (169, -1)] S G S (hw [(128, 0)] G G131) := (gr_hw (gr_refl [140, 152, 160, 161, 162, 163, 164, 165, 166, 167, 168, 169, 170, 171, 172, 173, 174, 175, 176, 177, 178, 179, 180, 181, 182, 183, 184, 185] [(128, 0), (128, 1), (129, 1), (152, 0), (152, 1), (152, 2), (152, 3), (152, 4), (152, 5), (152, 6), (152, 7), (155, 0), (155, 1), (155, 2), (165, -1), (166, -1), (167, -1), (168, -1), (169, -1)] S G) rfl)
                have ci137 : CI E S (hw [(128, 0)] G G131) := (ci_hw ci rfl)
                exact r_retI hX hP rfl rfl (by omega) (by omega) ⟨g136, (-1), rfl, (by omega), (by omega), ci137⟩
            · skip
              exfalso; omega
          · skip
            exfalso; omega
      · skip
        refine r_ex hX hP 4 (pc' := 109) (st' := [(2, this), (0, known), (0, 1), (0, l9_j84), (0, l8_j35), (2, this)]) (lo' := [(0, (2, this)), (1, (0, frm)), (2, (0, to_)), (3, (0, paper)), (4, (0, shares)), (5, (0, dealt)), (6, (0, settled)), (7, (0, known)), (8, (0, l8_j35)), (9, (0, l9_j84))]) rfl ?_
        refine r_getI hX hP rfl fl_X11_129_128 hS (fun lf138 lf138e lf138a lf138b => ?_)
        refine r_ic_ge hX hP rfl (tgt := 119) rfl (by omega) (by omega) (by omega) (by omega) (fun c139 => ?_) (fun c139 => ?_)
        · skip
          refine r_ex hX hP 1 (pc' := 120) (st' := [(0, 0), (0, 1), (0, l9_j84), (0, l8_j35), (2, this)]) (lo' := [(0, (2, this)), (1, (0, frm)), (2, (0, to_)), (3, (0, paper)), (4, (0, shares)), (5, (0, dealt)), (6, (0, settled)), (7, (0, known)), (8, (0, l8_j35)), (9, (0, l9_j84))]) rfl ?_
          refine r_callS gd hX hP rfl cs_X11_112 (d' := 0) (mc' := 0) (ms' := 0) (as' := [(0, l8_j35), (0, l9_j84), (0, 1), (0, 0)]) (st := [(2, this)]) (by omega) (by omega) (by omega) rfl rfl (Nat.le_of_ble_eq_true rfl) (c_X11_first E S G l8_j35 l9_j84 1 0 (by omega) (by omega) (by omega) (by omega) (by omega) (by omega) (by omega) (by omega)) ?_
          rintro _ _ _ ⟨rfl, rfl, z140, rfl, (⟨rfl, f141⟩ | ⟨rfl, f142, f143⟩ | ⟨rfl, f144, f145, f146⟩ | ⟨rfl, f147, f148, f149, f150⟩ | ⟨rfl, f151, f152, f153, f154⟩)⟩
          · skip
            refine r_callV gd hX hP rfl cv_X11_90_128 hS (d' := 0) (mc' := 0) (ms' := 0) (as' := [(0, 1)]) (st := []) (by omega) (by omega) (by omega) rfl rfl (Nat.le_of_ble_eq_true rfl) (c_X11_refused E S G this 1 hS (by omega) (by omega)) ?_
            rintro _ _ _ ⟨rfl, ⟨G155, rfl⟩, z156, rfl, (⟨rfl, f157⟩ | ⟨rfl, f158⟩)⟩
            · skip
              refine r_if_eq hX hP rfl (tgt := 131) rfl (by omega) (by omega) (fun c159 => ?_) (fun c159 => ?_)
              · skip
                exfalso; omega
              · skip
                refine r_ex hX hP 1 (pc' := 130) (st' := [(0, (-1))]) (lo' := [(0, (2, this)), (1, (0, frm)), (2, (0, to_)), (3, (0, paper)), (4, (0, shares)), (5, (0, dealt)), (6, (0, settled)), (7, (0, known)), (8, (0, l8_j35)), (9, (0, l9_j84))]) rfl ?_
                have g160 : Gr [140, 152, 160, 161, 162, 163, 164, 165, 166, 167, 168, 169, 170, 171, 172, 173, 174, 175, 176, 177, 178, 179, 180, 181, 182, 183, 184, 185] [(128, 0), (128, 1), (129, 1), (152, 0), (152, 1), (152, 2), (152, 3), (152, 4), (152, 5), (152, 6), (152, 7), (155, 0), (155, 1), (155, 2), (165, -1), (166, -1), (167, -1), (168, -1), (169, -1)] S G S (hw [(128, 0)] G G155) := (gr_hw (gr_refl [140, 152, 160, 161, 162, 163, 164, 165, 166, 167, 168, 169, 170, 171, 172, 173, 174, 175, 176, 177, 178, 179, 180, 181, 182, 183, 184, 185] [(128, 0), (128, 1), (129, 1), (152, 0), (152, 1), (152, 2), (152, 3), (152, 4), (152, 5), (152, 6), (152, 7), (155, 0), (155, 1), (155, 2), (165, -1), (166, -1), (167, -1), (168, -1), (169, -1)] S G) rfl)
                have ci161 : CI E S (hw [(128, 0)] G G155) := (ci_hw ci rfl)
                exact r_retI hX hP rfl rfl (by omega) (by omega) ⟨g160, (-1), rfl, (by omega), (by omega), ci161⟩
            · skip
              exfalso; omega
          · skip
            refine r_callV gd hX hP rfl cv_X11_90_128 hS (d' := 0) (mc' := 0) (ms' := 0) (as' := [(0, 2)]) (st := []) (by omega) (by omega) (by omega) rfl rfl (Nat.le_of_ble_eq_true rfl) (c_X11_refused E S G this 2 hS (by omega) (by omega)) ?_
            rintro _ _ _ ⟨rfl, ⟨G162, rfl⟩, z163, rfl, (⟨rfl, f164⟩ | ⟨rfl, f165⟩)⟩
            · skip
              refine r_if_eq hX hP rfl (tgt := 131) rfl (by omega) (by omega) (fun c166 => ?_) (fun c166 => ?_)
              · skip
                exfalso; omega
              · skip
                refine r_ex hX hP 1 (pc' := 130) (st' := [(0, (-1))]) (lo' := [(0, (2, this)), (1, (0, frm)), (2, (0, to_)), (3, (0, paper)), (4, (0, shares)), (5, (0, dealt)), (6, (0, settled)), (7, (0, known)), (8, (0, l8_j35)), (9, (0, l9_j84))]) rfl ?_
                have g167 : Gr [140, 152, 160, 161, 162, 163, 164, 165, 166, 167, 168, 169, 170, 171, 172, 173, 174, 175, 176, 177, 178, 179, 180, 181, 182, 183, 184, 185] [(128, 0), (128, 1), (129, 1), (152, 0), (152, 1), (152, 2), (152, 3), (152, 4), (152, 5), (152, 6), (152, 7), (155, 0), (155, 1), (155, 2), (165, -1), (166, -1), (167, -1), (168, -1), (169, -1)] S G S (hw [(128, 0)] G G162) := (gr_hw (gr_refl [140, 152, 160, 161, 162, 163, 164, 165, 166, 167, 168, 169, 170, 171, 172, 173, 174, 175, 176, 177, 178, 179, 180, 181, 182, 183, 184, 185] [(128, 0), (128, 1), (129, 1), (152, 0), (152, 1), (152, 2), (152, 3), (152, 4), (152, 5), (152, 6), (152, 7), (155, 0), (155, 1), (155, 2), (165, -1), (166, -1), (167, -1), (168, -1), (169, -1)] S G) rfl)
                have ci168 : CI E S (hw [(128, 0)] G G162) := (ci_hw ci rfl)
                exact r_retI hX hP rfl rfl (by omega) (by omega) ⟨g167, (-1), rfl, (by omega), (by omega), ci168⟩
            · skip
              exfalso; omega
          · skip
            refine r_callV gd hX hP rfl cv_X11_90_128 hS (d' := 0) (mc' := 0) (ms' := 0) (as' := [(0, 3)]) (st := []) (by omega) (by omega) (by omega) rfl rfl (Nat.le_of_ble_eq_true rfl) (c_X11_refused E S G this 3 hS (by omega) (by omega)) ?_
            rintro _ _ _ ⟨rfl, ⟨G169, rfl⟩, z170, rfl, (⟨rfl, f171⟩ | ⟨rfl, f172⟩)⟩
            · skip
              refine r_if_eq hX hP rfl (tgt := 131) rfl (by omega) (by omega) (fun c173 => ?_) (fun c173 => ?_)
              · skip
                exfalso; omega
              · skip
                refine r_ex hX hP 1 (pc' := 130) (st' := [(0, (-1))]) (lo' := [(0, (2, this)), (1, (0, frm)), (2, (0, to_)), (3, (0, paper)), (4, (0, shares)), (5, (0, dealt)), (6, (0, settled)), (7, (0, known)), (8, (0, l8_j35)), (9, (0, l9_j84))]) rfl ?_
                have g174 : Gr [140, 152, 160, 161, 162, 163, 164, 165, 166, 167, 168, 169, 170, 171, 172, 173, 174, 175, 176, 177, 178, 179, 180, 181, 182, 183, 184, 185] [(128, 0), (128, 1), (129, 1), (152, 0), (152, 1), (152, 2), (152, 3), (152, 4), (152, 5), (152, 6), (152, 7), (155, 0), (155, 1), (155, 2), (165, -1), (166, -1), (167, -1), (168, -1), (169, -1)] S G S (hw [(128, 0)] G G169) := (gr_hw (gr_refl [140, 152, 160, 161, 162, 163, 164, 165, 166, 167, 168, 169, 170, 171, 172, 173, 174, 175, 176, 177, 178, 179, 180, 181, 182, 183, 184, 185] [(128, 0), (128, 1), (129, 1), (152, 0), (152, 1), (152, 2), (152, 3), (152, 4), (152, 5), (152, 6), (152, 7), (155, 0), (155, 1), (155, 2), (165, -1), (166, -1), (167, -1), (168, -1), (169, -1)] S G) rfl)
                have ci175 : CI E S (hw [(128, 0)] G G169) := (ci_hw ci rfl)
                exact r_retI hX hP rfl rfl (by omega) (by omega) ⟨g174, (-1), rfl, (by omega), (by omega), ci175⟩
            · skip
              exfalso; omega
          · skip
            exfalso; omega
          · skip
            exfalso; omega
        · skip
          refine r_ex hX hP 2 (pc' := 120) (st' := [(0, 1), (0, 1), (0, l9_j84), (0, l8_j35), (2, this)]) (lo' := [(0, (2, this)), (1, (0, frm)), (2, (0, to_)), (3, (0, paper)), (4, (0, shares)), (5, (0, dealt)), (6, (0, settled)), (7, (0, known)), (8, (0, l8_j35)), (9, (0, l9_j84))]) rfl ?_
          refine r_callS gd hX hP rfl cs_X11_112 (d' := 0) (mc' := 0) (ms' := 0) (as' := [(0, l8_j35), (0, l9_j84), (0, 1), (0, 1)]) (st := [(2, this)]) (by omega) (by omega) (by omega) rfl rfl (Nat.le_of_ble_eq_true rfl) (c_X11_first E S G l8_j35 l9_j84 1 1 (by omega) (by omega) (by omega) (by omega) (by omega) (by omega) (by omega) (by omega)) ?_
          rintro _ _ _ ⟨rfl, rfl, z176, rfl, (⟨rfl, f177⟩ | ⟨rfl, f178, f179⟩ | ⟨rfl, f180, f181, f182⟩ | ⟨rfl, f183, f184, f185, f186⟩ | ⟨rfl, f187, f188, f189, f190⟩)⟩
          · skip
            refine r_callV gd hX hP rfl cv_X11_90_128 hS (d' := 0) (mc' := 0) (ms' := 0) (as' := [(0, 1)]) (st := []) (by omega) (by omega) (by omega) rfl rfl (Nat.le_of_ble_eq_true rfl) (c_X11_refused E S G this 1 hS (by omega) (by omega)) ?_
            rintro _ _ _ ⟨rfl, ⟨G191, rfl⟩, z192, rfl, (⟨rfl, f193⟩ | ⟨rfl, f194⟩)⟩
            · skip
              refine r_if_eq hX hP rfl (tgt := 131) rfl (by omega) (by omega) (fun c195 => ?_) (fun c195 => ?_)
              · skip
                exfalso; omega
              · skip
                refine r_ex hX hP 1 (pc' := 130) (st' := [(0, (-1))]) (lo' := [(0, (2, this)), (1, (0, frm)), (2, (0, to_)), (3, (0, paper)), (4, (0, shares)), (5, (0, dealt)), (6, (0, settled)), (7, (0, known)), (8, (0, l8_j35)), (9, (0, l9_j84))]) rfl ?_
                have g196 : Gr [140, 152, 160, 161, 162, 163, 164, 165, 166, 167, 168, 169, 170, 171, 172, 173, 174, 175, 176, 177, 178, 179, 180, 181, 182, 183, 184, 185] [(128, 0), (128, 1), (129, 1), (152, 0), (152, 1), (152, 2), (152, 3), (152, 4), (152, 5), (152, 6), (152, 7), (155, 0), (155, 1), (155, 2), (165, -1), (166, -1), (167, -1), (168, -1), (169, -1)] S G S (hw [(128, 0)] G G191) := (gr_hw (gr_refl [140, 152, 160, 161, 162, 163, 164, 165, 166, 167, 168, 169, 170, 171, 172, 173, 174, 175, 176, 177, 178, 179, 180, 181, 182, 183, 184, 185] [(128, 0), (128, 1), (129, 1), (152, 0), (152, 1), (152, 2), (152, 3), (152, 4), (152, 5), (152, 6), (152, 7), (155, 0), (155, 1), (155, 2), (165, -1), (166, -1), (167, -1), (168, -1), (169, -1)] S G) rfl)
                have ci197 : CI E S (hw [(128, 0)] G G191) := (ci_hw ci rfl)
                exact r_retI hX hP rfl rfl (by omega) (by omega) ⟨g196, (-1), rfl, (by omega), (by omega), ci197⟩
            · skip
              exfalso; omega
          · skip
            refine r_callV gd hX hP rfl cv_X11_90_128 hS (d' := 0) (mc' := 0) (ms' := 0) (as' := [(0, 2)]) (st := []) (by omega) (by omega) (by omega) rfl rfl (Nat.le_of_ble_eq_true rfl) (c_X11_refused E S G this 2 hS (by omega) (by omega)) ?_
            rintro _ _ _ ⟨rfl, ⟨G198, rfl⟩, z199, rfl, (⟨rfl, f200⟩ | ⟨rfl, f201⟩)⟩
            · skip
              refine r_if_eq hX hP rfl (tgt := 131) rfl (by omega) (by omega) (fun c202 => ?_) (fun c202 => ?_)
              · skip
                exfalso; omega
              · skip
                refine r_ex hX hP 1 (pc' := 130) (st' := [(0, (-1))]) (lo' := [(0, (2, this)), (1, (0, frm)), (2, (0, to_)), (3, (0, paper)), (4, (0, shares)), (5, (0, dealt)), (6, (0, settled)), (7, (0, known)), (8, (0, l8_j35)), (9, (0, l9_j84))]) rfl ?_
                have g203 : Gr [140, 152, 160, 161, 162, 163, 164, 165, 166, 167, 168, 169, 170, 171, 172, 173, 174, 175, 176, 177, 178, 179, 180, 181, 182, 183, 184, 185] [(128, 0), (128, 1), (129, 1), (152, 0), (152, 1), (152, 2), (152, 3), (152, 4), (152, 5), (152, 6), (152, 7), (155, 0), (155, 1), (155, 2), (165, -1), (166, -1), (167, -1), (168, -1), (169, -1)] S G S (hw [(128, 0)] G G198) := (gr_hw (gr_refl [140, 152, 160, 161, 162, 163, 164, 165, 166, 167, 168, 169, 170, 171, 172, 173, 174, 175, 176, 177, 178, 179, 180, 181, 182, 183, 184, 185] [(128, 0), (128, 1), (129, 1), (152, 0), (152, 1), (152, 2), (152, 3), (152, 4), (152, 5), (152, 6), (152, 7), (155, 0), (155, 1), (155, 2), (165, -1), (166, -1), (167, -1), (168, -1), (169, -1)] S G) rfl)
                have ci204 : CI E S (hw [(128, 0)] G G198) := (ci_hw ci rfl)
                exact r_retI hX hP rfl rfl (by omega) (by omega) ⟨g203, (-1), rfl, (by omega), (by omega), ci204⟩
            · skip
              exfalso; omega
          · skip
            refine r_callV gd hX hP rfl cv_X11_90_128 hS (d' := 0) (mc' := 0) (ms' := 0) (as' := [(0, 3)]) (st := []) (by omega) (by omega) (by omega) rfl rfl (Nat.le_of_ble_eq_true rfl) (c_X11_refused E S G this 3 hS (by omega) (by omega)) ?_
            rintro _ _ _ ⟨rfl, ⟨G205, rfl⟩, z206, rfl, (⟨rfl, f207⟩ | ⟨rfl, f208⟩)⟩
            · skip
              refine r_if_eq hX hP rfl (tgt := 131) rfl (by omega) (by omega) (fun c209 => ?_) (fun c209 => ?_)
              · skip
                exfalso; omega
              · skip
                refine r_ex hX hP 1 (pc' := 130) (st' := [(0, (-1))]) (lo' := [(0, (2, this)), (1, (0, frm)), (2, (0, to_)), (3, (0, paper)), (4, (0, shares)), (5, (0, dealt)), (6, (0, settled)), (7, (0, known)), (8, (0, l8_j35)), (9, (0, l9_j84))]) rfl ?_
                have g210 : Gr [140, 152, 160, 161, 162, 163, 164, 165, 166, 167, 168, 169, 170, 171, 172, 173, 174, 175, 176, 177, 178, 179, 180, 181, 182, 183, 184, 185] [(128, 0), (128, 1), (129, 1), (152, 0), (152, 1), (152, 2), (152, 3), (152, 4), (152, 5), (152, 6), (152, 7), (155, 0), (155, 1), (155, 2), (165, -1), (166, -1), (167, -1), (168, -1), (169, -1)] S G S (hw [(128, 0)] G G205) := (gr_hw (gr_refl [140, 152, 160, 161, 162, 163, 164, 165, 166, 167, 168, 169, 170, 171, 172, 173, 174, 175, 176, 177, 178, 179, 180, 181, 182, 183, 184, 185] [(128, 0), (128, 1), (129, 1), (152, 0), (152, 1), (152, 2), (152, 3), (152, 4), (152, 5), (152, 6), (152, 7), (155, 0), (155, 1), (155, 2), (165, -1), (166, -1), (167, -1), (168, -1), (169, -1)] S G) rfl)
                have ci211 : CI E S (hw [(128, 0)] G G205) := (ci_hw ci rfl)
                exact r_retI hX hP rfl rfl (by omega) (by omega) ⟨g210, (-1), rfl, (by omega), (by omega), ci211⟩
            · skip
              exfalso; omega
          · skip
            exfalso; omega
          · skip
            exfalso; omega
    refine r_ex hX hP 2 (pc' := 38) (st' := [(0, 1), (0, shares)]) (lo' := [(0, (2, this)), (1, (0, frm)), (2, (0, to_)), (3, (0, paper)), (4, (0, shares)), (5, (0, dealt)), (6, (0, settled)), (7, (0, known)), (8, (0, l8_j35))]) rfl ?_
    refine r_ldc hX hP rfl (v := 1000000) (tbg sg3 10 rfl rfl) ?_
    refine r_callS gd hX hP rfl cs_X11_103 (d' := 0) (mc' := 0) (ms' := 0) (as' := [(0, shares), (0, 1), (0, 1000000)]) (st := []) (by omega) (by omega) (by omega) rfl rfl (Nat.le_of_ble_eq_true rfl) (c_X11_within E S G shares 1 1000000 (by omega) (by omega) (by omega) (by omega) (by omega) (by omega)) ?_
    rintro _ _ _ ⟨rfl, rfl, z212, rfl, (⟨rfl, f213, f214⟩ | ⟨rfl, f215⟩)⟩
    · skip
      refine r_if_eq hX hP rfl (tgt := 77) rfl (by omega) (by omega) (fun c216 => ?_) (fun c216 => ?_)
      · skip
        exfalso; omega
      · skip
        refine r_ex hX hP 1 (pc' := 48) (st' := [(0, dealt)]) (lo' := [(0, (2, this)), (1, (0, frm)), (2, (0, to_)), (3, (0, paper)), (4, (0, shares)), (5, (0, dealt)), (6, (0, settled)), (7, (0, known)), (8, (0, l8_j35))]) rfl ?_
        refine r_callS gd hX hP rfl cs_X11_86 (d' := 1) (mc' := 0) (ms' := 0) (as' := [(0, dealt)]) (st := []) (by omega) (by omega) (by omega) rfl rfl (Nat.le_of_ble_eq_true rfl) (c_X11_isDay E S G dealt (by omega) (by omega)) ?_
        rintro _ _ _ ⟨rfl, rfl, z217, rfl, (⟨rfl, f218, f219⟩ | ⟨rfl, f220⟩)⟩
        · skip
          refine r_if_eq hX hP rfl (tgt := 77) rfl (by omega) (by omega) (fun c221 => ?_) (fun c221 => ?_)
          · skip
            exfalso; omega
          · skip
            refine r_ex hX hP 1 (pc' := 56) (st' := [(0, settled)]) (lo' := [(0, (2, this)), (1, (0, frm)), (2, (0, to_)), (3, (0, paper)), (4, (0, shares)), (5, (0, dealt)), (6, (0, settled)), (7, (0, known)), (8, (0, l8_j35))]) rfl ?_
            refine r_callS gd hX hP rfl cs_X11_86 (d' := 1) (mc' := 0) (ms' := 0) (as' := [(0, settled)]) (st := []) (by omega) (by omega) (by omega) rfl rfl (Nat.le_of_ble_eq_true rfl) (c_X11_isDay E S G settled (by omega) (by omega)) ?_
            rintro _ _ _ ⟨rfl, rfl, z222, rfl, (⟨rfl, f223, f224⟩ | ⟨rfl, f225⟩)⟩
            · skip
              refine r_if_eq hX hP rfl (tgt := 77) rfl (by omega) (by omega) (fun c226 => ?_) (fun c226 => ?_)
              · skip
                exfalso; omega
              · skip
                refine r_ex hX hP 2 (pc' := 66) (st' := [(0, dealt), (0, settled)]) (lo' := [(0, (2, this)), (1, (0, frm)), (2, (0, to_)), (3, (0, paper)), (4, (0, shares)), (5, (0, dealt)), (6, (0, settled)), (7, (0, known)), (8, (0, l8_j35))]) rfl ?_
                refine r_ic_lt hX hP rfl (tgt := 77) rfl (by omega) (by omega) (by omega) (by omega) (fun c227 => ?_) (fun c227 => ?_)
                · skip
                  refine r_ex hX hP 3 (pc' := 84) (st' := []) (lo' := [(0, (2, this)), (1, (0, frm)), (2, (0, to_)), (3, (0, paper)), (4, (0, shares)), (5, (0, dealt)), (6, (0, settled)), (7, (0, known)), (8, (0, l8_j35)), (9, (0, 1))]) rfl ?_
                  exact j84 1 (by omega) (by omega) (by omega)
                · skip
                  refine r_ex hX hP 1 (pc' := 71) (st' := [(0, known)]) (lo' := [(0, (2, this)), (1, (0, frm)), (2, (0, to_)), (3, (0, paper)), (4, (0, shares)), (5, (0, dealt)), (6, (0, settled)), (7, (0, known)), (8, (0, l8_j35))]) rfl ?_
                  refine r_callS gd hX hP rfl cs_X11_86 (d' := 1) (mc' := 0) (ms' := 0) (as' := [(0, known)]) (st := []) (by omega) (by omega) (by omega) rfl rfl (Nat.le_of_ble_eq_true rfl) (c_X11_isDay E S G known (by omega) (by omega)) ?_
                  rintro _ _ _ ⟨rfl, rfl, z228, rfl, (⟨rfl, f229, f230⟩ | ⟨rfl, f231⟩)⟩
                  · skip
                    refine r_if_ne hX hP rfl (tgt := 81) rfl (by omega) (by omega) (fun c232 => ?_) (fun c232 => ?_)
                    · skip
                      refine r_ex hX hP 2 (pc' := 84) (st' := []) (lo' := [(0, (2, this)), (1, (0, frm)), (2, (0, to_)), (3, (0, paper)), (4, (0, shares)), (5, (0, dealt)), (6, (0, settled)), (7, (0, known)), (8, (0, l8_j35)), (9, (0, 0))]) rfl ?_
                      exact j84 0 (by omega) (by omega) (by omega)
                    · skip
                      exfalso; omega
                  · skip
                    refine r_if_ne hX hP rfl (tgt := 81) rfl (by omega) (by omega) (fun c233 => ?_) (fun c233 => ?_)
                    · skip
                      exfalso; omega
                    · skip
                      refine r_ex hX hP 3 (pc' := 84) (st' := []) (lo' := [(0, (2, this)), (1, (0, frm)), (2, (0, to_)), (3, (0, paper)), (4, (0, shares)), (5, (0, dealt)), (6, (0, settled)), (7, (0, known)), (8, (0, l8_j35)), (9, (0, 1))]) rfl ?_
                      exact j84 1 (by omega) (by omega) (by omega)
            · skip
              refine r_if_eq hX hP rfl (tgt := 77) rfl (by omega) (by omega) (fun c234 => ?_) (fun c234 => ?_)
              · skip
                refine r_ex hX hP 3 (pc' := 84) (st' := []) (lo' := [(0, (2, this)), (1, (0, frm)), (2, (0, to_)), (3, (0, paper)), (4, (0, shares)), (5, (0, dealt)), (6, (0, settled)), (7, (0, known)), (8, (0, l8_j35)), (9, (0, 1))]) rfl ?_
                exact j84 1 (by omega) (by omega) (by omega)
              · skip
                exfalso; omega
        · skip
          refine r_if_eq hX hP rfl (tgt := 77) rfl (by omega) (by omega) (fun c235 => ?_) (fun c235 => ?_)
          · skip
            refine r_ex hX hP 3 (pc' := 84) (st' := []) (lo' := [(0, (2, this)), (1, (0, frm)), (2, (0, to_)), (3, (0, paper)), (4, (0, shares)), (5, (0, dealt)), (6, (0, settled)), (7, (0, known)), (8, (0, l8_j35)), (9, (0, 1))]) rfl ?_
            exact j84 1 (by omega) (by omega) (by omega)
          · skip
            exfalso; omega
    · skip
      refine r_if_eq hX hP rfl (tgt := 77) rfl (by omega) (by omega) (fun c236 => ?_) (fun c236 => ?_)
      · skip
        refine r_ex hX hP 3 (pc' := 84) (st' := []) (lo' := [(0, (2, this)), (1, (0, frm)), (2, (0, to_)), (3, (0, paper)), (4, (0, shares)), (5, (0, dealt)), (6, (0, settled)), (7, (0, known)), (8, (0, l8_j35)), (9, (0, 1))]) rfl ?_
        exact j84 1 (by omega) (by omega) (by omega)
      · skip
        exfalso; omega
  refine r_ex hX hP 2 (pc' := 2) (st' := [(0, frm), (2, this)]) (lo' := [(0, (2, this)), (1, (0, frm)), (2, (0, to_)), (3, (0, paper)), (4, (0, shares)), (5, (0, dealt)), (6, (0, settled)), (7, (0, known))]) rfl ?_
  refine r_peekR hX (tl_128 5 rfl (by decide)) hS (fun acp237 acp237e acp237s => ?_)
  refine r_peekI hX (tl_130 0 rfl (by decide)) acp237s (fun cop238 cop238e cop238a cop238b => ?_)
  refine r_callV gd hX hP rfl cv_X11_100_128 hS (d' := 1) (mc' := 0) (ms' := 0) (as' := [(0, frm)]) (st := []) (by omega) (by omega) (by omega) rfl rfl (Nat.le_of_ble_eq_true rfl) (c_X11_hasAccount E S G this frm hS acp237 acp237e acp237s cop238 cop238e (by omega) (by omega)) ?_
  rintro _ _ _ ⟨rfl, rfl, z239, rfl, (⟨rfl, f240, f241⟩ | rfl)⟩
  · skip
    refine r_if_eq hX hP rfl (tgt := 28) rfl (by omega) (by omega) (fun c242 => ?_) (fun c242 => ?_)
    · skip
      exfalso; omega
    · skip
      refine r_ex hX hP 2 (pc' := 10) (st' := [(0, to_), (2, this)]) (lo' := [(0, (2, this)), (1, (0, frm)), (2, (0, to_)), (3, (0, paper)), (4, (0, shares)), (5, (0, dealt)), (6, (0, settled)), (7, (0, known))]) rfl ?_
      refine r_callV gd hX hP rfl cv_X11_100_128 hS (d' := 1) (mc' := 0) (ms' := 0) (as' := [(0, to_)]) (st := []) (by omega) (by omega) (by omega) rfl rfl (Nat.le_of_ble_eq_true rfl) (c_X11_hasAccount E S G this to_ hS acp237 acp237e acp237s cop238 cop238e (by omega) (by omega)) ?_
      rintro _ _ _ ⟨rfl, rfl, z243, rfl, (⟨rfl, f244, f245⟩ | rfl)⟩
      · skip
        refine r_if_eq hX hP rfl (tgt := 28) rfl (by omega) (by omega) (fun c246 => ?_) (fun c246 => ?_)
        · skip
          exfalso; omega
        · skip
          refine r_ex hX hP 2 (pc' := 18) (st' := [(0, to_), (0, frm)]) (lo' := [(0, (2, this)), (1, (0, frm)), (2, (0, to_)), (3, (0, paper)), (4, (0, shares)), (5, (0, dealt)), (6, (0, settled)), (7, (0, known))]) rfl ?_
          refine r_ic_eq hX hP rfl (tgt := 28) rfl (by omega) (by omega) (by omega) (by omega) (fun c247 => ?_) (fun c247 => ?_)
          · skip
            refine r_ex hX hP 3 (pc' := 35) (st' := []) (lo' := [(0, (2, this)), (1, (0, frm)), (2, (0, to_)), (3, (0, paper)), (4, (0, shares)), (5, (0, dealt)), (6, (0, settled)), (7, (0, known)), (8, (0, 1))]) rfl ?_
            exact j35 1 (by omega) (by omega) (by omega)
          · skip
            refine r_ex hX hP 1 (pc' := 22) (st' := [(0, paper)]) (lo' := [(0, (2, this)), (1, (0, frm)), (2, (0, to_)), (3, (0, paper)), (4, (0, shares)), (5, (0, dealt)), (6, (0, settled)), (7, (0, known))]) rfl ?_
            refine r_callS gd hX hP rfl cs_X11_120 (d' := 1) (mc' := 0) (ms' := 0) (as' := [(0, paper)]) (st := []) (by omega) (by omega) (by omega) rfl rfl (Nat.le_of_ble_eq_true rfl) (c_X11_isPaper E S G paper (by omega) (by omega)) ?_
            rintro _ _ _ ⟨rfl, rfl, z248, rfl, (⟨rfl, f249, f250⟩ | rfl)⟩
            · skip
              refine r_if_ne hX hP rfl (tgt := 32) rfl (by omega) (by omega) (fun c251 => ?_) (fun c251 => ?_)
              · skip
                refine r_ex hX hP 2 (pc' := 35) (st' := []) (lo' := [(0, (2, this)), (1, (0, frm)), (2, (0, to_)), (3, (0, paper)), (4, (0, shares)), (5, (0, dealt)), (6, (0, settled)), (7, (0, known)), (8, (0, 0))]) rfl ?_
                exact j35 0 (by omega) (by omega) (by omega)
              · skip
                exfalso; omega
            · skip
              refine r_if_ne hX hP rfl (tgt := 32) rfl (by omega) (by omega) (fun c252 => ?_) (fun c252 => ?_)
              · skip
                exfalso; omega
              · skip
                refine r_ex hX hP 3 (pc' := 35) (st' := []) (lo' := [(0, (2, this)), (1, (0, frm)), (2, (0, to_)), (3, (0, paper)), (4, (0, shares)), (5, (0, dealt)), (6, (0, settled)), (7, (0, known)), (8, (0, 1))]) rfl ?_
                exact j35 1 (by omega) (by omega) (by omega)
      · skip
        refine r_if_eq hX hP rfl (tgt := 28) rfl (by omega) (by omega) (fun c253 => ?_) (fun c253 => ?_)
        · skip
          refine r_ex hX hP 3 (pc' := 35) (st' := []) (lo' := [(0, (2, this)), (1, (0, frm)), (2, (0, to_)), (3, (0, paper)), (4, (0, shares)), (5, (0, dealt)), (6, (0, settled)), (7, (0, known)), (8, (0, 1))]) rfl ?_
          exact j35 1 (by omega) (by omega) (by omega)
        · skip
          exfalso; omega
  · skip
    refine r_if_eq hX hP rfl (tgt := 28) rfl (by omega) (by omega) (fun c254 => ?_) (fun c254 => ?_)
    · skip
      refine r_ex hX hP 3 (pc' := 35) (st' := []) (lo' := [(0, (2, this)), (1, (0, frm)), (2, (0, to_)), (3, (0, paper)), (4, (0, shares)), (5, (0, dealt)), (6, (0, settled)), (7, (0, known)), (8, (0, 1))]) rfl ?_
      exact j35 1 (by omega) (by omega) (by omega)
    · skip
      exfalso; omega
