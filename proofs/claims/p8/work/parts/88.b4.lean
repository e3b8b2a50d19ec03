theorem cv_X11_143_158 : Cv RX11 143 mJx4a65c_add_9ea2d 158 1 := ⟨co_Jx4a65c_add_9ea2d, (tbg sg3 69 rfl rfl), (tbg sg3 70 rfl rfl), 0, 3, fs_158, RJx4a65c, TJx4a65c, rfl, by decide, rfl, (tbg sg3 71 rfl rfl)⟩
theorem cv_X11_143_159 : Cv RX11 143 mJx4a65c_add_9ea2d 159 1 := ⟨co_Jx4a65c_add_9ea2d, (tbg sg3 69 rfl rfl), (tbg sg3 70 rfl rfl), 0, 3, fs_159, RJx4a65c, TJx4a65c, rfl, by decide, rfl, (tbg sg3 71 rfl rfl)⟩
theorem co_X11_settledStatus : Co mX11_settledStatus 1 := ⟨(tbg sg6 185 rfl rfl), (tbg sg1 1 rfl rfl), by decide, by decide, by decide +kernel, by decide⟩
theorem cv_X11_306_128 : Cv RX11 306 mX11_settledStatus 128 1 := ⟨co_X11_settledStatus, (tbg sg6 182 rfl rfl), (tbg sg6 184 rfl rfl), 11, 20, fs_128, RX11, TX11, rfl, by decide, rfl, (tbm 70 (by decide +kernel) rfl)⟩
theorem co_X11_owingSide : Co mX11_owingSide 2 := ⟨(tbg sg6 188 rfl rfl), (tbg sg1 1 rfl rfl), by decide, by decide, by decide +kernel, by decide⟩
theorem cs_X11_309 : Cs RX11 309 mX11_owingSide 2 := ⟨co_X11_owingSide, (tbg sg6 186 rfl rfl), (tbg sg6 187 rfl rfl)⟩
theorem fl_X11_313_140 : Fl RX11 313 140 4 (0, (-2147483648), 2147483647) := ⟨2, 9, fs_140, RX1, TX1, rfl, rfl, by decide, rfl, by decide, rfl, cf_X1, (tbg sg3 35 rfl rfl)⟩
theorem co_X11_givenTo : Co mX11_givenTo 3 := ⟨(tbg sg6 191 rfl rfl), (tbg sg1 1 rfl rfl), by decide, by decide, by decide +kernel, by decide⟩
theorem cs_X11_316 : Cs RX11 316 mX11_givenTo 3 := ⟨co_X11_givenTo, (tbg sg6 189 rfl rfl), (tbg sg6 190 rfl rfl)⟩
theorem fl_X11_293_128 : Fl RX11 293 128 19 (3, 133, 0) := ⟨11, 20, fs_128, RX11, TX11, rfl, rfl, by decide, rfl, by decide, rfl, cf_X11, (tbg sg2 167 rfl rfl)⟩
theorem fp_X11_293_128 : Fp RX11 293 128 19 (3, 133, 0) := ⟨fl_X11_293_128, 11, 20, fs_128, RX11, TX11, (.object "ShareLife$Flood"), rfl, rfl, rfl, by decide +kernel, fun E S x h => reffit (fun _ => rfl) ⟨rfl, fun _ => rfl⟩ (by decide) x⟩
theorem co_X3_goOn : Co mX3_goOn 1 := ⟨(tbg sg6 102 rfl rfl), (tbg sg1 25 rfl rfl), by decide, by decide, by decide +kernel, by decide⟩
theorem cv_X11_302_133 : Cv RX11 302 mX3_goOn 133 1 := ⟨co_X3_goOn, (tbg sg6 99 rfl rfl), (tbg sg6 100 rfl rfl), 4, 17, fs_133, RX3, TX3, rfl, by decide, rfl, (tbg sg6 101 rfl rfl)⟩
theorem nw_X11_297_147 : Nw RX11 297 147 17 := ⟨4, fs_147, RX3, TX3, tyX3, rfl, rfl, by decide, rfl, tbs [1410, 1412, 1414, 1416, 1418, 1420, 1422, 1424, 1426, 1428, 1430, 1432, 1434, 1436, 1438, 1440, 1442] (by decide +kernel), tyX3_ok, (tbg sg6 36 rfl rfl), (tbg sg6 37 rfl rfl), (tbg sg1 25 rfl rfl), by decide⟩
theorem co_X3_init : Co mX3_init 1 := ⟨(tbg sg6 40 rfl rfl), (tbg sg1 25 rfl rfl), by decide, by decide, by decide +kernel, by decide⟩
theorem ci_X11_299 : Ci RX11 299 mX3_init 1 := ⟨co_X3_init, (tbg sg6 38 rfl rfl), rfl, (tbg sg6 39 rfl rfl), rfl⟩
theorem nf_147 : norf 147 = true := by decide +kernel
theorem fl_X11_289_140 : Fl RX11 289 140 2 (0, 0, 19) := ⟨2, 9, fs_140, RX1, TX1, rfl, rfl, by decide, rfl, by decide, rfl, cf_X1, (tbg sg3 28 rfl rfl)⟩
set_option maxRecDepth 100000 in
set_option maxHeartbeats 4000000 in
theorem c_X11_due (E : En) (S : Sg) (G : Gh) (this : Int) (trade : Int) (event : Int) (paper : Int) (hS : S this = 128) (trl : Int) (trl_e : trl = G 128 this 7) (trl_s : S trl = 155) (trn : Int) (trn_e : trn = G 155 trl 2) (evl : Int) (evl_e : evl = G 128 this 8) (evl_s : S evl = 156) (evn : Int) (evn_e : evn = G 156 evl 2) (trade_a : (-2147483648) ≤ trade) (trade_b : trade ≤ 2147483647) (event_a : (-2147483648) ≤ event) (event_b : event ≤ 2147483647) (paper_a : (-2147483648) ≤ paper) (paper_b : paper ≤ 2147483647) (ci : CI E S G) : Calls E mX11_due [(2, this), (0, trade), (0, event), (0, paper)] S G 9 704 6964 (fun r S' G' => Gr [95, 97, 99, 100, 101, 102, 103, 104, 133, 147] [(93, -1), (95, -1), (96, -1), (97, -1), (99, -1), (115, -1), (116, -1), (118, -1), (119, -1), (125, -1), (126, -1), (127, -1), (128, 0), (128, 19), (129, 1), (129, 2), (129, 15), (129, 16), (147, 0), (147, 1), (147, 2), (147, 3), (147, 4), (147, 5), (147, 6), (147, 7), (147, 8), (147, 9), (147, 10), (147, 11), (147, 12), (147, 13), (147, 14), (147, 15), (147, 16)] S G S' G' ∧ ∃ z : Int, r = some (1, z) ∧ (-9223372036854775808) ≤ z ∧ z ≤ 9223372036854775807 ∧ CI E S' G') := by
  refine calls_by [(0, (2, this)), (1, (0, trade)), (2, (0, event)), (3, (0, paper))] rfl rfl (Nat.le_of_ble_eq_true rfl) (fun X hX => ?_)
  have hP := hPX11_due
  refine r_peekI hX (tl_155 2 rfl (by decide)) trl_s (fun trn_o trn_oe trn_oa trn_ob => ?_)
  obtain rfl : trn = trn_o := trn_e.trans trn_oe.symm
  refine r_peekI hX (tl_156 2 rfl (by decide)) evl_s (fun evn_o evn_oe evn_oa evn_ob => ?_)
  obtain rfl : evn = evn_o := evn_e.trans evn_oe.symm
  have j35 : ∀ (l4_j35 : Int), 0 ≤ l4_j35 → l4_j35 ≤ 1 → (l4_j35 = 1 ∨ (0 ≤ trade ∧ trade + 1 ≤ trn ∧ 0 ≤ event ∧ event + 1 ≤ evn)) → X 0 0 35 [] [(0, (2, this)), (1, (0, trade)), (2, (0, event)), (3, (0, paper)), (4, (0, l4_j35))] S G := by
    intro l4_j35 yj35_0 yj35_1 yj35_2
    refine r_ex hX hP 2 (pc' := 38) (st' := [(0, l4_j35), (2, this)]) (lo' := [(0, (2, this)), (1, (0, trade)), (2, (0, event)), (3, (0, paper)), (4, (0, l4_j35))]) rfl ?_
    refine r_if_eq hX hP rfl (tgt := 45) rfl (by first | decide | omega) (by first | decide | omega) (fun c1 => ?_) (fun c1 => ?_)
    · skip
      refine r_ex hX hP 1 (pc' := 46) (st' := [(0, 0), (2, this)]) (lo' := [(0, (2, this)), (1, (0, trade)), (2, (0, event)), (3, (0, paper)), (4, (0, l4_j35))]) rfl ?_
      refine r_callV gd hX hP rfl cv_X11_90_128 hS (d' := 0) (mc' := 0) (ms' := 0) (as' := [(0, 0)]) (st := []) (by first | decide | omega) (by first | decide | omega) (by first | decide | omega) rfl rfl (Nat.le_of_ble_eq_true rfl) (c_X11_refused E S G this 0 hS (by first | decide | omega) (by first | decide | omega)) ?_
      rintro _ _ _ ⟨rfl, ⟨G2, rfl⟩, z3, rfl, (⟨rfl, f4⟩ | ⟨rfl, f5⟩)⟩
      · skip
        exfalso; omega
      · skip
        refine r_if_eq hX hP rfl (tgt := 56) rfl (by first | decide | omega) (by first | decide | omega) (fun c6 => ?_) (fun c6 => ?_)
        · skip
          refine r_ex hX hP 1 (pc' := 57) (st' := [(2, this)]) (lo' := [(0, (2, this)), (1, (0, trade)), (2, (0, event)), (3, (0, paper)), (4, (0, l4_j35))]) rfl ?_
          refine r_getKR hX hP rfl fl_X11_33_128 hS (x := trl) trl_e ?_
          refine r_ex hX hP 1 (pc' := 61) (st' := [(0, trade), (2, trl)]) (lo' := [(0, (2, this)), (1, (0, trade)), (2, (0, event)), (3, (0, paper)), (4, (0, l4_j35))]) rfl ?_
          have ci7 : CI E S (hw [(128, 0)] G G2) := (ci_hw ci rfl)
          refine r_callV gd hX hP rfl cv_X11_196_155 trl_s (d' := 2) (mc' := 0) (ms' := 0) (as' := [(0, trade)]) (st := []) (by first | decide | omega) (by first | decide | omega) (by first | decide | omega) rfl rfl (Nat.le_of_ble_eq_true rfl) (c_get_Ltr E S (hw [(128, 0)] G G2) trl trade trl_s trn trn_e (by first | decide | omega) (by first | decide | omega) (by first | decide | omega) ci7) ?_
          rintro _ _ _ ⟨rfl, rfl, z8, rfl, z8s⟩
          refine r_cast hX hP rfl (tbg sg3 16 rfl rfl) ck_140_X1 z8s ?_
          refine r_ex hX hP 2 (pc' := 70) (st' := [(2, this)]) (lo' := [(0, (2, this)), (1, (0, trade)), (2, (0, event)), (3, (0, paper)), (4, (0, l4_j35)), (5, (2, z8))]) rfl ?_
          refine r_getKR hX hP rfl fl_X11_37_128 hS (x := evl) evl_e ?_
          refine r_ex hX hP 1 (pc' := 74) (st' := [(0, event), (2, evl)]) (lo' := [(0, (2, this)), (1, (0, trade)), (2, (0, event)), (3, (0, paper)), (4, (0, l4_j35)), (5, (2, z8))]) rfl ?_
          refine r_callV gd hX hP rfl cv_X11_196_156 evl_s (d' := 2) (mc' := 0) (ms' := 0) (as' := [(0, event)]) (st := []) (by first | decide | omega) (by first | decide | omega) (by first | decide | omega) rfl rfl (Nat.le_of_ble_eq_true rfl) (c_get_Lev E S (hw [(128, 0)] G G2) evl event evl_s evn evn_e (by first | decide | omega) (by first | decide | omega) (by first | decide | omega) ci7) ?_
          rintro _ _ _ ⟨rfl, rfl, z9, rfl, z9s⟩
          refine r_cast hX hP rfl (tbg sg4 200 rfl rfl) ck_137_X2 z9s ?_
          refine r_ex hX hP 1 (pc' := 82) (st' := []) (lo' := [(0, (2, this)), (1, (0, trade)), (2, (0, event)), (3, (0, paper)), (4, (0, l4_j35)), (5, (2, z8)), (6, (2, z9))]) rfl ?_
          have j143 : ∀ (l7_j143 : Int), 0 ≤ l7_j143 → l7_j143 ≤ 1 → X 0 0 143 [] [(0, (2, this)), (1, (0, trade)), (2, (0, event)), (3, (0, paper)), (4, (0, l4_j35)), (5, (2, z8)), (6, (2, z9)), (7, (0, l7_j143))] S (hw [(128, 0)] G G2) := by
            intro l7_j143 yj143_0 yj143_1
            refine r_ex hX hP 2 (pc' := 146) (st' := [(0, l7_j143), (2, this)]) (lo' := [(0, (2, this)), (1, (0, trade)), (2, (0, event)), (3, (0, paper)), (4, (0, l4_j35)), (5, (2, z8)), (6, (2, z9)), (7, (0, l7_j143))]) rfl ?_
            refine r_if_eq hX hP rfl (tgt := 154) rfl (by first | decide | omega) (by first | decide | omega) (fun c10 => ?_) (fun c10 => ?_)
            · skip
              refine r_ex hX hP 1 (pc' := 155) (st' := [(0, 0), (2, this)]) (lo' := [(0, (2, this)), (1, (0, trade)), (2, (0, event)), (3, (0, paper)), (4, (0, l4_j35)), (5, (2, z8)), (6, (2, z9)), (7, (0, l7_j143))]) rfl ?_
              refine r_callV gd hX hP rfl cv_X11_90_128 hS (d' := 0) (mc' := 0) (ms' := 0) (as' := [(0, 0)]) (st := []) (by first | decide | omega) (by first | decide | omega) (by first | decide | omega) rfl rfl (Nat.le_of_ble_eq_true rfl) (c_X11_refused E S (hw [(128, 0)] G G2) this 0 hS (by first | decide | omega) (by first | decide | omega)) ?_
              rintro _ _ _ ⟨rfl, ⟨G11, rfl⟩, z12, rfl, (⟨rfl, f13⟩ | ⟨rfl, f14⟩)⟩
              · skip
                exfalso; omega
              · skip
                refine r_if_eq hX hP rfl (tgt := 165) rfl (by first | decide | omega) (by first | decide | omega) (fun c15 => ?_) (fun c15 => ?_)
                · skip
                  refine r_ex hX hP 1 (pc' := 166) (st' := [(2, this)]) (lo' := [(0, (2, this)), (1, (0, trade)), (2, (0, event)), (3, (0, paper)), (4, (0, l4_j35)), (5, (2, z8)), (6, (2, z9)), (7, (0, l7_j143))]) rfl ?_
                  refine r_getR hX hP rfl fl_X11_16_128 hS (fun rf16 rf16e rf16s => ?_)
                  refine r_ex hX hP 1 (pc' := 171) (st' := [(2, z8), (2, rf16)]) (lo' := [(0, (2, this)), (1, (0, trade)), (2, (0, event)), (3, (0, paper)), (4, (0, l4_j35)), (5, (2, z8)), (6, (2, z9)), (7, (0, l7_j143))]) rfl ?_
                  refine r_getI hX hP rfl fl_X11_283_140 z8s (fun df17 df17e df17a df17b => ?_)
                  have ci18 : CI E S (hw [(128, 0)] (hw [(128, 0)] G G2) G11) := (ci_hw ci7 rfl)
                  refine r_callV gd hX hP rfl cv_X11_233_129 rf16s (d' := 6) (mc' := 0) (ms' := 0) (as' := [(0, df17)]) (st := []) (by first | decide | omega) (by first | decide | omega) (by first | decide | omega) rfl rfl (Nat.le_of_ble_eq_true rfl) (c_X8_to E S (hw [(128, 0)] (hw [(128, 0)] G G2) G11) rf16 df17 rf16s (by first | decide | omega) (by first | decide | omega) ci18) ?_
                  rintro _ _ _ ⟨rfl, ⟨G19, rfl⟩, rfl, -⟩
                  refine r_ex hX hP 1 (pc' := 178) (st' := [(2, this)]) (lo' := [(0, (2, this)), (1, (0, trade)), (2, (0, event)), (3, (0, paper)), (4, (0, l4_j35)), (5, (2, z8)), (6, (2, z9)), (7, (0, l7_j143))]) rfl ?_
                  refine r_getKR hX hP rfl fl_X11_16_128 hS (x := rf16) rf16e ?_
                  refine r_getR hX hP rfl fl_X11_286_129 rf16s (fun sf20 sf20e sf20s => ?_)
                  refine r_ex hX hP 1 (pc' := 185) (st' := [(0, trade), (2, sf20)]) (lo' := [(0, (2, this)), (1, (0, trade)), (2, (0, event)), (3, (0, paper)), (4, (0, l4_j35)), (5, (2, z8)), (6, (2, z9)), (7, (0, l7_j143))]) rfl ?_
                  refine r_iald hX hP rfl al_115 sf20s (by first | decide | omega) (by first | decide | omega) (fun x21 x21e x21a x21b => ?_)
                  refine r_ex hX hP 1 (pc' := 187) (st' := [(0, (-1)), (0, x21)]) (lo' := [(0, (2, this)), (1, (0, trade)), (2, (0, event)), (3, (0, paper)), (4, (0, l4_j35)), (5, (2, z8)), (6, (2, z9)), (7, (0, l7_j143))]) rfl ?_
                  refine r_ic_ne hX hP rfl (tgt := 230) rfl (by first | decide | omega) (by first | decide | omega) (by first | decide | omega) (by first | decide | omega) (fun c22 => ?_) (fun c22 => ?_)
                  · skip
                    refine r_ex hX hP 3 (pc' := 233) (st' := [(0, trade), (2, this), (2, this)]) (lo' := [(0, (2, this)), (1, (0, trade)), (2, (0, event)), (3, (0, paper)), (4, (0, l4_j35)), (5, (2, z8)), (6, (2, z9)), (7, (0, l7_j143))]) rfl ?_
                    refine r_callV gd hX hP rfl cv_X11_306_128 hS (d' := 0) (mc' := 0) (ms' := 0) (as' := [(0, trade)]) (st := [(2, this)]) (by first | decide | omega) (by first | decide | omega) (by first | decide | omega) rfl rfl (Nat.le_of_ble_eq_true rfl) (c_X11_settledStatus E S (hw [(93, -1), (95, -1), (96, -1), (97, -1), (115, -1), (116, -1), (118, -1), (119, -1), (125, -1), (126, -1), (127, -1), (129, 1), (129, 2), (129, 15), (129, 16)] (hw [(128, 0)] (hw [(128, 0)] G G2) G11) G19) this trade hS (by first | decide | omega) (by first | decide | omega)) ?_
                    rintro _ _ _ ⟨rfl, rfl, z23, rfl, z23a, z23b⟩
                    refine r_callV gd hX hP rfl cv_X11_90_128 hS (d' := 0) (mc' := 0) (ms' := 0) (as' := [(0, z23)]) (st := []) (by first | decide | omega) (by first | decide | omega) (by first | decide | omega) rfl rfl (Nat.le_of_ble_eq_true rfl) (c_X11_refused E S (hw [(93, -1), (95, -1), (96, -1), (97, -1), (115, -1), (116, -1), (118, -1), (119, -1), (125, -1), (126, -1), (127, -1), (129, 1), (129, 2), (129, 15), (129, 16)] (hw [(128, 0)] (hw [(128, 0)] G G2) G11) G19) this z23 hS (by first | decide | omega) (by first | decide | omega)) ?_
                    rintro _ _ _ ⟨rfl, ⟨G24, rfl⟩, z25, rfl, (⟨rfl, f26⟩ | ⟨rfl, f27⟩)⟩
                    · skip
                      refine r_if_eq hX hP rfl (tgt := 246) rfl (by first | decide | omega) (by first | decide | omega) (fun c28 => ?_) (fun c28 => ?_)
                      · skip
                        exfalso; omega
                      · skip
                        refine r_ldc2 hX hP rfl (v := (-1)) (tbg sg5 231 rfl rfl) ?_
                        have g29 : Gr [95, 97, 99, 100, 101, 102, 103, 104, 133, 147] [(93, -1), (95, -1), (96, -1), (97, -1), (99, -1), (115, -1), (116, -1), (118, -1), (119, -1), (125, -1), (126, -1), (127, -1), (128, 0), (128, 19), (129, 1), (129, 2), (129, 15), (129, 16), (147, 0), (147, 1), (147, 2), (147, 3), (147, 4), (147, 5), (147, 6), (147, 7), (147, 8), (147, 9), (147, 10), (147, 11), (147, 12), (147, 13), (147, 14), (147, 15), (147, 16)] S G S (hw [(128, 0)] (hw [(93, -1), (95, -1), (96, -1), (97, -1), (115, -1), (116, -1), (118, -1), (119, -1), (125, -1), (126, -1), (127, -1), (129, 1), (129, 2), (129, 15), (129, 16)] (hw [(128, 0)] (hw [(128, 0)] G G2) G11) G19) G24) := (gr_hw (gr_hw (gr_hw (gr_hw (gr_refl [95, 97, 99, 100, 101, 102, 103, 104, 133, 147] [(93, -1), (95, -1), (96, -1), (97, -1), (99, -1), (115, -1), (116, -1), (118, -1), (119, -1), (125, -1), (126, -1), (127, -1), (128, 0), (128, 19), (129, 1), (129, 2), (129, 15), (129, 16), (147, 0), (147, 1), (147, 2), (147, 3), (147, 4), (147, 5), (147, 6), (147, 7), (147, 8), (147, 9), (147, 10), (147, 11), (147, 12), (147, 13), (147, 14), (147, 15), (147, 16)] S G) rfl) rfl) rfl) rfl)
                        have ci30 : CI E S (hw [(128, 0)] (hw [(93, -1), (95, -1), (96, -1), (97, -1), (115, -1), (116, -1), (118, -1), (119, -1), (125, -1), (126, -1), (127, -1), (129, 1), (129, 2), (129, 15), (129, 16)] (hw [(128, 0)] (hw [(128, 0)] G G2) G11) G19) G24) := (ci_hw (ci_hw ci18 rfl) rfl)
                        exact r_retL hX hP rfl rfl (by first | decide | omega) (by first | decide | omega) ⟨g29, (-1), rfl, (by first | decide | omega), (by first | decide | omega), ci30⟩
                    · skip
                      refine r_if_eq hX hP rfl (tgt := 246) rfl (by first | decide | omega) (by first | decide | omega) (fun c31 => ?_) (fun c31 => ?_)
                      · skip
                        refine r_ex hX hP 2 (pc' := 250) (st' := [(2, z9), (2, z8)]) (lo' := [(0, (2, this)), (1, (0, trade)), (2, (0, event)), (3, (0, paper)), (4, (0, l4_j35)), (5, (2, z8)), (6, (2, z9)), (7, (0, l7_j143))]) rfl ?_
                        refine r_callS gd hX hP rfl cs_X11_309 (d' := 0) (mc' := 0) (ms' := 0) (as' := [(2, z8), (2, z9)]) (st := []) (by first | decide | omega) (by first | decide | omega) (by first | decide | omega) rfl rfl (Nat.le_of_ble_eq_true rfl) (c_X11_owingSide E S (hw [(128, 0)] (hw [(93, -1), (95, -1), (96, -1), (97, -1), (115, -1), (116, -1), (118, -1), (119, -1), (125, -1), (126, -1), (127, -1), (129, 1), (129, 2), (129, 15), (129, 16)] (hw [(128, 0)] (hw [(128, 0)] G G2) G11) G19) G24) z8 z9 z8s z9s) ?_
                        rintro _ _ _ ⟨rfl, rfl, z32, rfl, z32a, z32b⟩
                        refine r_i2l hX hP rfl (by first | decide | omega) (by first | decide | omega) ?_
                        refine r_ex hX hP 1 (pc' := 256) (st' := [(2, z9), (1, z32)]) (lo' := [(0, (2, this)), (1, (0, trade)), (2, (0, event)), (3, (0, paper)), (4, (0, l4_j35)), (5, (2, z8)), (6, (2, z9)), (7, (0, l7_j143))]) rfl ?_
                        refine r_getR hX hP rfl fl_X11_200_137 z9s (fun tf33 tf33e tf33s => ?_)
                        refine r_ex hX hP 1 (pc' := 261) (st' := [(2, z8), (2, tf33), (1, z32)]) (lo' := [(0, (2, this)), (1, (0, trade)), (2, (0, event)), (3, (0, paper)), (4, (0, l4_j35)), (5, (2, z8)), (6, (2, z9)), (7, (0, l7_j143))]) rfl ?_
                        refine r_getI hX hP rfl fl_X11_313_140 z8s (fun nf34 nf34e nf34a nf34b => ?_)
                        refine r_ex hX hP 1 (pc' := 265) (st' := [(0, paper), (0, nf34), (2, tf33), (1, z32)]) (lo' := [(0, (2, this)), (1, (0, trade)), (2, (0, event)), (3, (0, paper)), (4, (0, l4_j35)), (5, (2, z8)), (6, (2, z9)), (7, (0, l7_j143))]) rfl ?_
                        refine r_callS gd hX hP rfl cs_X11_316 (d' := 4) (mc' := 0) (ms' := 0) (as' := [(2, tf33), (0, nf34), (0, paper)]) (st := [(1, z32)]) (by first | decide | omega) (by first | decide | omega) (by first | decide | omega) rfl rfl (Nat.le_of_ble_eq_true rfl) (c_X11_givenTo E S (hw [(128, 0)] (hw [(93, -1), (95, -1), (96, -1), (97, -1), (115, -1), (116, -1), (118, -1), (119, -1), (125, -1), (126, -1), (127, -1), (129, 1), (129, 2), (129, 15), (129, 16)] (hw [(128, 0)] (hw [(128, 0)] G G2) G11) G19) G24) tf33 nf34 paper tf33s (by first | decide | omega) (by first | decide | omega) (by first | decide | omega) (by first | decide | omega)) ?_
                        rintro _ _ _ ⟨rfl, ⟨G35, rfl⟩, z36, rfl, z36a, z36b⟩
                        refine r_ex hX hP 1 (pc' := 269) (st' := [(1, (z32 * z36))]) (lo' := [(0, (2, this)), (1, (0, trade)), (2, (0, event)), (3, (0, paper)), (4, (0, l4_j35)), (5, (2, z8)), (6, (2, z9)), (7, (0, l7_j143))]) rfl ?_
                        refine r_hvL hX (fun w37 w37a w37b w37e => ?_)
                        have g38 : Gr [95, 97, 99, 100, 101, 102, 103, 104, 133, 147] [(93, -1), (95, -1), (96, -1), (97, -1), (99, -1), (115, -1), (116, -1), (118, -1), (119, -1), (125, -1), (126, -1), (127, -1), (128, 0), (128, 19), (129, 1), (129, 2), (129, 15), (129, 16), (147, 0), (147, 1), (147, 2), (147, 3), (147, 4), (147, 5), (147, 6), (147, 7), (147, 8), (147, 9), (147, 10), (147, 11), (147, 12), (147, 13), (147, 14), (147, 15), (147, 16)] S G S (hw [(119, -1), (125, -1), (126, -1), (127, -1)] (hw [(128, 0)] (hw [(93, -1), (95, -1), (96, -1), (97, -1), (115, -1), (116, -1), (118, -1), (119, -1), (125, -1), (126, -1), (127, -1), (129, 1), (129, 2), (129, 15), (129, 16)] (hw [(128, 0)] (hw [(128, 0)] G G2) G11) G19) G24) G35) := (gr_hw (gr_hw (gr_hw (gr_hw (gr_hw (gr_refl [95, 97, 99, 100, 101, 102, 103, 104, 133, 147] [(93, -1), (95, -1), (96, -1), (97, -1), (99, -1), (115, -1), (116, -1), (118, -1), (119, -1), (125, -1), (126, -1), (127, -1), (128, 0), (128, 19), (129, 1), (129, 2), (129, 15), (129, 16), (147, 0), (147, 1), (147, 2), (147, 3), (147, 4), (147, 5), (147, 6), (147, 7), (147, 8), (147, 9), (147, 10), (147, 11), (147, 12), (147, 13), (147, 14), (147, 15), (147, 16)] S G) rfl) rfl) rfl) rfl) rfl)
                        have ci39 : CI E S (hw [(119, -1), (125, -1), (126, -1), (127, -1)] (hw [(128, 0)] (hw [(93, -1), (95, -1), (96, -1), (97, -1), (115, -1), (116, -1), (118, -1), (119, -1), (125, -1), (126, -1), (127, -1), (129, 1), (129, 2), (129, 15), (129, 16)] (hw [(128, 0)] (hw [(128, 0)] G G2) G11) G19) G24) G35) := (ci_hw (ci_hw (ci_hw ci18 rfl) rfl) rfl)
                        exact r_retL hX hP rfl rfl (by first | decide | omega) (by first | decide | omega) ⟨g38, w37, rfl, (by first | decide | omega), (by first | decide | omega), ci39⟩
                      · skip
                        exfalso; omega
                  · skip
                    refine r_ex hX hP 2 (pc' := 192) (st' := [(2, this), (2, this)]) (lo' := [(0, (2, this)), (1, (0, trade)), (2, (0, event)), (3, (0, paper)), (4, (0, l4_j35)), (5, (2, z8)), (6, (2, z9)), (7, (0, l7_j143))]) rfl ?_
                    refine r_getN hX hP rfl fl_X11_293_128 hS (fun ff40 ff40e ff40s => ?_)
                    refine r_ifnn hX hP rfl (tgt := 212) rfl (fun c41 => ?_) (fun c41 => ?_)
                    · skip
                      have s42 := nul_lab ff40s c41
                      refine r_ex hX hP 1 (pc' := 213) (st' := [(2, this), (2, this)]) (lo' := [(0, (2, this)), (1, (0, trade)), (2, (0, event)), (3, (0, paper)), (4, (0, l4_j35)), (5, (2, z8)), (6, (2, z9)), (7, (0, l7_j143))]) rfl ?_
                      refine r_getKN hX hP rfl fl_X11_293_128 hS (x := ff40) ff40e ?_
                      refine r_putNK hX hP rfl fp_X11_293_128 hS (by decide) (Or.inr s42) (fun h43 => ?_)
                      refine r_ex hX hP 1 (pc' := 220) (st' := [(2, this)]) (lo' := [(0, (2, this)), (1, (0, trade)), (2, (0, event)), (3, (0, paper)), (4, (0, l4_j35)), (5, (2, z8)), (6, (2, z9)), (7, (0, l7_j143))]) rfl ?_
                      refine r_getKN hX hP rfl fl_X11_293_128 hS (x := ff40) h43 ?_
                      refine r_ex hX hP 1 (pc' := 224) (st' := [(2, this), (2, ff40)]) (lo' := [(0, (2, this)), (1, (0, trade)), (2, (0, event)), (3, (0, paper)), (4, (0, l4_j35)), (5, (2, z8)), (6, (2, z9)), (7, (0, l7_j143))]) rfl ?_
                      refine r_getKR hX hP rfl fl_X11_16_128 hS (x := rf16) rf16e ?_
                      have ci44 : CI E S (up (hw [(93, -1), (95, -1), (96, -1), (97, -1), (115, -1), (116, -1), (118, -1), (119, -1), (125, -1), (126, -1), (127, -1), (129, 1), (129, 2), (129, 15), (129, 16)] (hw [(128, 0)] (hw [(128, 0)] G G2) G11) G19) 128 this 19 ff40) := (ci_up (ci_hw ci18 rfl) rfl)
                      refine r_callV gd hX hP rfl cv_X11_302_133 s42 (d' := 8) (mc' := 0) (ms' := 0) (as' := [(2, rf16)]) (st := []) (by first | decide | omega) (by first | decide | omega) (by first | decide | omega) rfl rfl (Nat.le_of_ble_eq_true rfl) (c_X3_goOn E S (up (hw [(93, -1), (95, -1), (96, -1), (97, -1), (115, -1), (116, -1), (118, -1), (119, -1), (125, -1), (126, -1), (127, -1), (129, 1), (129, 2), (129, 15), (129, 16)] (hw [(128, 0)] (hw [(128, 0)] G G2) G11) G19) 128 this 19 ff40) ff40 rf16 s42 rf16s ci44) ?_
                      rintro _ _ _ ⟨rfl, ⟨G45, rfl⟩, rfl, -⟩
                      refine r_ex hX hP 3 (pc' := 233) (st' := [(0, trade), (2, this), (2, this)]) (lo' := [(0, (2, this)), (1, (0, trade)), (2, (0, event)), (3, (0, paper)), (4, (0, l4_j35)), (5, (2, z8)), (6, (2, z9)), (7, (0, l7_j143))]) rfl ?_
                      refine r_callV gd hX hP rfl cv_X11_306_128 hS (d' := 0) (mc' := 0) (ms' := 0) (as' := [(0, trade)]) (st := [(2, this)]) (by first | decide | omega) (by first | decide | omega) (by first | decide | omega) rfl rfl (Nat.le_of_ble_eq_true rfl) (c_X11_settledStatus E S (hw [(95, -1), (97, -1), (99, -1), (115, -1), (119, -1), (125, -1), (126, -1), (127, -1)] (up (hw [(93, -1), (95, -1), (96, -1), (97, -1), (115, -1), (116, -1), (118, -1), (119, -1), (125, -1), (126, -1), (127, -1), (129, 1), (129, 2), (129, 15), (129, 16)] (hw [(128, 0)] (hw [(128, 0)] G G2) G11) G19) 128 this 19 ff40) G45) this trade hS (by first | decide | omega) (by first | decide | omega)) ?_
                      rintro _ _ _ ⟨rfl, rfl, z46, rfl, z46a, z46b⟩
                      refine r_callV gd hX hP rfl cv_X11_90_128 hS (d' := 0) (mc' := 0) (ms' := 0) (as' := [(0, z46)]) (st := []) (by first | decide | omega) (by first | decide | omega) (by first | decide | omega) rfl rfl (Nat.le_of_ble_eq_true rfl) (c_X11_refused E S (hw [(95, -1), (97, -1), (99, -1), (115, -1), (119, -1), (125, -1), (126, -1), (127, -1)] (up (hw [(93, -1), (95, -1), (96, -1), (97, -1), (115, -1), (116, -1), (118, -1), (119, -1), (125, -1), (126, -1), (127, -1), (129, 1), (129, 2), (129, 15), (129, 16)] (hw [(128, 0)] (hw [(128, 0)] G G2) G11) G19) 128 this 19 ff40) G45) this z46 hS (by first | decide | omega) (by first | decide | omega)) ?_
                      rintro _ _ _ ⟨rfl, ⟨G47, rfl⟩, z48, rfl, (⟨rfl, f49⟩ | ⟨rfl, f50⟩)⟩
                      · skip
                        refine r_if_eq hX hP rfl (tgt := 246) rfl (by first | decide | omega) (by first | decide | omega) (fun c51 => ?_) (fun c51 => ?_)
                        · skip
                          exfalso; omega
                        · skip
                          refine r_ldc2 hX hP rfl (v := (-1)) (tbg sg5 231 rfl rfl) ?_
                          have g52 : Gr [95, 97, 99, 100, 101, 102, 103, 104, 133, 147] [(93, -1), (95, -1), (96, -1), (97, -1), (99, -1), (115, -1), (116, -1), (118, -1), (119, -1), (125, -1), (126, -1), (127, -1), (128, 0), (128, 19), (129, 1), (129, 2), (129, 15), (129, 16), (147, 0), (147, 1), (147, 2), (147, 3), (147, 4), (147, 5), (147, 6), (147, 7), (147, 8), (147, 9), (147, 10), (147, 11), (147, 12), (147, 13), (147, 14), (147, 15), (147, 16)] S G S (hw [(128, 0)] (hw [(95, -1), (97, -1), (99, -1), (115, -1), (119, -1), (125, -1), (126, -1), (127, -1)] (up (hw [(93, -1), (95, -1), (96, -1), (97, -1), (115, -1), (116, -1), (118, -1), (119, -1), (125, -1), (126, -1), (127, -1), (129, 1), (129, 2), (129, 15), (129, 16)] (hw [(128, 0)] (hw [(128, 0)] G G2) G11) G19) 128 this 19 ff40) G45) G47) := (gr_hw (gr_hw (gr_up (gr_hw (gr_hw (gr_hw (gr_refl [95, 97, 99, 100, 101, 102, 103, 104, 133, 147] [(93, -1), (95, -1), (96, -1), (97, -1), (99, -1), (115, -1), (116, -1), (118, -1), (119, -1), (125, -1), (126, -1), (127, -1), (128, 0), (128, 19), (129, 1), (129, 2), (129, 15), (129, 16), (147, 0), (147, 1), (147, 2), (147, 3), (147, 4), (147, 5), (147, 6), (147, 7), (147, 8), (147, 9), (147, 10), (147, 11), (147, 12), (147, 13), (147, 14), (147, 15), (147, 16)] S G) rfl) rfl) rfl) rfl) rfl) rfl)
                          have ci53 : CI E S (hw [(128, 0)] (hw [(95, -1), (97, -1), (99, -1), (115, -1), (119, -1), (125, -1), (126, -1), (127, -1)] (up (hw [(93, -1), (95, -1), (96, -1), (97, -1), (115, -1), (116, -1), (118, -1), (119, -1), (125, -1), (126, -1), (127, -1), (129, 1), (129, 2), (129, 15), (129, 16)] (hw [(128, 0)] (hw [(128, 0)] G G2) G11) G19) 128 this 19 ff40) G45) G47) := (ci_hw (ci_hw ci44 rfl) rfl)
                          exact r_retL hX hP rfl rfl (by first | decide | omega) (by first | decide | omega) ⟨g52, (-1), rfl, (by first | decide | omega), (by first | decide | omega), ci53⟩
                      · skip
                        refine r_if_eq hX hP rfl (tgt := 246) rfl (by first | decide | omega) (by first | decide | omega) (fun c54 => ?_) (fun c54 => ?_)
                        · skip
                          refine r_ex hX hP 2 (pc' := 250) (st' := [(2, z9), (2, z8)]) (lo' := [(0, (2, this)), (1, (0, trade)), (2, (0, event)), (3, (0, paper)), (4, (0, l4_j35)), (5, (2, z8)), (6, (2, z9)), (7, (0, l7_j143))]) rfl ?_
                          refine r_callS gd hX hP rfl cs_X11_309 (d' := 0) (mc' := 0) (ms' := 0) (as' := [(2, z8), (2, z9)]) (st := []) (by first | decide | omega) (by first | decide | omega) (by first | decide | omega) rfl rfl (Nat.le_of_ble_eq_true rfl) (c_X11_owingSide E S (hw [(128, 0)] (hw [(95, -1), (97, -1), (99, -1), (115, -1), (119, -1), (125, -1), (126, -1), (127, -1)] (up (hw [(93, -1), (95, -1), (96, -1), (97, -1), (115, -1), (116, -1), (118, -1), (119, -1), (125, -1), (126, -1), (127, -1), (129, 1), (129, 2), (129, 15), (129, 16)] (hw [(128, 0)] (hw [(128, 0)] G G2) G11) G19) 128 this 19 ff40) G45) G47) z8 z9 z8s z9s) ?_
                          rintro _ _ _ ⟨rfl, rfl, z55, rfl, z55a, z55b⟩
                          refine r_i2l hX hP rfl (by first | decide | omega) (by first | decide | omega) ?_
                          refine r_ex hX hP 1 (pc' := 256) (st' := [(2, z9), (1, z55)]) (lo' := [(0, (2, this)), (1, (0, trade)), (2, (0, event)), (3, (0, paper)), (4, (0, l4_j35)), (5, (2, z8)), (6, (2, z9)), (7, (0, l7_j143))]) rfl ?_
                          refine r_getR hX hP rfl fl_X11_200_137 z9s (fun tf56 tf56e tf56s => ?_)
                          refine r_ex hX hP 1 (pc' := 261) (st' := [(2, z8), (2, tf56), (1, z55)]) (lo' := [(0, (2, this)), (1, (0, trade)), (2, (0, event)), (3, (0, paper)), (4, (0, l4_j35)), (5, (2, z8)), (6, (2, z9)), (7, (0, l7_j143))]) rfl ?_
                          refine r_getI hX hP rfl fl_X11_313_140 z8s (fun nf57 nf57e nf57a nf57b => ?_)
                          refine r_ex hX hP 1 (pc' := 265) (st' := [(0, paper), (0, nf57), (2, tf56), (1, z55)]) (lo' := [(0, (2, this)), (1, (0, trade)), (2, (0, event)), (3, (0, paper)), (4, (0, l4_j35)), (5, (2, z8)), (6, (2, z9)), (7, (0, l7_j143))]) rfl ?_
                          refine r_callS gd hX hP rfl cs_X11_316 (d' := 4) (mc' := 0) (ms' := 0) (as' := [(2, tf56), (0, nf57), (0, paper)]) (st := [(1, z55)]) (by first | decide | omega) (by first | decide | omega) (by first | decide | omega) rfl rfl (Nat.le_of_ble_eq_true rfl) (c_X11_givenTo E S (hw [(128, 0)] (hw [(95, -1), (97, -1), (99, -1), (115, -1), (119, -1), (125, -1), (126, -1), (127, -1)] (up (hw [(93, -1), (95, -1), (96, -1), (97, -1), (115, -1), (116, -1), (118, -1), (119, -1), (125, -1), (126, -1), (127, -1), (129, 1), (129, 2), (129, 15), (129, 16)] (hw [(128, 0)] (hw [(128, 0)] G G2) G11) G19) 128 this 19 ff40) G45) G47) tf56 nf57 paper tf56s (by first | decide | omega) (by first | decide | omega) (by first | decide | omega) (by first | decide | omega)) ?_
                          rintro _ _ _ ⟨rfl, ⟨G58, rfl⟩, z59, rfl, z59a, z59b⟩
                          refine r_ex hX hP 1 (pc' := 269) (st' := [(1, (z55 * z59))]) (lo' := [(0, (2, this)), (1, (0, trade)), (2, (0, event)), (3, (0, paper)), (4, (0, l4_j35)), (5, (2, z8)), (6, (2, z9)), (7, (0, l7_j143))]) rfl ?_
                          refine r_hvL hX (fun w60 w60a w60b w60e => ?_)
                          have g61 : Gr [95, 97, 99, 100, 101, 102, 103, 104, 133, 147] [(93, -1), (95, -1), (96, -1), (97, -1), (99, -1), (115, -1), (116, -1), (118, -1), (119, -1), (125, -1), (126, -1), (127, -1), (128, 0), (128, 19), (129, 1), (129, 2), (129, 15), (129, 16), (147, 0), (147, 1), (147, 2), (147, 3), (147, 4), (147, 5), (147, 6), (147, 7), (147, 8), (147, 9), (147, 10), (147, 11), (147, 12), (147, 13), (147, 14), (147, 15), (147, 16)] S G S (hw [(119, -1), (125, -1), (126, -1), (127, -1)] (hw [(128, 0)] (hw [(95, -1), (97, -1), (99, -1), (115, -1), (119, -1), (125, -1), (126, -1), (127, -1)] (up (hw [(93, -1), (95, -1), (96, -1), (97, -1), (115, -1), (116, -1), (118, -1), (119, -1), (125, -1), (126, -1), (127, -1), (129, 1), (129, 2), (129, 15), (129, 16)] (hw [(128, 0)] (hw [(128, 0)] G G2) G11) G19) 128 this 19 ff40) G45) G47) G58) := (gr_hw (gr_hw (gr_hw (gr_up (gr_hw (gr_hw (gr_hw (gr_refl [95, 97, 99, 100, 101, 102, 103, 104, 133, 147] [(93, -1), (95, -1), (96, -1), (97, -1), (99, -1), (115, -1), (116, -1), (118, -1), (119, -1), (125, -1), (126, -1), (127, -1), (128, 0), (128, 19), (129, 1), (129, 2), (129, 15), (129, 16), (147, 0), (147, 1), (147, 2), (147, 3), (147, 4), (147, 5), (147, 6), (147, 7), (147, 8), (147, 9), (147, 10), (147, 11), (147, 12), (147, 13), (147, 14), (147, 15), (147, 16)] S G) rfl) rfl) rfl) rfl) rfl) rfl) rfl)
                          have ci62 : CI E S (hw [(119, -1), (125, -1), (126, -1), (127, -1)] (hw [(128, 0)] (hw [(95, -1), (97, -1), (99, -1), (115, -1), (119, -1), (125, -1), (126, -1), (127, -1)] (up (hw [(93, -1), (95, -1), (96, -1), (97, -1), (115, -1), (116, -1), (118, -1), (119, -1), (125, -1), (126, -1), (127, -1), (129, 1), (129, 2), (129, 15), (129, 16)] (hw [(128, 0)] (hw [(128, 0)] G G2) G11) G19) 128 this 19 ff40) G45) G47) G58) := (ci_hw (ci_hw (ci_hw ci44 rfl) rfl) rfl)
                          exact r_retL hX hP rfl rfl (by first | decide | omega) (by first | decide | omega) ⟨g61, w60, rfl, (by first | decide | omega), (by first | decide | omega), ci62⟩
                        · skip
                          exfalso; omega
                    · skip
                      have g63 : Gr [95, 97, 99, 100, 101, 102, 103, 104, 133, 147] [(93, -1), (95, -1), (96, -1), (97, -1), (99, -1), (115, -1), (116, -1), (118, -1), (119, -1), (125, -1), (126, -1), (127, -1), (128, 0), (128, 19), (129, 1), (129, 2), (129, 15), (129, 16), (147, 0), (147, 1), (147, 2), (147, 3), (147, 4), (147, 5), (147, 6), (147, 7), (147, 8), (147, 9), (147, 10), (147, 11), (147, 12), (147, 13), (147, 14), (147, 15), (147, 16)] S G S (hw [(93, -1), (95, -1), (96, -1), (97, -1), (115, -1), (116, -1), (118, -1), (119, -1), (125, -1), (126, -1), (127, -1), (129, 1), (129, 2), (129, 15), (129, 16)] (hw [(128, 0)] (hw [(128, 0)] G G2) G11) G19) := (gr_hw (gr_hw (gr_hw (gr_refl [95, 97, 99, 100, 101, 102, 103, 104, 133, 147] [(93, -1), (95, -1), (96, -1), (97, -1), (99, -1), (115, -1), (116, -1), (118, -1), (119, -1), (125, -1), (126, -1), (127, -1), (128, 0), (128, 19), (129, 1), (129, 2), (129, 15), (129, 16), (147, 0), (147, 1), (147, 2), (147, 3), (147, 4), (147, 5), (147, 6), (147, 7), (147, 8), (147, 9), (147, 10), (147, 11), (147, 12), (147, 13), (147, 14), (147, 15), (147, 16)] S G) rfl) rfl) rfl)
                      have ci64 : CI E S (hw [(93, -1), (95, -1), (96, -1), (97, -1), (115, -1), (116, -1), (118, -1), (119, -1), (125, -1), (126, -1), (127, -1), (129, 1), (129, 2), (129, 15), (129, 16)] (hw [(128, 0)] (hw [(128, 0)] G G2) G11) G19) := (ci_hw ci18 rfl)
                      refine r_tk hX (fun tk65 => ?_)
                      refine r_newA hX hP rfl (L := 147) (N := 17) nw_X11_297_147 (by first | decide | omega) (by first | decide | omega) (fun n66 S67 G68 n66z n66n n66l g69 n66v => ?_)
                      have z70 : S n66 = 0 := gr_zero g63 n66z
                      have s71 : S67 this = 128 := gr_lab g69 hS (by decide)
                      have s72 : S67 trl = 155 := gr_lab g69 trl_s (by decide)
                      have s73 : S67 evl = 156 := gr_lab g69 evl_s (by decide)
                      have s74 : S67 z8 = 140 := gr_lab g69 z8s (by decide)
                      have s75 : S67 z9 = 137 := gr_lab g69 z9s (by decide)
                      have s76 : S67 rf16 = 129 := gr_lab g69 rf16s (by decide)
                      have s77 : S67 sf20 = 115 := gr_lab g69 sf20s (by decide)
                      have e78 : trl = G68 128 this 7 := gr_val g69 trl_e hS (by decide) rfl
                      have e79 : trn = G68 155 trl 2 := gr_val g69 trn_e trl_s (by decide) rfl
                      have e80 : evl = G68 128 this 8 := gr_val g69 evl_e hS (by decide) rfl
                      have e81 : evn = G68 156 evl 2 := gr_val g69 evn_e evl_s (by decide) rfl
                      have e82 : rf16 = G68 128 this 17 := gr_val g69 rf16e hS (by decide) rfl
                      have e83 : df17 = G68 140 z8 3 := gr_val g69 df17e z8s (by decide) rfl
                      have e84 : sf20 = G68 129 rf16 7 := gr_val g69 sf20e rf16s (by decide) rfl
                      have e85 : x21 = G68 115 sf20 trade := gr_val g69 x21e sf20s (by decide) rfl
                      have e86 : ff40 = G68 128 this 19 := gr_val g69 ff40e hS (by decide) rfl
                      have g87 : Gr [95, 97, 99, 100, 101, 102, 103, 104, 133, 147] [(93, -1), (95, -1), (96, -1), (97, -1), (99, -1), (115, -1), (116, -1), (118, -1), (119, -1), (125, -1), (126, -1), (127, -1), (128, 0), (128, 19), (129, 1), (129, 2), (129, 15), (129, 16), (147, 0), (147, 1), (147, 2), (147, 3), (147, 4), (147, 5), (147, 6), (147, 7), (147, 8), (147, 9), (147, 10), (147, 11), (147, 12), (147, 13), (147, 14), (147, 15), (147, 16)] S G S67 G68 := gr_call g63 g69 rfl rfl
                      have ci88 : CI E S67 G68 := ci_gr ci64 tk65 g69 rfl rfl
                      refine r_ex hX hP 2 (pc' := 203) (st' := [(2, this), (2, n66), (2, n66), (2, this)]) (lo' := [(0, (2, this)), (1, (0, trade)), (2, (0, event)), (3, (0, paper)), (4, (0, l4_j35)), (5, (2, z8)), (6, (2, z9)), (7, (0, l7_j143))]) rfl ?_
                      refine r_getR hX hP rfl fl_X11_24_128 s71 (fun af89 af89e af89s => ?_)
                      refine r_tk hX (fun tk90 => ?_)
                      refine r_callI gd hX hP rfl ci_X11_299 n66n (d' := 3) (mc' := 703) (ms' := 6947) (as' := [(2, af89)]) (st := [(2, n66), (2, this)]) (by first | decide | omega) (by first | decide | omega) (by first | decide | omega) rfl rfl (Nat.le_of_ble_eq_true rfl) (c_X3_init E S67 G68 n66 af89 n66l af89s) ?_
                      rintro _ S91 G92 ⟨g93, rfl, hf94⟩
                      have s95 : S91 this = 128 := gr_lab g93 s71 (by decide)
                      have s96 : S91 trl = 155 := gr_lab g93 s72 (by decide)
                      have s97 : S91 evl = 156 := gr_lab g93 s73 (by decide)
                      have s98 : S91 z8 = 140 := gr_lab g93 s74 (by decide)
                      have s99 : S91 z9 = 137 := gr_lab g93 s75 (by decide)
                      have s100 : S91 rf16 = 129 := gr_lab g93 s76 (by decide)
                      have s101 : S91 sf20 = 115 := gr_lab g93 s77 (by decide)
                      have s102 : S91 n66 = 147 := gr_lab g93 n66l (by decide)
                      have s103 : S91 af89 = 130 := gr_lab g93 af89s (by decide)
                      have e104 : trl = G92 128 this 7 := gr_val g93 e78 s71 (by decide) rfl
                      have e105 : trn = G92 155 trl 2 := gr_val g93 e79 s72 (by decide) rfl
                      have e106 : evl = G92 128 this 8 := gr_val g93 e80 s71 (by decide) rfl
                      have e107 : evn = G92 156 evl 2 := gr_val g93 e81 s73 (by decide) rfl
                      have e108 : rf16 = G92 128 this 17 := gr_val g93 e82 s71 (by decide) rfl
                      have e109 : df17 = G92 140 z8 3 := gr_val g93 e83 s74 (by decide) rfl
                      have e110 : sf20 = G92 129 rf16 7 := gr_val g93 e84 s76 (by decide) rfl
                      have e111 : x21 = G92 115 sf20 trade := gr_val g93 e85 s77 (by decide) rfl
                      have e112 : ff40 = G92 128 this 19 := gr_val g93 e86 s71 (by decide) rfl
                      have e113 : af89 = G92 128 this 5 := gr_val g93 af89e s71 (by decide) rfl
                      have g114 : Gr [95, 97, 99, 100, 101, 102, 103, 104, 133, 147] [(93, -1), (95, -1), (96, -1), (97, -1), (99, -1), (115, -1), (116, -1), (118, -1), (119, -1), (125, -1), (126, -1), (127, -1), (128, 0), (128, 19), (129, 1), (129, 2), (129, 15), (129, 16), (147, 0), (147, 1), (147, 2), (147, 3), (147, 4), (147, 5), (147, 6), (147, 7), (147, 8), (147, 9), (147, 10), (147, 11), (147, 12), (147, 13), (147, 14), (147, 15), (147, 16)] S G S91 G92 := gr_call g87 g93 rfl rfl
                      have ci115 : CI E S91 G92 := ci_gr ci88 tk90 g93 rfl rfl
                      refine r_ex hX hP 1 (pc' := 216) (st' := [(2, n66), (2, this)]) (lo' := [(0, (2, this)), (1, (0, trade)), (2, (0, event)), (3, (0, paper)), (4, (0, l4_j35)), (5, (2, z8)), (6, (2, z9)), (7, (0, l7_j143))]) rfl ?_
                      refine r_finA hX (L := 147) (ci := 4) (fs := fs_147) rfl s102 (by decide) (fun hr116 => ?_)
                      refine r_tk hX (fun tk118 => ?_)
                      refine r_relabF hX (L := 147) (L' := 133) (ci := 4) (fs := fs_147) (fs' := fs_133) rfl rfl rfl (by decide) (by decide) nf_147 (by decide) s102 hf94 (fun S120 G121 r119 => ?_)
                      have s123 : S120 this = 128 := r119.lab s102 s95 (by decide)
                      have s124 : S120 trl = 155 := r119.lab s102 s96 (by decide)
                      have s125 : S120 evl = 156 := r119.lab s102 s97 (by decide)
                      have s126 : S120 z8 = 140 := r119.lab s102 s98 (by decide)
                      have s127 : S120 z9 = 137 := r119.lab s102 s99 (by decide)
                      have s128 : S120 rf16 = 129 := r119.lab s102 s100 (by decide)
                      have s129 : S120 sf20 = 115 := r119.lab s102 s101 (by decide)
                      have s130 : S120 af89 = 130 := r119.lab s102 s103 (by decide)
                      have e131 : trl = G121 128 this 7 := rs_val r119 s102 e104 s95 (by decide)
                      have e132 : trn = G121 155 trl 2 := rs_val r119 s102 e105 s96 (by decide)
                      have e133 : evl = G121 128 this 8 := rs_val r119 s102 e106 s95 (by decide)
                      have e134 : evn = G121 156 evl 2 := rs_val r119 s102 e107 s97 (by decide)
                      have e135 : rf16 = G121 128 this 17 := rs_val r119 s102 e108 s95 (by decide)
                      have e136 : df17 = G121 140 z8 3 := rs_val r119 s102 e109 s98 (by decide)
                      have e137 : sf20 = G121 129 rf16 7 := rs_val r119 s102 e110 s100 (by decide)
                      have e138 : x21 = G121 115 sf20 trade := rs_val r119 s102 e111 s101 (by decide)
                      have e139 : ff40 = G121 128 this 19 := rs_val r119 s102 e112 s95 (by decide)
                      have e140 : af89 = G121 128 this 5 := rs_val r119 s102 e113 s95 (by decide)
                      have g141 : Gr [95, 97, 99, 100, 101, 102, 103, 104, 133, 147] [(93, -1), (95, -1), (96, -1), (97, -1), (99, -1), (115, -1), (116, -1), (118, -1), (119, -1), (125, -1), (126, -1), (127, -1), (128, 0), (128, 19), (129, 1), (129, 2), (129, 15), (129, 16), (147, 0), (147, 1), (147, 2), (147, 3), (147, 4), (147, 5), (147, 6), (147, 7), (147, 8), (147, 9), (147, 10), (147, 11), (147, 12), (147, 13), (147, 14), (147, 15), (147, 16)] S G S120 G121 := gr_rs g114 r119 z70 rfl
                      have ci142 : CI E S120 G121 := ci_rs ci115 tk118 r119 s102 rfl rfl (fun e => absurd e (by decide)) (fun e => absurd e (by decide))
                      refine r_putNK hX hP rfl fp_X11_293_128 s123 (by decide) (Or.inr r119.1) (fun h143 => ?_)
                      refine r_ex hX hP 1 (pc' := 220) (st' := [(2, this)]) (lo' := [(0, (2, this)), (1, (0, trade)), (2, (0, event)), (3, (0, paper)), (4, (0, l4_j35)), (5, (2, z8)), (6, (2, z9)), (7, (0, l7_j143))]) rfl ?_
                      refine r_getKN hX hP rfl fl_X11_293_128 s123 (x := n66) h143 ?_
                      refine r_ex hX hP 1 (pc' := 224) (st' := [(2, this), (2, n66)]) (lo' := [(0, (2, this)), (1, (0, trade)), (2, (0, event)), (3, (0, paper)), (4, (0, l4_j35)), (5, (2, z8)), (6, (2, z9)), (7, (0, l7_j143))]) rfl ?_
                      refine r_getKR hX hP rfl fl_X11_16_128 s123 (x := rf16) e135 ?_
                      have ci144 : CI E S120 (up G121 128 this 19 n66) := (ci_up ci142 rfl)
                      refine r_callV gd hX hP rfl cv_X11_302_133 r119.1 (d' := 8) (mc' := 0) (ms' := 0) (as' := [(2, rf16)]) (st := []) (by first | decide | omega) (by first | decide | omega) (by first | decide | omega) rfl rfl (Nat.le_of_ble_eq_true rfl) (c_X3_goOn E S120 (up G121 128 this 19 n66) n66 rf16 r119.1 s128 ci144) ?_
                      rintro _ _ _ ⟨rfl, ⟨G145, rfl⟩, rfl, -⟩
                      refine r_ex hX hP 3 (pc' := 233) (st' := [(0, trade), (2, this), (2, this)]) (lo' := [(0, (2, this)), (1, (0, trade)), (2, (0, event)), (3, (0, paper)), (4, (0, l4_j35)), (5, (2, z8)), (6, (2, z9)), (7, (0, l7_j143))]) rfl ?_
                      refine r_callV gd hX hP rfl cv_X11_306_128 s123 (d' := 0) (mc' := 0) (ms' := 0) (as' := [(0, trade)]) (st := [(2, this)]) (by first | decide | omega) (by first | decide | omega) (by first | decide | omega) rfl rfl (Nat.le_of_ble_eq_true rfl) (c_X11_settledStatus E S120 (hw [(95, -1), (97, -1), (99, -1), (115, -1), (119, -1), (125, -1), (126, -1), (127, -1)] (up G121 128 this 19 n66) G145) this trade s123 (by first | decide | omega) (by first | decide | omega)) ?_
                      rintro _ _ _ ⟨rfl, rfl, z146, rfl, z146a, z146b⟩
                      refine r_callV gd hX hP rfl cv_X11_90_128 s123 (d' := 0) (mc' := 0) (ms' := 0) (as' := [(0, z146)]) (st := []) (by first | decide | omega) (by first | decide | omega) (by first | decide | omega) rfl rfl (Nat.le_of_ble_eq_true rfl) (c_X11_refused E S120 (hw [(95, -1), (97, -1), (99, -1), (115, -1), (119, -1), (125, -1), (126, -1), (127, -1)] (up G121 128 this 19 n66) G145) this z146 s123 (by first | decide | omega) (by first | decide | omega)) ?_
                      rintro _ _ _ ⟨rfl, ⟨G147, rfl⟩, z148, rfl, (⟨rfl, f149⟩ | ⟨rfl, f150⟩)⟩
                      · skip
                        refine r_if_eq hX hP rfl (tgt := 246) rfl (by first | decide | omega) (by first | decide | omega) (fun c151 => ?_) (fun c151 => ?_)
                        · skip
                          exfalso; omega
                        · skip
                          refine r_ldc2 hX hP rfl (v := (-1)) (tbg sg5 231 rfl rfl) ?_
                          have g152 : Gr [95, 97, 99, 100, 101, 102, 103, 104, 133, 147] [(93, -1), (95, -1), (96, -1), (97, -1), (99, -1), (115, -1), (116, -1), (118, -1), (119, -1), (125, -1), (126, -1), (127, -1), (128, 0), (128, 19), (129, 1), (129, 2), (129, 15), (129, 16), (147, 0), (147, 1), (147, 2), (147, 3), (147, 4), (147, 5), (147, 6), (147, 7), (147, 8), (147, 9), (147, 10), (147, 11), (147, 12), (147, 13), (147, 14), (147, 15), (147, 16)] S G S120 (hw [(128, 0)] (hw [(95, -1), (97, -1), (99, -1), (115, -1), (119, -1), (125, -1), (126, -1), (127, -1)] (up G121 128 this 19 n66) G145) G147) := (gr_hw (gr_hw (gr_up g141 rfl) rfl) rfl)
                          have ci153 : CI E S120 (hw [(128, 0)] (hw [(95, -1), (97, -1), (99, -1), (115, -1), (119, -1), (125, -1), (126, -1), (127, -1)] (up G121 128 this 19 n66) G145) G147) := (ci_hw (ci_hw ci144 rfl) rfl)
                          exact r_retL hX hP rfl rfl (by first | decide | omega) (by first | decide | omega) ⟨g152, (-1), rfl, (by first | decide | omega), (by first | decide | omega), ci153⟩
                      · skip
                        refine r_if_eq hX hP rfl (tgt := 246) rfl (by first | decide | omega) (by first | decide | omega) (fun c154 => ?_) (fun c154 => ?_)
                        · skip
                          refine r_ex hX hP 2 (pc' := 250) (st' := [(2, z9), (2, z8)]) (lo' := [(0, (2, this)), (1, (0, trade)), (2, (0, event)), (3, (0, paper)), (4, (0, l4_j35)), (5, (2, z8)), (6, (2, z9)), (7, (0, l7_j143))]) rfl ?_
                          refine r_callS gd hX hP rfl cs_X11_309 (d' := 0) (mc' := 0) (ms' := 0) (as' := [(2, z8), (2, z9)]) (st := []) (by first | decide | omega) (by first | decide | omega) (by first | decide | omega) rfl rfl (Nat.le_of_ble_eq_true rfl) (c_X11_owingSide E S120 (hw [(128, 0)] (hw [(95, -1), (97, -1), (99, -1), (115, -1), (119, -1), (125, -1), (126, -1), (127, -1)] (up G121 128 this 19 n66) G145) G147) z8 z9 s126 s127) ?_
                          rintro _ _ _ ⟨rfl, rfl, z155, rfl, z155a, z155b⟩
                          refine r_i2l hX hP rfl (by first | decide | omega) (by first | decide | omega) ?_
                          refine r_ex hX hP 1 (pc' := 256) (st' := [(2, z9), (1, z155)]) (lo' := [(0, (2, this)), (1, (0, trade)), (2, (0, event)), (3, (0, paper)), (4, (0, l4_j35)), (5, (2, z8)), (6, (2, z9)), (7, (0, l7_j143))]) rfl ?_
                          refine r_getR hX hP rfl fl_X11_200_137 s127 (fun tf156 tf156e tf156s => ?_)
                          refine r_ex hX hP 1 (pc' := 261) (st' := [(2, z8), (2, tf156), (1, z155)]) (lo' := [(0, (2, this)), (1, (0, trade)), (2, (0, event)), (3, (0, paper)), (4, (0, l4_j35)), (5, (2, z8)), (6, (2, z9)), (7, (0, l7_j143))]) rfl ?_
                          refine r_getI hX hP rfl fl_X11_313_140 s126 (fun nf157 nf157e nf157a nf157b => ?_)
                          refine r_ex hX hP 1 (pc' := 265) (st' := [(0, paper), (0, nf157), (2, tf156), (1, z155)]) (lo' := [(0, (2, this)), (1, (0, trade)), (2, (0, event)), (3, (0, paper)), (4, (0, l4_j35)), (5, (2, z8)), (6, (2, z9)), (7, (0, l7_j143))]) rfl ?_
                          refine r_callS gd hX hP rfl cs_X11_316 (d' := 4) (mc' := 0) (ms' := 0) (as' := [(2, tf156), (0, nf157), (0, paper)]) (st := [(1, z155)]) (by first | decide | omega) (by first | decide | omega) (by first | decide | omega) rfl rfl (Nat.le_of_ble_eq_true rfl) (c_X11_givenTo E S120 (hw [(128, 0)] (hw [(95, -1), (97, -1), (99, -1), (115, -1), (119, -1), (125, -1), (126, -1), (127, -1)] (up G121 128 this 19 n66) G145) G147) tf156 nf157 paper tf156s (by first | decide | omega) (by first | decide | omega) (by first | decide | omega) (by first | decide | omega)) ?_
                          rintro _ _ _ ⟨rfl, ⟨G158, rfl⟩, z159, rfl, z159a, z159b⟩
                          refine r_ex hX hP 1 (pc' := 269) (st' := [(1, (z155 * z159))]) (lo' := [(0, (2, this)), (1, (0, trade)), (2, (0, event)), (3, (0, paper)), (4, (0, l4_j35)), (5, (2, z8)), (6, (2, z9)), (7, (0, l7_j143))]) rfl ?_
                          refine r_hvL hX (fun w160 w160a w160b w160e => ?_)
                          have g161 : Gr [95, 97, 99, 100, 101, 102, 103, 104, 133, 147] [(93, -1), (95, -1), (96, -1), (97, -1), (99, -1), (115, -1), (116, -1), (118, -1), (119, -1), (125, -1), (126, -1), (127, -1), (128, 0), (128, 19), (129, 1), (129, 2), (129, 15), (129, 16), (147, 0), (147, 1), (147, 2), (147, 3), (147, 4), (147, 5), (147, 6), (147, 7), (147, 8), (147, 9), (147, 10), (147, 11), (147, 12), (147, 13), (147, 14), (147, 15), (147, 16)] S G S120 (hw [(119, -1), (125, -1), (126, -1), (127, -1)] (hw [(128, 0)] (hw [(95, -1), (97, -1), (99, -1), (115, -1), (119, -1), (125, -1), (126, -1), (127, -1)] (up G121 128 this 19 n66) G145) G147) G158) := (gr_hw (gr_hw (gr_hw (gr_up g141 rfl) rfl) rfl) rfl)
                          have ci162 : CI E S120 (hw [(119, -1), (125, -1), (126, -1), (127, -1)] (hw [(128, 0)] (hw [(95, -1), (97, -1), (99, -1), (115, -1), (119, -1), (125, -1), (126, -1), (127, -1)] (up G121 128 this 19 n66) G145) G147) G158) := (ci_hw (ci_hw (ci_hw ci144 rfl) rfl) rfl)
                          exact r_retL hX hP rfl rfl (by first | decide | omega) (by first | decide | omega) ⟨g161, w160, rfl, (by first | decide | omega), (by first | decide | omega), ci162⟩
                        · skip
                          exfalso; omega
                · skip
                  exfalso; omega
            · skip
              refine r_ex hX hP 2 (pc' := 155) (st' := [(0, 7), (2, this)]) (lo' := [(0, (2, this)), (1, (0, trade)), (2, (0, event)), (3, (0, paper)), (4, (0, l4_j35)), (5, (2, z8)), (6, (2, z9)), (7, (0, l7_j143))]) rfl ?_
              refine r_callV gd hX hP rfl cv_X11_90_128 hS (d' := 0) (mc' := 0) (ms' := 0) (as' := [(0, 7)]) (st := []) (by first | decide | omega) (by first | decide | omega) (by first | decide | omega) rfl rfl (Nat.le_of_ble_eq_true rfl) (c_X11_refused E S (hw [(128, 0)] G G2) this 7 hS (by first | decide | omega) (by first | decide | omega)) ?_
              rintro _ _ _ ⟨rfl, ⟨G163, rfl⟩, z164, rfl, (⟨rfl, f165⟩ | ⟨rfl, f166⟩)⟩
              · skip
                refine r_if_eq hX hP rfl (tgt := 165) rfl (by first | decide | omega) (by first | decide | omega) (fun c167 => ?_) (fun c167 => ?_)
                · skip
                  exfalso; omega
                · skip
                  refine r_ldc2 hX hP rfl (v := (-1)) (tbg sg5 231 rfl rfl) ?_
                  have g168 : Gr [95, 97, 99, 100, 101, 102, 103, 104, 133, 147] [(93, -1), (95, -1), (96, -1), (97, -1), (99, -1), (115, -1), (116, -1), (118, -1), (119, -1), (125, -1), (126, -1), (127, -1), (128, 0), (128, 19), (129, 1), (129, 2), (129, 15), (129, 16), (147, 0), (147, 1), (147, 2), (147, 3), (147, 4), (147, 5), (147, 6), (147, 7), (147, 8), (147, 9), (147, 10), (147, 11), (147, 12), (147, 13), (147, 14), (147, 15), (147, 16)] S G S (hw [(128, 0)] (hw [(128, 0)] G G2) G163) := (gr_hw (gr_hw (gr_refl [95, 97, 99, 100, 101, 102, 103, 104, 133, 147] [(93, -1), (95, -1), (96, -1), (97, -1), (99, -1), (115, -1), (116, -1), (118, -1), (119, -1), (125, -1), (126, -1), (127, -1), (128, 0), (128, 19), (129, 1), (129, 2), (129, 15), (129, 16), (147, 0), (147, 1), (147, 2), (147, 3), (147, 4), (147, 5), (147, 6), (147, 7), (147, 8), (147, 9), (147, 10), (147, 11), (147, 12), (147, 13), (147, 14), (147, 15), (147, 16)] S G) rfl) rfl)
                  have ci169 : CI E S (hw [(128, 0)] (hw [(128, 0)] G G2) G163) := (ci_hw ci7 rfl)
                  exact r_retL hX hP rfl rfl (by first | decide | omega) (by first | decide | omega) ⟨g168, (-1), rfl, (by first | decide | omega), (by first | decide | omega), ci169⟩
              · skip
                exfalso; omega
          refine r_ex hX hP 2 (pc' := 85) (st' := [(2, this), (2, z8)]) (lo' := [(0, (2, this)), (1, (0, trade)), (2, (0, event)), (3, (0, paper)), (4, (0, l4_j35)), (5, (2, z8)), (6, (2, z9))]) rfl ?_
          refine r_getR hX hP rfl fl_X11_16_128 hS (fun rf170 rf170e rf170s => ?_)
          refine r_getI hX hP rfl fl_X11_93_129 rf170s (fun af171 af171e af171a af171b => ?_)
          refine r_callU gd hX hP rfl cu_X11_282_140 z8s (d' := 0) (mc' := 0) (ms' := 0) (as' := [(0, af171)]) (st := []) (by first | decide | omega) (by first | decide | omega) (by first | decide | omega) rfl rfl (Nat.le_of_ble_eq_true rfl) (c_counts_Trd E S (hw [(128, 0)] G G2) z8 af171 z8s (by first | decide | omega) (by first | decide | omega)) ?_
          rintro _ _ _ ⟨rfl, rfl, z172, rfl, z172a, z172b⟩
          refine r_if_eq hX hP rfl (tgt := 136) rfl (by first | decide | omega) (by first | decide | omega) (fun c173 => ?_) (fun c173 => ?_)
          · skip
            refine r_ex hX hP 3 (pc' := 143) (st' := []) (lo' := [(0, (2, this)), (1, (0, trade)), (2, (0, event)), (3, (0, paper)), (4, (0, l4_j35)), (5, (2, z8)), (6, (2, z9)), (7, (0, 1))]) rfl ?_
            exact j143 1 (by first | decide | omega) (by first | decide | omega)
          · skip
            refine r_ex hX hP 2 (pc' := 100) (st' := [(2, this), (2, z9)]) (lo' := [(0, (2, this)), (1, (0, trade)), (2, (0, event)), (3, (0, paper)), (4, (0, l4_j35)), (5, (2, z8)), (6, (2, z9))]) rfl ?_
            refine r_getKR hX hP rfl fl_X11_16_128 hS (x := rf170) rf170e ?_
            refine r_getKI hX hP rfl fl_X11_93_129 rf170s (x := af171) af171e ?_
            refine r_callU gd hX hP rfl cu_X11_264_137 z9s (d' := 0) (mc' := 0) (ms' := 0) (as' := [(0, af171)]) (st := []) (by first | decide | omega) (by first | decide | omega) (by first | decide | omega) rfl rfl (Nat.le_of_ble_eq_true rfl) (c_counts_Evt E S (hw [(128, 0)] G G2) z9 af171 z9s (by first | decide | omega) (by first | decide | omega)) ?_
            rintro _ _ _ ⟨rfl, rfl, z174, rfl, z174a, z174b⟩
            refine r_if_eq hX hP rfl (tgt := 136) rfl (by first | decide | omega) (by first | decide | omega) (fun c175 => ?_) (fun c175 => ?_)
            · skip
              refine r_ex hX hP 3 (pc' := 143) (st' := []) (lo' := [(0, (2, this)), (1, (0, trade)), (2, (0, event)), (3, (0, paper)), (4, (0, l4_j35)), (5, (2, z8)), (6, (2, z9)), (7, (0, 1))]) rfl ?_
              exact j143 1 (by first | decide | omega) (by first | decide | omega)
            · skip
              refine r_ex hX hP 1 (pc' := 114) (st' := [(2, z8)]) (lo' := [(0, (2, this)), (1, (0, trade)), (2, (0, event)), (3, (0, paper)), (4, (0, l4_j35)), (5, (2, z8)), (6, (2, z9))]) rfl ?_
              refine r_getI hX hP rfl fl_X11_289_140 z8s (fun pf176 pf176e pf176a pf176b => ?_)
              refine r_ex hX hP 1 (pc' := 119) (st' := [(2, z9), (0, pf176)]) (lo' := [(0, (2, this)), (1, (0, trade)), (2, (0, event)), (3, (0, paper)), (4, (0, l4_j35)), (5, (2, z8)), (6, (2, z9))]) rfl ?_
              refine r_getI hX hP rfl fl_X11_292_137 z9s (fun pf177 pf177e pf177a pf177b => ?_)
              refine r_ic_ne hX hP rfl (tgt := 136) rfl (by first | decide | omega) (by first | decide | omega) (by first | decide | omega) (by first | decide | omega) (fun c178 => ?_) (fun c178 => ?_)
              · skip
                refine r_ex hX hP 3 (pc' := 143) (st' := []) (lo' := [(0, (2, this)), (1, (0, trade)), (2, (0, event)), (3, (0, paper)), (4, (0, l4_j35)), (5, (2, z8)), (6, (2, z9)), (7, (0, 1))]) rfl ?_
                exact j143 1 (by first | decide | omega) (by first | decide | omega)
              · skip
                refine r_ex hX hP 1 (pc' := 127) (st' := [(2, z9)]) (lo' := [(0, (2, this)), (1, (0, trade)), (2, (0, event)), (3, (0, paper)), (4, (0, l4_j35)), (5, (2, z8)), (6, (2, z9))]) rfl ?_
                refine r_getR hX hP rfl fl_X11_200_137 z9s (fun tf179 tf179e tf179s => ?_)
                refine r_getI hX hP rfl fl_X11_204_136 tf179s (fun cf180 cf180e cf180a cf180b => ?_)
                refine r_if_le hX hP rfl (tgt := 140) rfl (by first | decide | omega) (by first | decide | omega) (fun c181 => ?_) (fun c181 => ?_)
                · skip
                  refine r_ex hX hP 2 (pc' := 143) (st' := []) (lo' := [(0, (2, this)), (1, (0, trade)), (2, (0, event)), (3, (0, paper)), (4, (0, l4_j35)), (5, (2, z8)), (6, (2, z9)), (7, (0, 0))]) rfl ?_
                  exact j143 0 (by first | decide | omega) (by first | decide | omega)
                · skip
                  refine r_ex hX hP 3 (pc' := 143) (st' := []) (lo' := [(0, (2, this)), (1, (0, trade)), (2, (0, event)), (3, (0, paper)), (4, (0, l4_j35)), (5, (2, z8)), (6, (2, z9)), (7, (0, 1))]) rfl ?_
                  exact j143 1 (by first | decide | omega) (by first | decide | omega)
        · skip
          exfalso; omega
    · skip
      refine r_ex hX hP 2 (pc' := 46) (st' := [(0, 1), (2, this)]) (lo' := [(0, (2, this)), (1, (0, trade)), (2, (0, event)), (3, (0, paper)), (4, (0, l4_j35))]) rfl ?_
      refine r_callV gd hX hP rfl cv_X11_90_128 hS (d' := 0) (mc' := 0) (ms' := 0) (as' := [(0, 1)]) (st := []) (by first | decide | omega) (by first | decide | omega) (by first | decide | omega) rfl rfl (Nat.le_of_ble_eq_true rfl) (c_X11_refused E S G this 1 hS (by first | decide | omega) (by first | decide | omega)) ?_
      rintro _ _ _ ⟨rfl, ⟨G182, rfl⟩, z183, rfl, (⟨rfl, f184⟩ | ⟨rfl, f185⟩)⟩
      · skip
        refine r_if_eq hX hP rfl (tgt := 56) rfl (by first | decide | omega) (by first | decide | omega) (fun c186 => ?_) (fun c186 => ?_)
        · skip
          exfalso; omega
        · skip
          refine r_ldc2 hX hP rfl (v := (-1)) (tbg sg5 231 rfl rfl) ?_
          have g187 : Gr [95, 97, 99, 100, 101, 102, 103, 104, 133, 147] [(93, -1), (95, -1), (96, -1), (97, -1), (99, -1), (115, -1), (116, -1), (118, -1), (119, -1), (125, -1), (126, -1), (127, -1), (128, 0), (128, 19), (129, 1), (129, 2), (129, 15), (129, 16), (147, 0), (147, 1), (147, 2), (147, 3), (147, 4), (147, 5), (147, 6), (147, 7), (147, 8), (147, 9), (147, 10), (147, 11), (147, 12), (147, 13), (147, 14), (147, 15), (147, 16)] S G S (hw [(128, 0)] G G182) := (gr_hw (gr_refl [95, 97, 99, 100, 101, 102, 103, 104, 133, 147] [(93, -1), (95, -1), (96, -1), (97, -1), (99, -1), (115, -1), (116, -1), (118, -1), (119, -1), (125, -1), (126, -1), (127, -1), (128, 0), (128, 19), (129, 1), (129, 2), (129, 15), (129, 16), (147, 0), (147, 1), (147, 2), (147, 3), (147, 4), (147, 5), (147, 6), (147, 7), (147, 8), (147, 9), (147, 10), (147, 11), (147, 12), (147, 13), (147, 14), (147, 15), (147, 16)] S G) rfl)
          have ci188 : CI E S (hw [(128, 0)] G G182) := (ci_hw ci rfl)
          exact r_retL hX hP rfl rfl (by first | decide | omega) (by first | decide | omega) ⟨g187, (-1), rfl, (by first | decide | omega), (by first | decide | omega), ci188⟩
      · skip
        exfalso; omega
  refine r_ex hX hP 2 (pc' := 2) (st' := [(0, trade), (2, this)]) (lo' := [(0, (2, this)), (1, (0, trade)), (2, (0, event)), (3, (0, paper))]) rfl ?_
  refine r_callV gd hX hP rfl cv_X11_227_128 hS (d' := 1) (mc' := 0) (ms' := 0) (as' := [(0, trade)]) (st := []) (by first | decide | omega) (by first | decide | omega) (by first | decide | omega) rfl rfl (Nat.le_of_ble_eq_true rfl) (c_X11_hasTrade E S G this trade hS trl trl_e trl_s trn trn_e (by first | decide | omega) (by first | decide | omega)) ?_
  rintro _ _ _ ⟨rfl, rfl, z189, rfl, (⟨rfl, f190, f191⟩ | rfl)⟩
  · skip
    refine r_if_eq hX hP rfl (tgt := 28) rfl (by first | decide | omega) (by first | decide | omega) (fun c192 => ?_) (fun c192 => ?_)
    · skip
      exfalso; omega
    · skip
      refine r_ex hX hP 2 (pc' := 10) (st' := [(0, event), (2, this)]) (lo' := [(0, (2, this)), (1, (0, trade)), (2, (0, event)), (3, (0, paper))]) rfl ?_
      refine r_callV gd hX hP rfl cv_X11_193_128 hS (d' := 1) (mc' := 0) (ms' := 0) (as' := [(0, event)]) (st := []) (by first | decide | omega) (by first | decide | omega) (by first | decide | omega) rfl rfl (Nat.le_of_ble_eq_true rfl) (c_X11_hasEvent E S G this event hS evl evl_e evl_s evn evn_e (by first | decide | omega) (by first | decide | omega)) ?_
      rintro _ _ _ ⟨rfl, rfl, z193, rfl, (⟨rfl, f194, f195⟩ | rfl)⟩
      · skip
        refine r_if_eq hX hP rfl (tgt := 28) rfl (by first | decide | omega) (by first | decide | omega) (fun c196 => ?_) (fun c196 => ?_)
        · skip
          exfalso; omega
        · skip
          refine r_ex hX hP 2 (pc' := 18) (st' := [(0, (-1)), (0, paper)]) (lo' := [(0, (2, this)), (1, (0, trade)), (2, (0, event)), (3, (0, paper))]) rfl ?_
          refine r_ic_eq hX hP rfl (tgt := 32) rfl (by first | decide | omega) (by first | decide | omega) (by first | decide | omega) (by first | decide | omega) (fun c197 => ?_) (fun c197 => ?_)
          · skip
            refine r_ex hX hP 2 (pc' := 35) (st' := []) (lo' := [(0, (2, this)), (1, (0, trade)), (2, (0, event)), (3, (0, paper)), (4, (0, 0))]) rfl ?_
            exact j35 0 (by first | decide | omega) (by first | decide | omega) (by first | decide | omega)
          · skip
            refine r_ex hX hP 1 (pc' := 22) (st' := [(0, paper)]) (lo' := [(0, (2, this)), (1, (0, trade)), (2, (0, event)), (3, (0, paper))]) rfl ?_
            refine r_callS gd hX hP rfl cs_X11_120 (d' := 1) (mc' := 0) (ms' := 0) (as' := [(0, paper)]) (st := []) (by first | decide | omega) (by first | decide | omega) (by first | decide | omega) rfl rfl (Nat.le_of_ble_eq_true rfl) (c_X11_isPaper E S G paper (by first | decide | omega) (by first | decide | omega)) ?_
            rintro _ _ _ ⟨rfl, rfl, z198, rfl, (⟨rfl, f199, f200⟩ | rfl)⟩
            · skip
              refine r_if_ne hX hP rfl (tgt := 32) rfl (by first | decide | omega) (by first | decide | omega) (fun c201 => ?_) (fun c201 => ?_)
              · skip
                refine r_ex hX hP 2 (pc' := 35) (st' := []) (lo' := [(0, (2, this)), (1, (0, trade)), (2, (0, event)), (3, (0, paper)), (4, (0, 0))]) rfl ?_
                exact j35 0 (by first | decide | omega) (by first | decide | omega) (by first | decide | omega)
              · skip
                exfalso; omega
            · skip
              refine r_if_ne hX hP rfl (tgt := 32) rfl (by first | decide | omega) (by first | decide | omega) (fun c202 => ?_) (fun c202 => ?_)
              · skip
                exfalso; omega
              · skip
                refine r_ex hX hP 3 (pc' := 35) (st' := []) (lo' := [(0, (2, this)), (1, (0, trade)), (2, (0, event)), (3, (0, paper)), (4, (0, 1))]) rfl ?_
                exact j35 1 (by first | decide | omega) (by first | decide | omega) (by first | decide | omega)
      · skip
        refine r_if_eq hX hP rfl (tgt := 28) rfl (by first | decide | omega) (by first | decide | omega) (fun c203 => ?_) (fun c203 => ?_)
        · skip
          refine r_ex hX hP 3 (pc' := 35) (st' := []) (lo' := [(0, (2, this)), (1, (0, trade)), (2, (0, event)), (3, (0, paper)), (4, (0, 1))]) rfl ?_
          exact j35 1 (by first | decide | omega) (by first | decide | omega) (by first | decide | omega)
        · skip
          exfalso; omega
  · skip
    refine r_if_eq hX hP rfl (tgt := 28) rfl (by first | decide | omega) (by first | decide | omega) (fun c204 => ?_) (fun c204 => ?_)
    · skip
      refine r_ex hX hP 3 (pc' := 35) (st' := []) (lo' := [(0, (2, this)), (1, (0, trade)), (2, (0, event)), (3, (0, paper)), (4, (0, 1))]) rfl ?_
      exact j35 1 (by first | decide | omega) (by first | decide | omega) (by first | decide | omega)
    · skip
      exfalso; omega
