set_option maxRecDepth 100000 in
set_option maxHeartbeats 4000000 in
theorem c_X11_issueT (E : En) (S : Sg) (G : Gh) (this : Int) (account : Int) (paper : Int) (day : Int) (shares : Int) (worth : Int) (known : Int) (hS : S this = 128) (acc : Int) (acc_e : acc = G 128 this 5) (acc_s : S acc = 130) (cnt : Int) (cnt_e : cnt = G 130 acc 0) (is : Int) (is_e : is = G 128 this 6) (is_s : S is = 154) (isn : Int) (isn_e : isn = G 154 is 2) (la : Int) (la_e : la = G 128 this 1) (account_a : (-2147483648) ≤ account) (account_b : account ≤ 2147483647) (paper_a : (-2147483648) ≤ paper) (paper_b : paper ≤ 2147483647) (day_a : (-2147483648) ≤ day) (day_b : day ≤ 2147483647) (shares_a : (-2147483648) ≤ shares) (shares_b : shares ≤ 2147483647) (worth_a : (-2147483648) ≤ worth) (worth_b : worth ≤ 2147483647) (known_a : (-2147483648) ≤ known) (known_b : known ≤ 2147483647) (ci : CI E S G) : Calls E mX11_issue [(2, this), (0, account), (0, paper), (0, day), (0, shares), (0, worth), (0, known)] S G 15 2 82 (fun r S' G' => Gr [139, 152, 160, 161, 162, 163, 164, 165, 166, 167, 168, 169, 170, 171, 172, 173, 174, 175, 176, 177, 178, 179, 180, 181, 182, 183, 184, 185] [(128, 0), (128, 1), (129, 1), (152, 0), (152, 1), (152, 2), (152, 3), (152, 4), (152, 5), (152, 6), (152, 8), (154, 0), (154, 1), (154, 2), (160, -1), (161, -1), (162, -1), (163, -1), (164, -1)] S G S' G' ∧ ∃ z : Int, r = some (0, z) ∧ ∃ s2 : Int, s2 = G' 154 is 2 ∧ ∃ l2 : Int, l2 = G' 128 this 1 ∧ 0 ≤ z ∧ z ≤ 1 ∧ ((0 ≤ account ∧ account < cnt ∧ 0 ≤ paper ∧ paper ≤ 19 ∧ 0 ≤ day ∧ day ≤ 40000 ∧ 1 ≤ shares ∧ shares ≤ 1000000 ∧ 0 ≤ worth ∧ worth ≤ 100000000 ∧ 0 ≤ known ∧ known ≤ 40000 ∧ isn < 40 ∧ la ≤ known ∧ z = 1 ∧ s2 = isn + 1 ∧ l2 = known) ∨ (z = 0 ∧ s2 = isn ∧ l2 = la ∧ ¬ (0 ≤ account ∧ account < cnt ∧ 0 ≤ paper ∧ paper ≤ 19 ∧ 0 ≤ day ∧ day ≤ 40000 ∧ 1 ≤ shares ∧ shares ≤ 1000000 ∧ 0 ≤ worth ∧ worth ≤ 100000000 ∧ 0 ≤ known ∧ known ≤ 40000 ∧ isn < 40 ∧ la ≤ known))) ∧ CI E S' G') := by
  refine calls_by [(0, (2, this)), (1, (0, account)), (2, (0, paper)), (3, (0, day)), (4, (0, shares)), (5, (0, worth)), (6, (0, known))] rfl rfl (Nat.le_of_ble_eq_true rfl) (fun X hX => ?_)
  have hP := hPX11_issue
  refine r_peekI hX (tl_130 0 rfl (by decide)) acc_s (fun cnt_o cnt_oe cnt_oa cnt_ob => ?_)
  obtain rfl : cnt = cnt_o := cnt_e.trans cnt_oe.symm
  refine r_peekI hX (tl_154 2 rfl (by decide)) is_s (fun isn_o isn_oe isn_oa isn_ob => ?_)
  obtain rfl : isn = isn_o := isn_e.trans isn_oe.symm
  refine r_peekI hX (tl_128 1 rfl (by decide)) hS (fun la_o la_oe la_oa la_ob => ?_)
  obtain rfl : la = la_o := la_e.trans la_oe.symm
  have j22 : ∀ (l7_j22 : Int), 0 ≤ l7_j22 → l7_j22 ≤ 1 → ((l7_j22 = 1 ∧ ¬ (0 ≤ account ∧ account < cnt ∧ 0 ≤ paper ∧ paper ≤ 19)) ∨ (l7_j22 = 0 ∧ 0 ≤ account ∧ account < cnt ∧ 0 ≤ paper ∧ paper ≤ 19)) → X 0 0 22 [] [(0, (2, this)), (1, (0, account)), (2, (0, paper)), (3, (0, day)), (4, (0, shares)), (5, (0, worth)), (6, (0, known)), (7, (0, l7_j22))] S G := by
    intro l7_j22 yj22_0 yj22_1 yj22_2
    have j66 : ∀ (l8_j66 : Int), 0 ≤ l8_j66 → l8_j66 ≤ 1 → ((l8_j66 = 1 ∧ ¬ (0 ≤ day ∧ day ≤ 40000 ∧ 1 ≤ shares ∧ shares ≤ 1000000 ∧ 0 ≤ worth ∧ worth ≤ 100000000 ∧ 0 ≤ known ∧ known ≤ 40000)) ∨ (l8_j66 = 0 ∧ 0 ≤ day ∧ day ≤ 40000 ∧ 1 ≤ shares ∧ shares ≤ 1000000 ∧ 0 ≤ worth ∧ worth ≤ 100000000 ∧ 0 ≤ known ∧ known ≤ 40000)) → X 0 0 66 [] [(0, (2, this)), (1, (0, account)), (2, (0, paper)), (3, (0, day)), (4, (0, shares)), (5, (0, worth)), (6, (0, known)), (7, (0, l7_j22)), (8, (0, l8_j66))] S G := by
      intro l8_j66 yj66_0 yj66_1 yj66_2
      refine r_ex hX hP 4 (pc' := 72) (st' := [(2, this), (0, l8_j66), (0, l7_j22), (2, this)]) (lo' := [(0, (2, this)), (1, (0, account)), (2, (0, paper)), (3, (0, day)), (4, (0, shares)), (5, (0, worth)), (6, (0, known)), (7, (0, l7_j22)), (8, (0, l8_j66))]) rfl ?_
      refine r_getKR hX hP rfl fl_X11_29_128 hS (x := is) is_e ?_
      refine r_callV gd hX hP rfl cv_X11_125_154 is_s (d' := 0) (mc' := 0) (ms' := 0) (as' := []) (st := [(0, l8_j66), (0, l7_j22), (2, this)]) (by first | decide | omega) (by first | decide | omega) (by first | decide | omega) rfl rfl (Nat.le_of_ble_eq_true rfl) (c_size_Lis E S G is  is_s isn isn_e) ?_
      rintro _ _ _ ⟨rfl, rfl, z1, rfl, z1a, z1b, f2⟩
      refine r_ex hX hP 1 (pc' := 80) (st' := [(0, 40), (0, z1), (0, l8_j66), (0, l7_j22), (2, this)]) (lo' := [(0, (2, this)), (1, (0, account)), (2, (0, paper)), (3, (0, day)), (4, (0, shares)), (5, (0, worth)), (6, (0, known)), (7, (0, l7_j22)), (8, (0, l8_j66))]) rfl ?_
      refine r_ic_lt hX hP rfl (tgt := 87) rfl (by first | decide | omega) (by first | decide | omega) (by first | decide | omega) (by first | decide | omega) (fun c3 => ?_) (fun c3 => ?_)
      · skip
        refine r_ex hX hP 3 (pc' := 91) (st' := [(2, this), (0, known), (0, 0), (0, l8_j66), (0, l7_j22), (2, this)]) (lo' := [(0, (2, this)), (1, (0, account)), (2, (0, paper)), (3, (0, day)), (4, (0, shares)), (5, (0, worth)), (6, (0, known)), (7, (0, l7_j22)), (8, (0, l8_j66))]) rfl ?_
        refine r_getKI hX hP rfl fl_X11_129_128 hS (x := la) la_e ?_
        refine r_ic_ge hX hP rfl (tgt := 101) rfl (by first | decide | omega) (by first | decide | omega) (by first | decide | omega) (by first | decide | omega) (fun c4 => ?_) (fun c4 => ?_)
        · skip
          refine r_ex hX hP 1 (pc' := 102) (st' := [(0, 0), (0, 0), (0, l8_j66), (0, l7_j22), (2, this)]) (lo' := [(0, (2, this)), (1, (0, account)), (2, (0, paper)), (3, (0, day)), (4, (0, shares)), (5, (0, worth)), (6, (0, known)), (7, (0, l7_j22)), (8, (0, l8_j66))]) rfl ?_
          refine r_callS gd hX hP rfl cs_X11_112 (d' := 0) (mc' := 0) (ms' := 0) (as' := [(0, l7_j22), (0, l8_j66), (0, 0), (0, 0)]) (st := [(2, this)]) (by first | decide | omega) (by first | decide | omega) (by first | decide | omega) rfl rfl (Nat.le_of_ble_eq_true rfl) (c_X11_first E S G l7_j22 l8_j66 0 0 (by first | decide | omega) (by first | decide | omega) (by first | decide | omega) (by first | decide | omega) (by first | decide | omega) (by first | decide | omega) (by first | decide | omega) (by first | decide | omega)) ?_
          rintro _ _ _ ⟨rfl, rfl, z5, rfl, (⟨rfl, f6⟩ | ⟨rfl, f7, f8⟩ | ⟨rfl, f9, f10, f11⟩ | ⟨rfl, f12, f13, f14, f15⟩ | ⟨rfl, f16, f17, f18, f19⟩)⟩
          · skip
            refine r_callV gd hX hP rfl cv_X11_90_128 hS (d' := 0) (mc' := 0) (ms' := 0) (as' := [(0, 1)]) (st := []) (by first | decide | omega) (by first | decide | omega) (by first | decide | omega) rfl rfl (Nat.le_of_ble_eq_true rfl) (c_X11_refused E S G this 1 hS (by first | decide | omega) (by first | decide | omega)) ?_
            rintro _ _ _ ⟨rfl, ⟨G20, rfl⟩, z21, rfl, (⟨rfl, f22⟩ | ⟨rfl, f23⟩)⟩
            · skip
              refine r_if_eq hX hP rfl (tgt := 113) rfl (by first | decide | omega) (by first | decide | omega) (fun c24 => ?_) (fun c24 => ?_)
              · skip
                exfalso; omega
              · skip
                refine r_ex hX hP 1 (pc' := 112) (st' := [(0, 0)]) (lo' := [(0, (2, this)), (1, (0, account)), (2, (0, paper)), (3, (0, day)), (4, (0, shares)), (5, (0, worth)), (6, (0, known)), (7, (0, l7_j22)), (8, (0, l8_j66))]) rfl ?_
                have g25 : Gr [139, 152, 160, 161, 162, 163, 164, 165, 166, 167, 168, 169, 170, 171, 172, 173, 174, 175, 176, 177, 178, 179, 180, 181, 182, 183, 184, 185] [(128, 0), (128, 1), (129, 1), (152, 0), (152, 1), (152, 2), (152, 3), (152, 4), (152, 5), (152, 6), (152, 8), (154, 0), (154, 1), (154, 2), (160, -1), (161, -1), (162, -1), (163, -1), (164, -1)] S G S (hw [(128, 0)] G G20) := (gr_hw (gr_refl [139, 152, 160, 161, 162, 163, 164, 165, 166, 167, 168, 169, 170, 171, 172, 173, 174, 175, 176, 177, 178, 179, 180, 181, 182, 183, 184, 185] [(128, 0), (128, 1), (129, 1), (152, 0), (152, 1), (152, 2), (152, 3), (152, 4), (152, 5), (152, 6), (152, 8), (154, 0), (154, 1), (154, 2), (160, -1), (161, -1), (162, -1), (163, -1), (164, -1)] S G) rfl)
                have ci26 : CI E S (hw [(128, 0)] G G20) := (ci_hw ci rfl)
                exact r_retZ hX hP rfl rfl (by first | decide | omega) (by first | decide | omega) (by first | decide | omega) (by first | decide | omega) ⟨g25, 0, rfl, isn, isn_e, la, la_e, (by first | decide | omega), (by first | decide | omega), (by first | decide | omega), ci26⟩
            · skip
              exfalso; omega
          · skip
            refine r_callV gd hX hP rfl cv_X11_90_128 hS (d' := 0) (mc' := 0) (ms' := 0) (as' := [(0, 2)]) (st := []) (by first | decide | omega) (by first | decide | omega) (by first | decide | omega) rfl rfl (Nat.le_of_ble_eq_true rfl) (c_X11_refused E S G this 2 hS (by first | decide | omega) (by first | decide | omega)) ?_
            rintro _ _ _ ⟨rfl, ⟨G27, rfl⟩, z28, rfl, (⟨rfl, f29⟩ | ⟨rfl, f30⟩)⟩
            · skip
              refine r_if_eq hX hP rfl (tgt := 113) rfl (by first | decide | omega) (by first | decide | omega) (fun c31 => ?_) (fun c31 => ?_)
              · skip
                exfalso; omega
              · skip
                refine r_ex hX hP 1 (pc' := 112) (st' := [(0, 0)]) (lo' := [(0, (2, this)), (1, (0, account)), (2, (0, paper)), (3, (0, day)), (4, (0, shares)), (5, (0, worth)), (6, (0, known)), (7, (0, l7_j22)), (8, (0, l8_j66))]) rfl ?_
                have g32 : Gr [139, 152, 160, 161, 162, 163, 164, 165, 166, 167, 168, 169, 170, 171, 172, 173, 174, 175, 176, 177, 178, 179, 180, 181, 182, 183, 184, 185] [(128, 0), (128, 1), (129, 1), (152, 0), (152, 1), (152, 2), (152, 3), (152, 4), (152, 5), (152, 6), (152, 8), (154, 0), (154, 1), (154, 2), (160, -1), (161, -1), (162, -1), (163, -1), (164, -1)] S G S (hw [(128, 0)] G G27) := (gr_hw (gr_refl [139, 152, 160, 161, 162, 163, 164, 165, 166, 167, 168, 169, 170, 171, 172, 173, 174, 175, 176, 177, 178, 179, 180, 181, 182, 183, 184, 185] [(128, 0), (128, 1), (129, 1), (152, 0), (152, 1), (152, 2), (152, 3), (152, 4), (152, 5), (152, 6), (152, 8), (154, 0), (154, 1), (154, 2), (160, -1), (161, -1), (162, -1), (163, -1), (164, -1)] S G) rfl)
                have ci33 : CI E S (hw [(128, 0)] G G27) := (ci_hw ci rfl)
                exact r_retZ hX hP rfl rfl (by first | decide | omega) (by first | decide | omega) (by first | decide | omega) (by first | decide | omega) ⟨g32, 0, rfl, isn, isn_e, la, la_e, (by first | decide | omega), (by first | decide | omega), (by first | decide | omega), ci33⟩
            · skip
              exfalso; omega
          · skip
            exfalso; omega
          · skip
            exfalso; omega
          · skip
            refine r_callV gd hX hP rfl cv_X11_90_128 hS (d' := 0) (mc' := 0) (ms' := 0) (as' := [(0, 0)]) (st := []) (by first | decide | omega) (by first | decide | omega) (by first | decide | omega) rfl rfl (Nat.le_of_ble_eq_true rfl) (c_X11_refused E S G this 0 hS (by first | decide | omega) (by first | decide | omega)) ?_
            rintro _ _ _ ⟨rfl, ⟨G34, rfl⟩, z35, rfl, (⟨rfl, f36⟩ | ⟨rfl, f37⟩)⟩
            · skip
              exfalso; omega
            · skip
              refine r_if_eq hX hP rfl (tgt := 113) rfl (by first | decide | omega) (by first | decide | omega) (fun c38 => ?_) (fun c38 => ?_)
              · skip
                have g39 : Gr [139, 152, 160, 161, 162, 163, 164, 165, 166, 167, 168, 169, 170, 171, 172, 173, 174, 175, 176, 177, 178, 179, 180, 181, 182, 183, 184, 185] [(128, 0), (128, 1), (129, 1), (152, 0), (152, 1), (152, 2), (152, 3), (152, 4), (152, 5), (152, 6), (152, 8), (154, 0), (154, 1), (154, 2), (160, -1), (161, -1), (162, -1), (163, -1), (164, -1)] S G S (hw [(128, 0)] G G34) := (gr_hw (gr_refl [139, 152, 160, 161, 162, 163, 164, 165, 166, 167, 168, 169, 170, 171, 172, 173, 174, 175, 176, 177, 178, 179, 180, 181, 182, 183, 184, 185] [(128, 0), (128, 1), (129, 1), (152, 0), (152, 1), (152, 2), (152, 3), (152, 4), (152, 5), (152, 6), (152, 8), (154, 0), (154, 1), (154, 2), (160, -1), (161, -1), (162, -1), (163, -1), (164, -1)] S G) rfl)
                have ci40 : CI E S (hw [(128, 0)] G G34) := (ci_hw ci rfl)
                refine r_tk hX (fun tk41 => ?_)
                refine r_newA hX hP rfl (L := 152) (N := 9) nw_X11_132_152 (by first | decide | omega) (by first | decide | omega) (fun n42 S43 G44 n42z n42n n42l g45 n42v => ?_)
                have z46 : S n42 = 0 := gr_zero g39 n42z
                have s47 : S43 this = 128 := gr_lab g45 hS (by decide)
                have s48 : S43 acc = 130 := gr_lab g45 acc_s (by decide)
                have s49 : S43 is = 154 := gr_lab g45 is_s (by decide)
                have e50 : acc = G44 128 this 5 := gr_val g45 acc_e hS (by decide) rfl
                have e51 : cnt = G44 130 acc 0 := gr_val g45 cnt_e acc_s (by decide) rfl
                have e52 : is = G44 128 this 6 := gr_val g45 is_e hS (by decide) rfl
                have e53 : isn = G44 154 is 2 := gr_val g45 isn_e is_s (by decide) rfl
                have e54 : la = G44 128 this 1 := gr_val g45 la_e hS (by decide) rfl
                have g55 : Gr [139, 152, 160, 161, 162, 163, 164, 165, 166, 167, 168, 169, 170, 171, 172, 173, 174, 175, 176, 177, 178, 179, 180, 181, 182, 183, 184, 185] [(128, 0), (128, 1), (129, 1), (152, 0), (152, 1), (152, 2), (152, 3), (152, 4), (152, 5), (152, 6), (152, 8), (154, 0), (154, 1), (154, 2), (160, -1), (161, -1), (162, -1), (163, -1), (164, -1)] S G S43 G44 := gr_call g39 g45 rfl rfl
                have ci56 : CI E S43 G44 := ci_gr ci40 tk41 g45 rfl rfl
                refine r_ex hX hP 5 (pc' := 123) (st' := [(0, known), (0, shares), (0, day), (0, paper), (2, n42), (2, n42)]) (lo' := [(0, (2, this)), (1, (0, account)), (2, (0, paper)), (3, (0, day)), (4, (0, shares)), (5, (0, worth)), (6, (0, known)), (7, (0, l7_j22)), (8, (0, l8_j66))]) rfl ?_
                refine r_callI gd hX hP rfl ci_X11_134 n42n (d' := 4) (mc' := 0) (ms' := 0) (as' := [(0, paper), (0, day), (0, shares), (0, known)]) (st := [(2, n42)]) (by first | decide | omega) (by first | decide | omega) (by first | decide | omega) rfl rfl (Nat.le_of_ble_eq_true rfl) (c_X1_initT E S43 G44 n42 paper day shares known n42l (by first | decide | omega) (by first | decide | omega) (by first | decide | omega) (by first | decide | omega) (by first | decide | omega) (by first | decide | omega) (by first | decide | omega) (by first | decide | omega)) ?_
                rintro _ _ _ ⟨rfl, ⟨G57, rfl⟩, rfl, knh58, knh58e, sth59, sth59e, pah60, pah60e, dah61, dah61e, nuh62, nuh62e, f63, f64, f65, f66, f67⟩
                refine r_peekI hX (tl_152 0 rfl (by decide)) n42l (fun o68 o68e o68a o68b => ?_)
                obtain rfl : knh58 = o68 := knh58e.trans o68e.symm
                refine r_peekI hX (tl_152 1 rfl (by decide)) n42l (fun o69 o69e o69a o69b => ?_)
                obtain rfl : sth59 = o69 := sth59e.trans o69e.symm
                refine r_peekI hX (tl_152 2 rfl (by decide)) n42l (fun o70 o70e o70a o70b => ?_)
                obtain rfl : pah60 = o70 := pah60e.trans o70e.symm
                refine r_peekI hX (tl_152 3 rfl (by decide)) n42l (fun o71 o71e o71a o71b => ?_)
                obtain rfl : dah61 = o71 := dah61e.trans o71e.symm
                refine r_peekI hX (tl_152 4 rfl (by decide)) n42l (fun o72 o72e o72a o72b => ?_)
                obtain rfl : nuh62 = o72 := nuh62e.trans o72e.symm
                have e73 : known = (hw [(152, 0), (152, 1), (152, 2), (152, 3), (152, 4), (152, 5), (152, 6)] G44 G57) 152 n42 0 := by rw [← f63]; exact knh58e
                have e74 : ((-1) : Int) = (hw [(152, 0), (152, 1), (152, 2), (152, 3), (152, 4), (152, 5), (152, 6)] G44 G57) 152 n42 1 := by rw [← f64]; exact sth59e
                have e75 : paper = (hw [(152, 0), (152, 1), (152, 2), (152, 3), (152, 4), (152, 5), (152, 6)] G44 G57) 152 n42 2 := by rw [← f65]; exact pah60e
                have e76 : day = (hw [(152, 0), (152, 1), (152, 2), (152, 3), (152, 4), (152, 5), (152, 6)] G44 G57) 152 n42 3 := by rw [← f66]; exact dah61e
                have e77 : shares = (hw [(152, 0), (152, 1), (152, 2), (152, 3), (152, 4), (152, 5), (152, 6)] G44 G57) 152 n42 4 := by rw [← f67]; exact nuh62e
                refine r_ex hX hP 3 (pc' := 131) (st' := [(0, account), (2, n42)]) (lo' := [(0, (2, this)), (1, (0, account)), (2, (0, paper)), (3, (0, day)), (4, (0, shares)), (5, (0, worth)), (6, (0, known)), (7, (0, l7_j22)), (8, (0, l8_j66)), (9, (2, n42))]) rfl ?_
                refine r_putIK hX hP rfl fp_X11_137_152 n42l (by first | decide | omega) (by first | decide | omega) (fun h78 => ?_)
                refine r_ex hX hP 2 (pc' := 138) (st' := [(0, worth), (2, n42)]) (lo' := [(0, (2, this)), (1, (0, account)), (2, (0, paper)), (3, (0, day)), (4, (0, shares)), (5, (0, worth)), (6, (0, known)), (7, (0, l7_j22)), (8, (0, l8_j66)), (9, (2, n42))]) rfl ?_
                refine r_putIK hX hP rfl fp_X11_140_152 n42l (by first | decide | omega) (by first | decide | omega) (fun h79 => ?_)
                have g80 : Gr [139, 152, 160, 161, 162, 163, 164, 165, 166, 167, 168, 169, 170, 171, 172, 173, 174, 175, 176, 177, 178, 179, 180, 181, 182, 183, 184, 185] [(128, 0), (128, 1), (129, 1), (152, 0), (152, 1), (152, 2), (152, 3), (152, 4), (152, 5), (152, 6), (152, 8), (154, 0), (154, 1), (154, 2), (160, -1), (161, -1), (162, -1), (163, -1), (164, -1)] S G S43 (up (up (hw [(152, 0), (152, 1), (152, 2), (152, 3), (152, 4), (152, 5), (152, 6)] G44 G57) 152 n42 6 account) 152 n42 8 worth) := (gr_up (gr_up (gr_hw g55 rfl) rfl) rfl)
                refine r_finA hX (L := 152) (ci := 2) (fs := fs_152) rfl n42l (by decide) (fun hr81 => ?_)
                have hf82 : Fnl E fs_139 152 S43 (up (up (hw [(152, 0), (152, 1), (152, 2), (152, 3), (152, 4), (152, 5), (152, 6)] G44 G57) 152 n42 6 account) 152 n42 8 worth) n42 := by
                  intro j hj
                  rcases (by have : j < 9 := hj; omega : j = 0 ∨ j = 1 ∨ j = 2 ∨ j = 3 ∨ j = 4 ∨ j = 5 ∨ j = 6 ∨ j = 7 ∨ j = 8) with rfl | rfl | rfl | rfl | rfl | rfl | rfl | rfl | rfl
                  · exact hr81 0 (by decide)
                  · exact hr81 1 (by decide)
                  · exact hr81 2 (by decide)
                  · exact hr81 3 (by decide)
                  · exact hr81 4 (by decide)
                  · exact hr81 5 (by decide)
                  · have e : account = (up (up (hw [(152, 0), (152, 1), (152, 2), (152, 3), (152, 4), (152, 5), (152, 6)] G44 G57) 152 n42 6 account) 152 n42 8 worth) 152 n42 6 := h78; show (0 : Int) ≤ (up (up (hw [(152, 0), (152, 1), (152, 2), (152, 3), (152, 4), (152, 5), (152, 6)] G44 G57) 152 n42 6 account) 152 n42 8 worth) 152 n42 6 ∧ (up (up (hw [(152, 0), (152, 1), (152, 2), (152, 3), (152, 4), (152, 5), (152, 6)] G44 G57) 152 n42 6 account) 152 n42 8 worth) 152 n42 6 ≤ 19; omega
                  · exact hr81 7 (by decide)
                  · have e : worth = (up (up (hw [(152, 0), (152, 1), (152, 2), (152, 3), (152, 4), (152, 5), (152, 6)] G44 G57) 152 n42 6 account) 152 n42 8 worth) 152 n42 8 := h79; show ((-2147483648) : Int) ≤ (up (up (hw [(152, 0), (152, 1), (152, 2), (152, 3), (152, 4), (152, 5), (152, 6)] G44 G57) 152 n42 6 account) 152 n42 8 worth) 152 n42 8 ∧ (up (up (hw [(152, 0), (152, 1), (152, 2), (152, 3), (152, 4), (152, 5), (152, 6)] G44 G57) 152 n42 6 account) 152 n42 8 worth) 152 n42 8 ≤ 2147483647; omega
                have ci83 : CI E S43 (up (up (hw [(152, 0), (152, 1), (152, 2), (152, 3), (152, 4), (152, 5), (152, 6)] G44 G57) 152 n42 6 account) 152 n42 8 worth) := (ci_up (ci_up (ci_hw ci56 rfl) rfl) rfl)
                refine r_tk hX (fun tk84 => ?_)
                refine r_relabF hX (L := 152) (L' := 139) (ci := 2) (fs := fs_152) (fs' := fs_139) rfl rfl rfl (by decide) (by decide) nf_152 (by decide) n42l hf82 (fun S86 G87 r85 => ?_)
                have s89 : S86 this = 128 := r85.lab n42l s47 (by decide)
                have s90 : S86 acc = 130 := r85.lab n42l s48 (by decide)
                have s91 : S86 is = 154 := r85.lab n42l s49 (by decide)
                have e92 : acc = G87 128 this 5 := rs_val r85 n42l e50 s47 (by decide)
                have e93 : cnt = G87 130 acc 0 := rs_val r85 n42l e51 s48 (by decide)
                have e94 : is = G87 128 this 6 := rs_val r85 n42l e52 s47 (by decide)
                have e95 : isn = G87 154 is 2 := rs_val r85 n42l e53 s49 (by decide)
                have e96 : la = G87 128 this 1 := rs_val r85 n42l e54 s47 (by decide)
                have e97 : known = G87 139 n42 0 := e73.trans (r85.2.2.1 0).symm
                have e98 : (-1) = G87 139 n42 1 := e74.trans (r85.2.2.1 1).symm
                have e99 : paper = G87 139 n42 2 := e75.trans (r85.2.2.1 2).symm
                have e100 : day = G87 139 n42 3 := e76.trans (r85.2.2.1 3).symm
                have e101 : shares = G87 139 n42 4 := e77.trans (r85.2.2.1 4).symm
                have e102 : account = G87 139 n42 6 := h78.trans (r85.2.2.1 6).symm
                have e103 : worth = G87 139 n42 8 := h79.trans (r85.2.2.1 8).symm
                have g104 : Gr [139, 152, 160, 161, 162, 163, 164, 165, 166, 167, 168, 169, 170, 171, 172, 173, 174, 175, 176, 177, 178, 179, 180, 181, 182, 183, 184, 185] [(128, 0), (128, 1), (129, 1), (152, 0), (152, 1), (152, 2), (152, 3), (152, 4), (152, 5), (152, 6), (152, 8), (154, 0), (154, 1), (154, 2), (160, -1), (161, -1), (162, -1), (163, -1), (164, -1)] S G S86 G87 := gr_rs g80 r85 z46 rfl
                have ci105 : CI E S86 G87 := ci_rs ci83 tk84 r85 n42l rfl rfl (fun e => absurd e (by decide)) (fun e => absurd e (by decide))
                refine r_ex hX hP 1 (pc' := 142) (st' := [(2, this)]) (lo' := [(0, (2, this)), (1, (0, account)), (2, (0, paper)), (3, (0, day)), (4, (0, shares)), (5, (0, worth)), (6, (0, known)), (7, (0, l7_j22)), (8, (0, l8_j66)), (9, (2, n42))]) rfl ?_
                refine r_getKR hX hP rfl fl_X11_29_128 s89 (x := is) e94 ?_
                refine r_ex hX hP 1 (pc' := 147) (st' := [(2, n42), (2, is)]) (lo' := [(0, (2, this)), (1, (0, account)), (2, (0, paper)), (3, (0, day)), (4, (0, shares)), (5, (0, worth)), (6, (0, known)), (7, (0, l7_j22)), (8, (0, l8_j66)), (9, (2, n42))]) rfl ?_
                refine r_tk hX (fun tk106 => ?_)
                refine r_callV gd hX hP rfl cv_X11_143_154 s91 (d' := 14) (mc' := 1) (ms' := 49) (as' := [(2, n42)]) (st := []) (by first | decide | omega) (by first | decide | omega) (by first | decide | omega) rfl rfl (Nat.le_of_ble_eq_true rfl) (c_add_LisT E S86 G87 is n42 s91 r85.1 isn e95 (by first | decide | omega) ci105) ?_
                rintro _ S107 G108 ⟨g109, z110, rfl, z110a, z110b, ci111, q112, q113, q114⟩
                have s115 : S107 this = 128 := gr_lab g109 s89 (by decide)
                have s116 : S107 acc = 130 := gr_lab g109 s90 (by decide)
                have s117 : S107 is = 154 := gr_lab g109 s91 (by decide)
                have s118 : S107 n42 = 139 := gr_lab g109 r85.1 (by decide)
                have e119 : acc = G108 128 this 5 := gr_val g109 e92 s89 (by decide) rfl
                have e120 : cnt = G108 130 acc 0 := gr_val g109 e93 s90 (by decide) rfl
                have e121 : is = G108 128 this 6 := gr_val g109 e94 s89 (by decide) rfl
                have e122 : la = G108 128 this 1 := gr_val g109 e96 s89 (by decide) rfl
                have e123 : known = G108 139 n42 0 := gr_val g109 e97 r85.1 (by decide) rfl
                have e124 : (-1) = G108 139 n42 1 := gr_val g109 e98 r85.1 (by decide) rfl
                have e125 : paper = G108 139 n42 2 := gr_val g109 e99 r85.1 (by decide) rfl
                have e126 : day = G108 139 n42 3 := gr_val g109 e100 r85.1 (by decide) rfl
                have e127 : shares = G108 139 n42 4 := gr_val g109 e101 r85.1 (by decide) rfl
                have e128 : account = G108 139 n42 6 := gr_val g109 e102 r85.1 (by decide) rfl
                have e129 : worth = G108 139 n42 8 := gr_val g109 e103 r85.1 (by decide) rfl
                have g130 : Gr [139, 152, 160, 161, 162, 163, 164, 165, 166, 167, 168, 169, 170, 171, 172, 173, 174, 175, 176, 177, 178, 179, 180, 181, 182, 183, 184, 185] [(128, 0), (128, 1), (129, 1), (152, 0), (152, 1), (152, 2), (152, 3), (152, 4), (152, 5), (152, 6), (152, 8), (154, 0), (154, 1), (154, 2), (160, -1), (161, -1), (162, -1), (163, -1), (164, -1)] S G S107 G108 := gr_call g104 g109 rfl rfl
                refine r_ex hX hP 3 (pc' := 154) (st' := [(0, known), (2, this)]) (lo' := [(0, (2, this)), (1, (0, account)), (2, (0, paper)), (3, (0, day)), (4, (0, shares)), (5, (0, worth)), (6, (0, known)), (7, (0, l7_j22)), (8, (0, l8_j66)), (9, (2, n42))]) rfl ?_
                refine r_callV gd hX hP rfl cv_X11_147_128 s115 (d' := 0) (mc' := 0) (ms' := 0) (as' := [(0, known)]) (st := []) (by first | decide | omega) (by first | decide | omega) (by first | decide | omega) rfl rfl (Nat.le_of_ble_eq_true rfl) (c_X11_tellT E S107 G108 this known s115 (by first | decide | omega) (by first | decide | omega)) ?_
                rintro _ _ _ ⟨rfl, ⟨G131, rfl⟩, rfl, lah132, lah132e, f133⟩
                refine r_peekI hX (tl_128 1 rfl (by decide)) s115 (fun o134 o134e o134a o134b => ?_)
                obtain rfl : lah132 = o134 := lah132e.trans o134e.symm
                refine r_ex hX hP 1 (pc' := 158) (st' := [(0, 1)]) (lo' := [(0, (2, this)), (1, (0, account)), (2, (0, paper)), (3, (0, day)), (4, (0, shares)), (5, (0, worth)), (6, (0, known)), (7, (0, l7_j22)), (8, (0, l8_j66)), (9, (2, n42))]) rfl ?_
                have g135 : Gr [139, 152, 160, 161, 162, 163, 164, 165, 166, 167, 168, 169, 170, 171, 172, 173, 174, 175, 176, 177, 178, 179, 180, 181, 182, 183, 184, 185] [(128, 0), (128, 1), (129, 1), (152, 0), (152, 1), (152, 2), (152, 3), (152, 4), (152, 5), (152, 6), (152, 8), (154, 0), (154, 1), (154, 2), (160, -1), (161, -1), (162, -1), (163, -1), (164, -1)] S G S107 (hw [(128, 1), (129, 1)] G108 G131) := (gr_hw g130 rfl)
                refine r_peekI hX (tl_154 2 rfl (by decide)) s117 (fun sip136 sip136e sip136a sip136b => ?_)
                have k137 := sip136e.trans (show (hw [(128, 1), (129, 1)] G108 G131) 154 is 2 = isn + 1 from q112)
                have ci138 : CI E S107 (hw [(128, 1), (129, 1)] G108 G131) := (ci_hw ci111 rfl)
                exact r_retZ hX hP rfl rfl (by first | decide | omega) (by first | decide | omega) (by first | decide | omega) (by first | decide | omega) ⟨g135, 1, rfl, sip136, sip136e, lah132, lah132e, (by first | decide | omega), (by first | decide | omega), (by first | decide | omega), ci138⟩
              · skip
                exfalso; omega
        · skip
          refine r_ex hX hP 2 (pc' := 102) (st' := [(0, 1), (0, 0), (0, l8_j66), (0, l7_j22), (2, this)]) (lo' := [(0, (2, this)), (1, (0, account)), (2, (0, paper)), (3, (0, day)), (4, (0, shares)), (5, (0, worth)), (6, (0, known)), (7, (0, l7_j22)), (8, (0, l8_j66))]) rfl ?_
          refine r_callS gd hX hP rfl cs_X11_112 (d' := 0) (mc' := 0) (ms' := 0) (as' := [(0, l7_j22), (0, l8_j66), (0, 0), (0, 1)]) (st := [(2, this)]) (by first | decide | omega) (by first | decide | omega) (by first | decide | omega) rfl rfl (Nat.le_of_ble_eq_true rfl) (c_X11_first E S G l7_j22 l8_j66 0 1 (by first | decide | omega) (by first | decide | omega) (by first | decide | omega) (by first | decide | omega) (by first | decide | omega) (by first | decide | omega) (by first | decide | omega) (by first | decide | omega)) ?_
          rintro _ _ _ ⟨rfl, rfl, z139, rfl, (⟨rfl, f140⟩ | ⟨rfl, f141, f142⟩ | ⟨rfl, f143, f144, f145⟩ | ⟨rfl, f146, f147, f148, f149⟩ | ⟨rfl, f150, f151, f152, f153⟩)⟩
          · skip
            refine r_callV gd hX hP rfl cv_X11_90_128 hS (d' := 0) (mc' := 0) (ms' := 0) (as' := [(0, 1)]) (st := []) (by first | decide | omega) (by first | decide | omega) (by first | decide | omega) rfl rfl (Nat.le_of_ble_eq_true rfl) (c_X11_refused E S G this 1 hS (by first | decide | omega) (by first | decide | omega)) ?_
            rintro _ _ _ ⟨rfl, ⟨G154, rfl⟩, z155, rfl, (⟨rfl, f156⟩ | ⟨rfl, f157⟩)⟩
            · skip
              refine r_if_eq hX hP rfl (tgt := 113) rfl (by first | decide | omega) (by first | decide | omega) (fun c158 => ?_) (fun c158 => ?_)
              · skip
                exfalso; omega
              · skip
                refine r_ex hX hP 1 (pc' := 112) (st' := [(0, 0)]) (lo' := [(0, (2, this)), (1, (0, account)), (2, (0, paper)), (3, (0, day)), (4, (0, shares)), (5, (0, worth)), (6, (0, known)), (7, (0, l7_j22)), (8, (0, l8_j66))]) rfl ?_
                have g159 : Gr [139, 152, 160, 161, 162, 163, 164, 165, 166, 167, 168, 169, 170, 171, 172, 173, 174, 175, 176, 177, 178, 179, 180, 181, 182, 183, 184, 185] [(128, 0), (128, 1), (129, 1), (152, 0), (152, 1), (152, 2), (152, 3), (152, 4), (152, 5), (152, 6), (152, 8), (154, 0), (154, 1), (154, 2), (160, -1), (161, -1), (162, -1), (163, -1), (164, -1)] S G S (hw [(128, 0)] G G154) := (gr_hw (gr_refl [139, 152, 160, 161, 162, 163, 164, 165, 166, 167, 168, 169, 170, 171, 172, 173, 174, 175, 176, 177, 178, 179, 180, 181, 182, 183, 184, 185] [(128, 0), (128, 1), (129, 1), (152, 0), (152, 1), (152, 2), (152, 3), (152, 4), (152, 5), (152, 6), (152, 8), (154, 0), (154, 1), (154, 2), (160, -1), (161, -1), (162, -1), (163, -1), (164, -1)] S G) rfl)
                have ci160 : CI E S (hw [(128, 0)] G G154) := (ci_hw ci rfl)
                exact r_retZ hX hP rfl rfl (by first | decide | omega) (by first | decide | omega) (by first | decide | omega) (by first | decide | omega) ⟨g159, 0, rfl, isn, isn_e, la, la_e, (by first | decide | omega), (by first | decide | omega), (by first | decide | omega), ci160⟩
            · skip
              exfalso; omega
          · skip
            refine r_callV gd hX hP rfl cv_X11_90_128 hS (d' := 0) (mc' := 0) (ms' := 0) (as' := [(0, 2)]) (st := []) (by first | decide | omega) (by first | decide | omega) (by first | decide | omega) rfl rfl (Nat.le_of_ble_eq_true rfl) (c_X11_refused E S G this 2 hS (by first | decide | omega) (by first | decide | omega)) ?_
            rintro _ _ _ ⟨rfl, ⟨G161, rfl⟩, z162, rfl, (⟨rfl, f163⟩ | ⟨rfl, f164⟩)⟩
            · skip
              refine r_if_eq hX hP rfl (tgt := 113) rfl (by first | decide | omega) (by first | decide | omega) (fun c165 => ?_) (fun c165 => ?_)
              · skip
                exfalso; omega
              · skip
                refine r_ex hX hP 1 (pc' := 112) (st' := [(0, 0)]) (lo' := [(0, (2, this)), (1, (0, account)), (2, (0, paper)), (3, (0, day)), (4, (0, shares)), (5, (0, worth)), (6, (0, known)), (7, (0, l7_j22)), (8, (0, l8_j66))]) rfl ?_
                have g166 : Gr [139, 152, 160, 161, 162, 163, 164, 165, 166, 167, 168, 169, 170, 171, 172, 173, 174, 175, 176, 177, 178, 179, 180, 181, 182, 183, 184, 185] [(128, 0), (128, 1), (129, 1), (152, 0), (152, 1), (152, 2), (152, 3), (152, 4), (152, 5), (152, 6), (152, 8), (154, 0), (154, 1), (154, 2), (160, -1), (161, -1), (162, -1), (163, -1), (164, -1)] S G S (hw [(128, 0)] G G161) := (gr_hw (gr_refl [139, 152, 160, 161, 162, 163, 164, 165, 166, 167, 168, 169, 170, 171, 172, 173, 174, 175, 176, 177, 178, 179, 180, 181, 182, 183, 184, 185] [(128, 0), (128, 1), (129, 1), (152, 0), (152, 1), (152, 2), (152, 3), (152, 4), (152, 5), (152, 6), (152, 8), (154, 0), (154, 1), (154, 2), (160, -1), (161, -1), (162, -1), (163, -1), (164, -1)] S G) rfl)
                have ci167 : CI E S (hw [(128, 0)] G G161) := (ci_hw ci rfl)
                exact r_retZ hX hP rfl rfl (by first | decide | omega) (by first | decide | omega) (by first | decide | omega) (by first | decide | omega) ⟨g166, 0, rfl, isn, isn_e, la, la_e, (by first | decide | omega), (by first | decide | omega), (by first | decide | omega), ci167⟩
            · skip
              exfalso; omega
          · skip
            exfalso; omega
          · skip
            refine r_callV gd hX hP rfl cv_X11_90_128 hS (d' := 0) (mc' := 0) (ms' := 0) (as' := [(0, 4)]) (st := []) (by first | decide | omega) (by first | decide | omega) (by first | decide | omega) rfl rfl (Nat.le_of_ble_eq_true rfl) (c_X11_refused E S G this 4 hS (by first | decide | omega) (by first | decide | omega)) ?_
            rintro _ _ _ ⟨rfl, ⟨G168, rfl⟩, z169, rfl, (⟨rfl, f170⟩ | ⟨rfl, f171⟩)⟩
            · skip
              refine r_if_eq hX hP rfl (tgt := 113) rfl (by first | decide | omega) (by first | decide | omega) (fun c172 => ?_) (fun c172 => ?_)
              · skip
                exfalso; omega
              · skip
                refine r_ex hX hP 1 (pc' := 112) (st' := [(0, 0)]) (lo' := [(0, (2, this)), (1, (0, account)), (2, (0, paper)), (3, (0, day)), (4, (0, shares)), (5, (0, worth)), (6, (0, known)), (7, (0, l7_j22)), (8, (0, l8_j66))]) rfl ?_
                have g173 : Gr [139, 152, 160, 161, 162, 163, 164, 165, 166, 167, 168, 169, 170, 171, 172, 173, 174, 175, 176, 177, 178, 179, 180, 181, 182, 183, 184, 185] [(128, 0), (128, 1), (129, 1), (152, 0), (152, 1), (152, 2), (152, 3), (152, 4), (152, 5), (152, 6), (152, 8), (154, 0), (154, 1), (154, 2), (160, -1), (161, -1), (162, -1), (163, -1), (164, -1)] S G S (hw [(128, 0)] G G168) := (gr_hw (gr_refl [139, 152, 160, 161, 162, 163, 164, 165, 166, 167, 168, 169, 170, 171, 172, 173, 174, 175, 176, 177, 178, 179, 180, 181, 182, 183, 184, 185] [(128, 0), (128, 1), (129, 1), (152, 0), (152, 1), (152, 2), (152, 3), (152, 4), (152, 5), (152, 6), (152, 8), (154, 0), (154, 1), (154, 2), (160, -1), (161, -1), (162, -1), (163, -1), (164, -1)] S G) rfl)
                have ci174 : CI E S (hw [(128, 0)] G G168) := (ci_hw ci rfl)
                exact r_retZ hX hP rfl rfl (by first | decide | omega) (by first | decide | omega) (by first | decide | omega) (by first | decide | omega) ⟨g173, 0, rfl, isn, isn_e, la, la_e, (by first | decide | omega), (by first | decide | omega), (by first | decide | omega), ci174⟩
            · skip
              exfalso; omega
          · skip
            exfalso; omega
      · skip
        refine r_ex hX hP 4 (pc' := 91) (st' := [(2, this), (0, known), (0, 1), (0, l8_j66), (0, l7_j22), (2, this)]) (lo' := [(0, (2, this)), (1, (0, account)), (2, (0, paper)), (3, (0, day)), (4, (0, shares)), (5, (0, worth)), (6, (0, known)), (7, (0, l7_j22)), (8, (0, l8_j66))]) rfl ?_
        refine r_getKI hX hP rfl fl_X11_129_128 hS (x := la) la_e ?_
        refine r_ic_ge hX hP rfl (tgt := 101) rfl (by first | decide | omega) (by first | decide | omega) (by first | decide | omega) (by first | decide | omega) (fun c175 => ?_) (fun c175 => ?_)
        · skip
          refine r_ex hX hP 1 (pc' := 102) (st' := [(0, 0), (0, 1), (0, l8_j66), (0, l7_j22), (2, this)]) (lo' := [(0, (2, this)), (1, (0, account)), (2, (0, paper)), (3, (0, day)), (4, (0, shares)), (5, (0, worth)), (6, (0, known)), (7, (0, l7_j22)), (8, (0, l8_j66))]) rfl ?_
          refine r_callS gd hX hP rfl cs_X11_112 (d' := 0) (mc' := 0) (ms' := 0) (as' := [(0, l7_j22), (0, l8_j66), (0, 1), (0, 0)]) (st := [(2, this)]) (by first | decide | omega) (by first | decide | omega) (by first | decide | omega) rfl rfl (Nat.le_of_ble_eq_true rfl) (c_X11_first E S G l7_j22 l8_j66 1 0 (by first | decide | omega) (by first | decide | omega) (by first | decide | omega) (by first | decide | omega) (by first | decide | omega) (by first | decide | omega) (by first | decide | omega) (by first | decide | omega)) ?_
          rintro _ _ _ ⟨rfl, rfl, z176, rfl, (⟨rfl, f177⟩ | ⟨rfl, f178, f179⟩ | ⟨rfl, f180, f181, f182⟩ | ⟨rfl, f183, f184, f185, f186⟩ | ⟨rfl, f187, f188, f189, f190⟩)⟩
          · skip
            refine r_callV gd hX hP rfl cv_X11_90_128 hS (d' := 0) (mc' := 0) (ms' := 0) (as' := [(0, 1)]) (st := []) (by first | decide | omega) (by first | decide | omega) (by first | decide | omega) rfl rfl (Nat.le_of_ble_eq_true rfl) (c_X11_refused E S G this 1 hS (by first | decide | omega) (by first | decide | omega)) ?_
            rintro _ _ _ ⟨rfl, ⟨G191, rfl⟩, z192, rfl, (⟨rfl, f193⟩ | ⟨rfl, f194⟩)⟩
            · skip
              refine r_if_eq hX hP rfl (tgt := 113) rfl (by first | decide | omega) (by first | decide | omega) (fun c195 => ?_) (fun c195 => ?_)
              · skip
                exfalso; omega
              · skip
                refine r_ex hX hP 1 (pc' := 112) (st' := [(0, 0)]) (lo' := [(0, (2, this)), (1, (0, account)), (2, (0, paper)), (3, (0, day)), (4, (0, shares)), (5, (0, worth)), (6, (0, known)), (7, (0, l7_j22)), (8, (0, l8_j66))]) rfl ?_
                have g196 : Gr [139, 152, 160, 161, 162, 163, 164, 165, 166, 167, 168, 169, 170, 171, 172, 173, 174, 175, 176, 177, 178, 179, 180, 181, 182, 183, 184, 185] [(128, 0), (128, 1), (129, 1), (152, 0), (152, 1), (152, 2), (152, 3), (152, 4), (152, 5), (152, 6), (152, 8), (154, 0), (154, 1), (154, 2), (160, -1), (161, -1), (162, -1), (163, -1), (164, -1)] S G S (hw [(128, 0)] G G191) := (gr_hw (gr_refl [139, 152, 160, 161, 162, 163, 164, 165, 166, 167, 168, 169, 170, 171, 172, 173, 174, 175, 176, 177, 178, 179, 180, 181, 182, 183, 184, 185] [(128, 0), (128, 1), (129, 1), (152, 0), (152, 1), (152, 2), (152, 3), (152, 4), (152, 5), (152, 6), (152, 8), (154, 0), (154, 1), (154, 2), (160, -1), (161, -1), (162, -1), (163, -1), (164, -1)] S G) rfl)
                have ci197 : CI E S (hw [(128, 0)] G G191) := (ci_hw ci rfl)
                exact r_retZ hX hP rfl rfl (by first | decide | omega) (by first | decide | omega) (by first | decide | omega) (by first | decide | omega) ⟨g196, 0, rfl, isn, isn_e, la, la_e, (by first | decide | omega), (by first | decide | omega), (by first | decide | omega), ci197⟩
            · skip
              exfalso; omega
          · skip
            refine r_callV gd hX hP rfl cv_X11_90_128 hS (d' := 0) (mc' := 0) (ms' := 0) (as' := [(0, 2)]) (st := []) (by first | decide | omega) (by first | decide | omega) (by first | decide | omega) rfl rfl (Nat.le_of_ble_eq_true rfl) (c_X11_refused E S G this 2 hS (by first | decide | omega) (by first | decide | omega)) ?_
            rintro _ _ _ ⟨rfl, ⟨G198, rfl⟩, z199, rfl, (⟨rfl, f200⟩ | ⟨rfl, f201⟩)⟩
            · skip
              refine r_if_eq hX hP rfl (tgt := 113) rfl (by first | decide | omega) (by first | decide | omega) (fun c202 => ?_) (fun c202 => ?_)
              · skip
                exfalso; omega
              · skip
                refine r_ex hX hP 1 (pc' := 112) (st' := [(0, 0)]) (lo' := [(0, (2, this)), (1, (0, account)), (2, (0, paper)), (3, (0, day)), (4, (0, shares)), (5, (0, worth)), (6, (0, known)), (7, (0, l7_j22)), (8, (0, l8_j66))]) rfl ?_
                have g203 : Gr [139, 152, 160, 161, 162, 163, 164, 165, 166, 167, 168, 169, 170, 171, 172, 173, 174, 175, 176, 177, 178, 179, 180, 181, 182, 183, 184, 185] [(128, 0), (128, 1), (129, 1), (152, 0), (152, 1), (152, 2), (152, 3), (152, 4), (152, 5), (152, 6), (152, 8), (154, 0), (154, 1), (154, 2), (160, -1), (161, -1), (162, -1), (163, -1), (164, -1)] S G S (hw [(128, 0)] G G198) := (gr_hw (gr_refl [139, 152, 160, 161, 162, 163, 164, 165, 166, 167, 168, 169, 170, 171, 172, 173, 174, 175, 176, 177, 178, 179, 180, 181, 182, 183, 184, 185] [(128, 0), (128, 1), (129, 1), (152, 0), (152, 1), (152, 2), (152, 3), (152, 4), (152, 5), (152, 6), (152, 8), (154, 0), (154, 1), (154, 2), (160, -1), (161, -1), (162, -1), (163, -1), (164, -1)] S G) rfl)
                have ci204 : CI E S (hw [(128, 0)] G G198) := (ci_hw ci rfl)
                exact r_retZ hX hP rfl rfl (by first | decide | omega) (by first | decide | omega) (by first | decide | omega) (by first | decide | omega) ⟨g203, 0, rfl, isn, isn_e, la, la_e, (by first | decide | omega), (by first | decide | omega), (by first | decide | omega), ci204⟩
            · skip
              exfalso; omega
          · skip
            refine r_callV gd hX hP rfl cv_X11_90_128 hS (d' := 0) (mc' := 0) (ms' := 0) (as' := [(0, 3)]) (st := []) (by first | decide | omega) (by first | decide | omega) (by first | decide | omega) rfl rfl (Nat.le_of_ble_eq_true rfl) (c_X11_refused E S G this 3 hS (by first | decide | omega) (by first | decide | omega)) ?_
            rintro _ _ _ ⟨rfl, ⟨G205, rfl⟩, z206, rfl, (⟨rfl, f207⟩ | ⟨rfl, f208⟩)⟩
            · skip
              refine r_if_eq hX hP rfl (tgt := 113) rfl (by first | decide | omega) (by first | decide | omega) (fun c209 => ?_) (fun c209 => ?_)
              · skip
                exfalso; omega
              · skip
                refine r_ex hX hP 1 (pc' := 112) (st' := [(0, 0)]) (lo' := [(0, (2, this)), (1, (0, account)), (2, (0, paper)), (3, (0, day)), (4, (0, shares)), (5, (0, worth)), (6, (0, known)), (7, (0, l7_j22)), (8, (0, l8_j66))]) rfl ?_
                have g210 : Gr [139, 152, 160, 161, 162, 163, 164, 165, 166, 167, 168, 169, 170, 171, 172, 173, 174, 175, 176, 177, 178, 179, 180, 181, 182, 183, 184, 185] [(128, 0), (128, 1), (129, 1), (152, 0), (152, 1), (152, 2), (152, 3), (152, 4), (152, 5), (152, 6), (152, 8), (154, 0), (154, 1), (154, 2), (160, -1), (161, -1), (162, -1), (163, -1), (164, -1)] S G S (hw [(128, 0)] G G205) := (gr_hw (gr_refl [139, 152, 160, 161, 162, 163, 164, 165, 166, 167, 168, 169, 170, 171, 172, 173, 174, 175, 176, 177, 178, 179, 180, 181, 182, 183, 184, 185] [(128, 0), (128, 1), (129, 1), (152, 0), (152, 1), (152, 2), (152, 3), (152, 4), (152, 5), (152, 6), (152, 8), (154, 0), (154, 1), (154, 2), (160, -1), (161, -1), (162, -1), (163, -1), (164, -1)] S G) rfl)
                have ci211 : CI E S (hw [(128, 0)] G G205) := (ci_hw ci rfl)
                exact r_retZ hX hP rfl rfl (by first | decide | omega) (by first | decide | omega) (by first | decide | omega) (by first | decide | omega) ⟨g210, 0, rfl, isn, isn_e, la, la_e, (by first | decide | omega), (by first | decide | omega), (by first | decide | omega), ci211⟩
            · skip
              exfalso; omega
          · skip
            exfalso; omega
          · skip
            exfalso; omega
        · skip
          refine r_ex hX hP 2 (pc' := 102) (st' := [(0, 1), (0, 1), (0, l8_j66), (0, l7_j22), (2, this)]) (lo' := [(0, (2, this)), (1, (0, account)), (2, (0, paper)), (3, (0, day)), (4, (0, shares)), (5, (0, worth)), (6, (0, known)), (7, (0, l7_j22)), (8, (0, l8_j66))]) rfl ?_
          refine r_callS gd hX hP rfl cs_X11_112 (d' := 0) (mc' := 0) (ms' := 0) (as' := [(0, l7_j22), (0, l8_j66), (0, 1), (0, 1)]) (st := [(2, this)]) (by first | decide | omega) (by first | decide | omega) (by first | decide | omega) rfl rfl (Nat.le_of_ble_eq_true rfl) (c_X11_first E S G l7_j22 l8_j66 1 1 (by first | decide | omega) (by first | decide | omega) (by first | decide | omega) (by first | decide | omega) (by first | decide | omega) (by first | decide | omega) (by first | decide | omega) (by first | decide | omega)) ?_
          rintro _ _ _ ⟨rfl, rfl, z212, rfl, (⟨rfl, f213⟩ | ⟨rfl, f214, f215⟩ | ⟨rfl, f216, f217, f218⟩ | ⟨rfl, f219, f220, f221, f222⟩ | ⟨rfl, f223, f224, f225, f226⟩)⟩
          · skip
            refine r_callV gd hX hP rfl cv_X11_90_128 hS (d' := 0) (mc' := 0) (ms' := 0) (as' := [(0, 1)]) (st := []) (by first | decide | omega) (by first | decide | omega) (by first | decide | omega) rfl rfl (Nat.le_of_ble_eq_true rfl) (c_X11_refused E S G this 1 hS (by first | decide | omega) (by first | decide | omega)) ?_
            rintro _ _ _ ⟨rfl, ⟨G227, rfl⟩, z228, rfl, (⟨rfl, f229⟩ | ⟨rfl, f230⟩)⟩
            · skip
              refine r_if_eq hX hP rfl (tgt := 113) rfl (by first | decide | omega) (by first | decide | omega) (fun c231 => ?_) (fun c231 => ?_)
              · skip
                exfalso; omega
              · skip
                refine r_ex hX hP 1 (pc' := 112) (st' := [(0, 0)]) (lo' := [(0, (2, this)), (1, (0, account)), (2, (0, paper)), (3, (0, day)), (4, (0, shares)), (5, (0, worth)), (6, (0, known)), (7, (0, l7_j22)), (8, (0, l8_j66))]) rfl ?_
                have g232 : Gr [139, 152, 160, 161, 162, 163, 164, 165, 166, 167, 168, 169, 170, 171, 172, 173, 174, 175, 176, 177, 178, 179, 180, 181, 182, 183, 184, 185] [(128, 0), (128, 1), (129, 1), (152, 0), (152, 1), (152, 2), (152, 3), (152, 4), (152, 5), (152, 6), (152, 8), (154, 0), (154, 1), (154, 2), (160, -1), (161, -1), (162, -1), (163, -1), (164, -1)] S G S (hw [(128, 0)] G G227) := (gr_hw (gr_refl [139, 152, 160, 161, 162, 163, 164, 165, 166, 167, 168, 169, 170, 171, 172, 173, 174, 175, 176, 177, 178, 179, 180, 181, 182, 183, 184, 185] [(128, 0), (128, 1), (129, 1), (152, 0), (152, 1), (152, 2), (152, 3), (152, 4), (152, 5), (152, 6), (152, 8), (154, 0), (154, 1), (154, 2), (160, -1), (161, -1), (162, -1), (163, -1), (164, -1)] S G) rfl)
                have ci233 : CI E S (hw [(128, 0)] G G227) := (ci_hw ci rfl)
                exact r_retZ hX hP rfl rfl (by first | decide | omega) (by first | decide | omega) (by first | decide | omega) (by first | decide | omega) ⟨g232, 0, rfl, isn, isn_e, la, la_e, (by first | decide | omega), (by first | decide | omega), (by first | decide | omega), ci233⟩
            · skip
              exfalso; omega
          · skip
            refine r_callV gd hX hP rfl cv_X11_90_128 hS (d' := 0) (mc' := 0) (ms' := 0) (as' := [(0, 2)]) (st := []) (by first | decide | omega) (by first | decide | omega) (by first | decide | omega) rfl rfl (Nat.le_of_ble_eq_true rfl) (c_X11_refused E S G this 2 hS (by first | decide | omega) (by first | decide | omega)) ?_
            rintro _ _ _ ⟨rfl, ⟨G234, rfl⟩, z235, rfl, (⟨rfl, f236⟩ | ⟨rfl, f237⟩)⟩
            · skip
              refine r_if_eq hX hP rfl (tgt := 113) rfl (by first | decide | omega) (by first | decide | omega) (fun c238 => ?_) (fun c238 => ?_)
              · skip
                exfalso; omega
              · skip
                refine r_ex hX hP 1 (pc' := 112) (st' := [(0, 0)]) (lo' := [(0, (2, this)), (1, (0, account)), (2, (0, paper)), (3, (0, day)), (4, (0, shares)), (5, (0, worth)), (6, (0, known)), (7, (0, l7_j22)), (8, (0, l8_j66))]) rfl ?_
                have g239 : Gr [139, 152, 160, 161, 162, 163, 164, 165, 166, 167, 168, 169, 170, 171, 172, 173, 174, 175, 176, 177, 178, 179, 180, 181, 182, 183, 184, 185] [(128, 0), (128, 1), (129, 1), (152, 0), (152, 1), (152, 2), (152, 3), (152, 4), (152, 5), (152, 6), (152, 8), (154, 0), (154, 1), (154, 2), (160, -1), (161, -1), (162, -1), (163, -1), (164, -1)] S G S (hw [(128, 0)] G G234) := (gr_hw (gr_refl [139, 152, 160, 161, 162, 163, 164, 165, 166, 167, 168, 169, 170, 171, 172, 173, 174, 175, 176, 177, 178, 179, 180, 181, 182, 183, 184, 185] [(128, 0), (128, 1), (129, 1), (152, 0), (152, 1), (152, 2), (152, 3), (152, 4), (152, 5), (152, 6), (152, 8), (154, 0), (154, 1), (154, 2), (160, -1), (161, -1), (162, -1), (163, -1), (164, -1)] S G) rfl)
                have ci240 : CI E S (hw [(128, 0)] G G234) := (ci_hw ci rfl)
                exact r_retZ hX hP rfl rfl (by first | decide | omega) (by first | decide | omega) (by first | decide | omega) (by first | decide | omega) ⟨g239, 0, rfl, isn, isn_e, la, la_e, (by first | decide | omega), (by first | decide | omega), (by first | decide | omega), ci240⟩
            · skip
              exfalso; omega
          · skip
            refine r_callV gd hX hP rfl cv_X11_90_128 hS (d' := 0) (mc' := 0) (ms' := 0) (as' := [(0, 3)]) (st := []) (by first | decide | omega) (by first | decide | omega) (by first | decide | omega) rfl rfl (Nat.le_of_ble_eq_true rfl) (c_X11_refused E S G this 3 hS (by first | decide | omega) (by first | decide | omega)) ?_
            rintro _ _ _ ⟨rfl, ⟨G241, rfl⟩, z242, rfl, (⟨rfl, f243⟩ | ⟨rfl, f244⟩)⟩
            · skip
              refine r_if_eq hX hP rfl (tgt := 113) rfl (by first | decide | omega) (by first | decide | omega) (fun c245 => ?_) (fun c245 => ?_)
              · skip
                exfalso; omega
              · skip
                refine r_ex hX hP 1 (pc' := 112) (st' := [(0, 0)]) (lo' := [(0, (2, this)), (1, (0, account)), (2, (0, paper)), (3, (0, day)), (4, (0, shares)), (5, (0, worth)), (6, (0, known)), (7, (0, l7_j22)), (8, (0, l8_j66))]) rfl ?_
                have g246 : Gr [139, 152, 160, 161, 162, 163, 164, 165, 166, 167, 168, 169, 170, 171, 172, 173, 174, 175, 176, 177, 178, 179, 180, 181, 182, 183, 184, 185] [(128, 0), (128, 1), (129, 1), (152, 0), (152, 1), (152, 2), (152, 3), (152, 4), (152, 5), (152, 6), (152, 8), (154, 0), (154, 1), (154, 2), (160, -1), (161, -1), (162, -1), (163, -1), (164, -1)] S G S (hw [(128, 0)] G G241) := (gr_hw (gr_refl [139, 152, 160, 161, 162, 163, 164, 165, 166, 167, 168, 169, 170, 171, 172, 173, 174, 175, 176, 177, 178, 179, 180, 181, 182, 183, 184, 185] [(128, 0), (128, 1), (129, 1), (152, 0), (152, 1), (152, 2), (152, 3), (152, 4), (152, 5), (152, 6), (152, 8), (154, 0), (154, 1), (154, 2), (160, -1), (161, -1), (162, -1), (163, -1), (164, -1)] S G) rfl)
                have ci247 : CI E S (hw [(128, 0)] G G241) := (ci_hw ci rfl)
                exact r_retZ hX hP rfl rfl (by first | decide | omega) (by first | decide | omega) (by first | decide | omega) (by first | decide | omega) ⟨g246, 0, rfl, isn, isn_e, la, la_e, (by first | decide | omega), (by first | decide | omega), (by first | decide | omega), ci247⟩
            · skip
              exfalso; omega
          · skip
            exfalso; omega
          · skip
            exfalso; omega
    refine r_ex hX hP 1 (pc' := 23) (st' := [(0, day)]) (lo' := [(0, (2, this)), (1, (0, account)), (2, (0, paper)), (3, (0, day)), (4, (0, shares)), (5, (0, worth)), (6, (0, known)), (7, (0, l7_j22))]) rfl ?_
    refine r_callS gd hX hP rfl cs_X11_86 (d' := 1) (mc' := 0) (ms' := 0) (as' := [(0, day)]) (st := []) (by first | decide | omega) (by first | decide | omega) (by first | decide | omega) rfl rfl (Nat.le_of_ble_eq_true rfl) (c_X11_isDay E S G day (by first | decide | omega) (by first | decide | omega)) ?_
    rintro _ _ _ ⟨rfl, rfl, z248, rfl, (⟨rfl, f249, f250⟩ | ⟨rfl, f251⟩)⟩
    · skip
      refine r_if_eq hX hP rfl (tgt := 59) rfl (by first | decide | omega) (by first | decide | omega) (fun c252 => ?_) (fun c252 => ?_)
      · skip
        exfalso; omega
      · skip
        refine r_ex hX hP 2 (pc' := 32) (st' := [(0, 1), (0, shares)]) (lo' := [(0, (2, this)), (1, (0, account)), (2, (0, paper)), (3, (0, day)), (4, (0, shares)), (5, (0, worth)), (6, (0, known)), (7, (0, l7_j22))]) rfl ?_
        refine r_ldc hX hP rfl (v := 1000000) (tbg sg3 10 rfl rfl) ?_
        refine r_callS gd hX hP rfl cs_X11_103 (d' := 0) (mc' := 0) (ms' := 0) (as' := [(0, shares), (0, 1), (0, 1000000)]) (st := []) (by first | decide | omega) (by first | decide | omega) (by first | decide | omega) rfl rfl (Nat.le_of_ble_eq_true rfl) (c_X11_within E S G shares 1 1000000 (by first | decide | omega) (by first | decide | omega) (by first | decide | omega) (by first | decide | omega) (by first | decide | omega) (by first | decide | omega)) ?_
        rintro _ _ _ ⟨rfl, rfl, z253, rfl, (⟨rfl, f254, f255⟩ | ⟨rfl, f256⟩)⟩
        · skip
          refine r_if_eq hX hP rfl (tgt := 59) rfl (by first | decide | omega) (by first | decide | omega) (fun c257 => ?_) (fun c257 => ?_)
          · skip
            exfalso; omega
          · skip
            refine r_ex hX hP 2 (pc' := 43) (st' := [(0, 0), (0, worth)]) (lo' := [(0, (2, this)), (1, (0, account)), (2, (0, paper)), (3, (0, day)), (4, (0, shares)), (5, (0, worth)), (6, (0, known)), (7, (0, l7_j22))]) rfl ?_
            refine r_ldc hX hP rfl (v := 100000000) (tbg sg3 11 rfl rfl) ?_
            refine r_callS gd hX hP rfl cs_X11_103 (d' := 0) (mc' := 0) (ms' := 0) (as' := [(0, worth), (0, 0), (0, 100000000)]) (st := []) (by first | decide | omega) (by first | decide | omega) (by first | decide | omega) rfl rfl (Nat.le_of_ble_eq_true rfl) (c_X11_within E S G worth 0 100000000 (by first | decide | omega) (by first | decide | omega) (by first | decide | omega) (by first | decide | omega) (by first | decide | omega) (by first | decide | omega)) ?_
            rintro _ _ _ ⟨rfl, rfl, z258, rfl, (⟨rfl, f259, f260⟩ | ⟨rfl, f261⟩)⟩
            · skip
              refine r_if_eq hX hP rfl (tgt := 59) rfl (by first | decide | omega) (by first | decide | omega) (fun c262 => ?_) (fun c262 => ?_)
              · skip
                exfalso; omega
              · skip
                refine r_ex hX hP 1 (pc' := 53) (st' := [(0, known)]) (lo' := [(0, (2, this)), (1, (0, account)), (2, (0, paper)), (3, (0, day)), (4, (0, shares)), (5, (0, worth)), (6, (0, known)), (7, (0, l7_j22))]) rfl ?_
                refine r_callS gd hX hP rfl cs_X11_86 (d' := 1) (mc' := 0) (ms' := 0) (as' := [(0, known)]) (st := []) (by first | decide | omega) (by first | decide | omega) (by first | decide | omega) rfl rfl (Nat.le_of_ble_eq_true rfl) (c_X11_isDay E S G known (by first | decide | omega) (by first | decide | omega)) ?_
                rintro _ _ _ ⟨rfl, rfl, z263, rfl, (⟨rfl, f264, f265⟩ | ⟨rfl, f266⟩)⟩
                · skip
                  refine r_if_ne hX hP rfl (tgt := 63) rfl (by first | decide | omega) (by first | decide | omega) (fun c267 => ?_) (fun c267 => ?_)
                  · skip
                    refine r_ex hX hP 2 (pc' := 66) (st' := []) (lo' := [(0, (2, this)), (1, (0, account)), (2, (0, paper)), (3, (0, day)), (4, (0, shares)), (5, (0, worth)), (6, (0, known)), (7, (0, l7_j22)), (8, (0, 0))]) rfl ?_
                    exact j66 0 (by first | decide | omega) (by first | decide | omega) (by first | decide | omega)
                  · skip
                    exfalso; omega
                · skip
                  refine r_if_ne hX hP rfl (tgt := 63) rfl (by first | decide | omega) (by first | decide | omega) (fun c268 => ?_) (fun c268 => ?_)
                  · skip
                    exfalso; omega
                  · skip
                    refine r_ex hX hP 3 (pc' := 66) (st' := []) (lo' := [(0, (2, this)), (1, (0, account)), (2, (0, paper)), (3, (0, day)), (4, (0, shares)), (5, (0, worth)), (6, (0, known)), (7, (0, l7_j22)), (8, (0, 1))]) rfl ?_
                    exact j66 1 (by first | decide | omega) (by first | decide | omega) (by first | decide | omega)
            · skip
              refine r_if_eq hX hP rfl (tgt := 59) rfl (by first | decide | omega) (by first | decide | omega) (fun c269 => ?_) (fun c269 => ?_)
              · skip
                refine r_ex hX hP 3 (pc' := 66) (st' := []) (lo' := [(0, (2, this)), (1, (0, account)), (2, (0, paper)), (3, (0, day)), (4, (0, shares)), (5, (0, worth)), (6, (0, known)), (7, (0, l7_j22)), (8, (0, 1))]) rfl ?_
                exact j66 1 (by first | decide | omega) (by first | decide | omega) (by first | decide | omega)
              · skip
                exfalso; omega
        · skip
          refine r_if_eq hX hP rfl (tgt := 59) rfl (by first | decide | omega) (by first | decide | omega) (fun c270 => ?_) (fun c270 => ?_)
          · skip
            refine r_ex hX hP 3 (pc' := 66) (st' := []) (lo' := [(0, (2, this)), (1, (0, account)), (2, (0, paper)), (3, (0, day)), (4, (0, shares)), (5, (0, worth)), (6, (0, known)), (7, (0, l7_j22)), (8, (0, 1))]) rfl ?_
            exact j66 1 (by first | decide | omega) (by first | decide | omega) (by first | decide | omega)
          · skip
            exfalso; omega
    · skip
      refine r_if_eq hX hP rfl (tgt := 59) rfl (by first | decide | omega) (by first | decide | omega) (fun c271 => ?_) (fun c271 => ?_)
      · skip
        refine r_ex hX hP 3 (pc' := 66) (st' := []) (lo' := [(0, (2, this)), (1, (0, account)), (2, (0, paper)), (3, (0, day)), (4, (0, shares)), (5, (0, worth)), (6, (0, known)), (7, (0, l7_j22)), (8, (0, 1))]) rfl ?_
        exact j66 1 (by first | decide | omega) (by first | decide | omega) (by first | decide | omega)
      · skip
        exfalso; omega
  refine r_ex hX hP 2 (pc' := 2) (st' := [(0, account), (2, this)]) (lo' := [(0, (2, this)), (1, (0, account)), (2, (0, paper)), (3, (0, day)), (4, (0, shares)), (5, (0, worth)), (6, (0, known))]) rfl ?_
  refine r_callV gd hX hP rfl cv_X11_100_128 hS (d' := 1) (mc' := 0) (ms' := 0) (as' := [(0, account)]) (st := []) (by first | decide | omega) (by first | decide | omega) (by first | decide | omega) rfl rfl (Nat.le_of_ble_eq_true rfl) (c_hasAccX E S G this account hS acc acc_e acc_s cnt cnt_e (by first | decide | omega) (by first | decide | omega)) ?_
  rintro _ _ _ ⟨rfl, rfl, z272, rfl, (⟨rfl, f273, f274⟩ | ⟨rfl, f275⟩)⟩
  · skip
    refine r_if_eq hX hP rfl (tgt := 15) rfl (by first | decide | omega) (by first | decide | omega) (fun c276 => ?_) (fun c276 => ?_)
    · skip
      exfalso; omega
    · skip
      refine r_ex hX hP 1 (pc' := 9) (st' := [(0, paper)]) (lo' := [(0, (2, this)), (1, (0, account)), (2, (0, paper)), (3, (0, day)), (4, (0, shares)), (5, (0, worth)), (6, (0, known))]) rfl ?_
      refine r_callS gd hX hP rfl cs_X11_120 (d' := 1) (mc' := 0) (ms' := 0) (as' := [(0, paper)]) (st := []) (by first | decide | omega) (by first | decide | omega) (by first | decide | omega) rfl rfl (Nat.le_of_ble_eq_true rfl) (c_isPaperX E S G paper (by first | decide | omega) (by first | decide | omega)) ?_
      rintro _ _ _ ⟨rfl, rfl, z277, rfl, (⟨rfl, f278, f279⟩ | ⟨rfl, f280⟩)⟩
      · skip
        refine r_if_ne hX hP rfl (tgt := 19) rfl (by first | decide | omega) (by first | decide | omega) (fun c281 => ?_) (fun c281 => ?_)
        · skip
          refine r_ex hX hP 2 (pc' := 22) (st' := []) (lo' := [(0, (2, this)), (1, (0, account)), (2, (0, paper)), (3, (0, day)), (4, (0, shares)), (5, (0, worth)), (6, (0, known)), (7, (0, 0))]) rfl ?_
          exact j22 0 (by first | decide | omega) (by first | decide | omega) (by first | decide | omega)
        · skip
          exfalso; omega
      · skip
        refine r_if_ne hX hP rfl (tgt := 19) rfl (by first | decide | omega) (by first | decide | omega) (fun c282 => ?_) (fun c282 => ?_)
        · skip
          exfalso; omega
        · skip
          refine r_ex hX hP 3 (pc' := 22) (st' := []) (lo' := [(0, (2, this)), (1, (0, account)), (2, (0, paper)), (3, (0, day)), (4, (0, shares)), (5, (0, worth)), (6, (0, known)), (7, (0, 1))]) rfl ?_
          exact j22 1 (by first | decide | omega) (by first | decide | omega) (by first | decide | omega)
  · skip
    refine r_if_eq hX hP rfl (tgt := 15) rfl (by first | decide | omega) (by first | decide | omega) (fun c283 => ?_) (fun c283 => ?_)
    · skip
      refine r_ex hX hP 3 (pc' := 22) (st' := []) (lo' := [(0, (2, this)), (1, (0, account)), (2, (0, paper)), (3, (0, day)), (4, (0, shares)), (5, (0, worth)), (6, (0, known)), (7, (0, 1))]) rfl ?_
      exact j22 1 (by first | decide | omega) (by first | decide | omega) (by first | decide | omega)
    · skip
      exfalso; omega

