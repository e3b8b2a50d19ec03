set_option maxRecDepth 100000 in
set_option maxHeartbeats 4000000 in
theorem c_X11_chooseT (E : En) (S : Sg) (G : Gh) (this : Int) (event : Int) (account : Int) (choice : Int) (day : Int) (known : Int) (hS : S this = 128) (evl : Int) (evl_e : evl = G 128 this 8) (evl_s : S evl = 156) (evn : Int) (evn_e : evn = G 156 evl 2) (acc : Int) (acc_e : acc = G 128 this 5) (acc_s : S acc = 130) (cnt : Int) (cnt_e : cnt = G 130 acc 0) (pi : Int) (pi_e : pi = G 128 this 9) (pi_s : S pi = 157) (pin : Int) (pin_e : pin = G 157 pi 2) (la : Int) (la_e : la = G 128 this 1) (event_a : (-2147483648) ≤ event) (event_b : event ≤ 2147483647) (account_a : (-2147483648) ≤ account) (account_b : account ≤ 2147483647) (choice_a : (-2147483648) ≤ choice) (choice_b : choice ≤ 2147483647) (day_a : (-2147483648) ≤ day) (day_b : day ≤ 2147483647) (known_a : (-2147483648) ≤ known) (known_b : known ≤ 2147483647) (ci : CI E S G) : Calls E mX11_choose [(2, this), (0, event), (0, account), (0, choice), (0, day), (0, known)] S G 15 2 79 (fun r S' G' => Gr [138, 151, 160, 161, 162, 163, 164, 165, 166, 167, 168, 169, 170, 171, 172, 173, 174, 175, 176, 177, 178, 179, 180, 181, 182, 183, 184, 185] [(128, 0), (128, 1), (129, 1), (151, 0), (151, 1), (151, 2), (151, 3), (151, 4), (151, 5), (157, 0), (157, 1), (157, 2), (173, -1), (174, -1), (175, -1), (176, -1), (177, -1), (178, -1)] S G S' G' ∧ ∃ z : Int, r = some (0, z) ∧ ∃ s2 : Int, s2 = G' 157 pi 2 ∧ ∃ l2 : Int, l2 = G' 128 this 1 ∧ (-2147483648) ≤ z ∧ z ≤ 2147483647 ∧ ((0 ≤ event ∧ event < evn ∧ 0 ≤ choice ∧ choice < G 136 (G 137 (elm S G 156 evl event) 3) 1 ∧ 0 ≤ account ∧ account < cnt ∧ 0 ≤ day ∧ day ≤ 40000 ∧ 0 ≤ known ∧ known ≤ 40000 ∧ pin < 60 ∧ la ≤ known ∧ z = pin ∧ s2 = pin + 1 ∧ l2 = known) ∨ (z = -1 ∧ s2 = pin ∧ l2 = la ∧ ¬ (0 ≤ event ∧ event < evn ∧ 0 ≤ choice ∧ choice < G 136 (G 137 (elm S G 156 evl event) 3) 1 ∧ 0 ≤ account ∧ account < cnt ∧ 0 ≤ day ∧ day ≤ 40000 ∧ 0 ≤ known ∧ known ≤ 40000 ∧ pin < 60 ∧ la ≤ known))) ∧ CI E S' G' ∧ (∀ i : Int, 0 ≤ i → i < pin → elm S' G' 157 pi i = elm S G 157 pi i) ∧ (z = -1 ∨ (S (elm S' G' 157 pi pin) = 0 ∧ S' (elm S' G' 157 pi pin) = 138 ∧ G' 138 (elm S' G' 157 pi pin) 1 = -1))) := by
  refine calls_by [(0, (2, this)), (1, (0, event)), (2, (0, account)), (3, (0, choice)), (4, (0, day)), (5, (0, known))] rfl rfl (Nat.le_of_ble_eq_true rfl) (fun X hX => ?_)
  have hP := hPX11_choose
  refine r_peekI hX (tl_156 2 rfl (by decide)) evl_s (fun evn_o evn_oe evn_oa evn_ob => ?_)
  obtain rfl : evn = evn_o := evn_e.trans evn_oe.symm
  refine r_peekI hX (tl_130 0 rfl (by decide)) acc_s (fun cnt_o cnt_oe cnt_oa cnt_ob => ?_)
  obtain rfl : cnt = cnt_o := cnt_e.trans cnt_oe.symm
  refine r_peekI hX (tl_157 2 rfl (by decide)) pi_s (fun pin_o pin_oe pin_oa pin_ob => ?_)
  obtain rfl : pin = pin_o := pin_e.trans pin_oe.symm
  refine r_peekI hX (tl_128 1 rfl (by decide)) hS (fun la_o la_oe la_oa la_ob => ?_)
  obtain rfl : la = la_o := la_e.trans la_oe.symm
  have j24 : ∀ (l6_j24 : Int), 0 ≤ l6_j24 → l6_j24 ≤ 1 → ((l6_j24 = 1 ∧ ¬ (0 ≤ event ∧ event < evn ∧ 0 ≤ choice ∧ choice < G 136 (G 137 (elm S G 156 evl event) 3) 1 ∧ 0 ≤ account ∧ account < cnt)) ∨ (l6_j24 = 0 ∧ 0 ≤ event ∧ event < evn ∧ 0 ≤ choice ∧ choice < G 136 (G 137 (elm S G 156 evl event) 3) 1 ∧ 0 ≤ account ∧ account < cnt ∧ choice ≤ 2)) → X 0 0 24 [] [(0, (2, this)), (1, (0, event)), (2, (0, account)), (3, (0, choice)), (4, (0, day)), (5, (0, known)), (6, (0, l6_j24))] S G := by
    intro l6_j24 yj24_0 yj24_1 yj24_2
    have j47 : ∀ (l7_j47 : Int), 0 ≤ l7_j47 → l7_j47 ≤ 1 → ((l7_j47 = 1 ∧ ¬ (0 ≤ day ∧ day ≤ 40000 ∧ 0 ≤ known ∧ known ≤ 40000)) ∨ (l7_j47 = 0 ∧ 0 ≤ day ∧ day ≤ 40000 ∧ 0 ≤ known ∧ known ≤ 40000)) → X 0 0 47 [] [(0, (2, this)), (1, (0, event)), (2, (0, account)), (3, (0, choice)), (4, (0, day)), (5, (0, known)), (6, (0, l6_j24)), (7, (0, l7_j47))] S G := by
      intro l7_j47 yj47_0 yj47_1 yj47_2
      refine r_ex hX hP 4 (pc' := 53) (st' := [(2, this), (0, l7_j47), (0, l6_j24), (2, this)]) (lo' := [(0, (2, this)), (1, (0, event)), (2, (0, account)), (3, (0, choice)), (4, (0, day)), (5, (0, known)), (6, (0, l6_j24)), (7, (0, l7_j47))]) rfl ?_
      refine r_getKR hX hP rfl fl_X11_41_128 hS (x := pi) pi_e ?_
      refine r_callV gd hX hP rfl cv_X11_125_157 pi_s (d' := 0) (mc' := 0) (ms' := 0) (as' := []) (st := [(0, l7_j47), (0, l6_j24), (2, this)]) (by first | decide | omega) (by first | decide | omega) (by first | decide | omega) rfl rfl (Nat.le_of_ble_eq_true rfl) (c_size_Lpi E S G pi  pi_s pin pin_e) ?_
      rintro _ _ _ ⟨rfl, rfl, z1, rfl, z1a, z1b, f2⟩
      refine r_ex hX hP 1 (pc' := 61) (st' := [(0, 60), (0, z1), (0, l7_j47), (0, l6_j24), (2, this)]) (lo' := [(0, (2, this)), (1, (0, event)), (2, (0, account)), (3, (0, choice)), (4, (0, day)), (5, (0, known)), (6, (0, l6_j24)), (7, (0, l7_j47))]) rfl ?_
      refine r_ic_lt hX hP rfl (tgt := 68) rfl (by first | decide | omega) (by first | decide | omega) (by first | decide | omega) (by first | decide | omega) (fun c3 => ?_) (fun c3 => ?_)
      · skip
        refine r_ex hX hP 3 (pc' := 72) (st' := [(2, this), (0, known), (0, 0), (0, l7_j47), (0, l6_j24), (2, this)]) (lo' := [(0, (2, this)), (1, (0, event)), (2, (0, account)), (3, (0, choice)), (4, (0, day)), (5, (0, known)), (6, (0, l6_j24)), (7, (0, l7_j47))]) rfl ?_
        refine r_getKI hX hP rfl fl_X11_129_128 hS (x := la) la_e ?_
        refine r_ic_ge hX hP rfl (tgt := 82) rfl (by first | decide | omega) (by first | decide | omega) (by first | decide | omega) (by first | decide | omega) (fun c4 => ?_) (fun c4 => ?_)
        · skip
          refine r_ex hX hP 1 (pc' := 83) (st' := [(0, 0), (0, 0), (0, l7_j47), (0, l6_j24), (2, this)]) (lo' := [(0, (2, this)), (1, (0, event)), (2, (0, account)), (3, (0, choice)), (4, (0, day)), (5, (0, known)), (6, (0, l6_j24)), (7, (0, l7_j47))]) rfl ?_
          refine r_callS gd hX hP rfl cs_X11_112 (d' := 0) (mc' := 0) (ms' := 0) (as' := [(0, l6_j24), (0, l7_j47), (0, 0), (0, 0)]) (st := [(2, this)]) (by first | decide | omega) (by first | decide | omega) (by first | decide | omega) rfl rfl (Nat.le_of_ble_eq_true rfl) (c_X11_first E S G l6_j24 l7_j47 0 0 (by first | decide | omega) (by first | decide | omega) (by first | decide | omega) (by first | decide | omega) (by first | decide | omega) (by first | decide | omega) (by first | decide | omega) (by first | decide | omega)) ?_
          rintro _ _ _ ⟨rfl, rfl, z5, rfl, (⟨rfl, f6⟩ | ⟨rfl, f7, f8⟩ | ⟨rfl, f9, f10, f11⟩ | ⟨rfl, f12, f13, f14, f15⟩ | ⟨rfl, f16, f17, f18, f19⟩)⟩
          · skip
            refine r_callV gd hX hP rfl cv_X11_90_128 hS (d' := 0) (mc' := 0) (ms' := 0) (as' := [(0, 1)]) (st := []) (by first | decide | omega) (by first | decide | omega) (by first | decide | omega) rfl rfl (Nat.le_of_ble_eq_true rfl) (c_X11_refused E S G this 1 hS (by first | decide | omega) (by first | decide | omega)) ?_
            rintro _ _ _ ⟨rfl, ⟨G20, rfl⟩, z21, rfl, (⟨rfl, f22⟩ | ⟨rfl, f23⟩)⟩
            · skip
              refine r_if_eq hX hP rfl (tgt := 94) rfl (by first | decide | omega) (by first | decide | omega) (fun c24 => ?_) (fun c24 => ?_)
              · skip
                exfalso; omega
              · skip
                refine r_ex hX hP 1 (pc' := 93) (st' := [(0, (-1))]) (lo' := [(0, (2, this)), (1, (0, event)), (2, (0, account)), (3, (0, choice)), (4, (0, day)), (5, (0, known)), (6, (0, l6_j24)), (7, (0, l7_j47))]) rfl ?_
                have g25 : Gr [138, 151, 160, 161, 162, 163, 164, 165, 166, 167, 168, 169, 170, 171, 172, 173, 174, 175, 176, 177, 178, 179, 180, 181, 182, 183, 184, 185] [(128, 0), (128, 1), (129, 1), (151, 0), (151, 1), (151, 2), (151, 3), (151, 4), (151, 5), (157, 0), (157, 1), (157, 2), (173, -1), (174, -1), (175, -1), (176, -1), (177, -1), (178, -1)] S G S (hw [(128, 0)] G G20) := (gr_hw (gr_refl [138, 151, 160, 161, 162, 163, 164, 165, 166, 167, 168, 169, 170, 171, 172, 173, 174, 175, 176, 177, 178, 179, 180, 181, 182, 183, 184, 185] [(128, 0), (128, 1), (129, 1), (151, 0), (151, 1), (151, 2), (151, 3), (151, 4), (151, 5), (157, 0), (157, 1), (157, 2), (173, -1), (174, -1), (175, -1), (176, -1), (177, -1), (178, -1)] S G) rfl)
                have ci26 : CI E S (hw [(128, 0)] G G20) := (ci_hw ci rfl)
                exact r_retI hX hP rfl rfl (by first | decide | omega) (by first | decide | omega) ⟨g25, (-1), rfl, pin, pin_e, la, la_e, (by first | decide | omega), (by first | decide | omega), (by first | decide | omega), ci26, (fun i h0 h1 => elk_157 ci pi_s (frm_tr (frm_refl gk157 S G) (frm_hw rfl)) h0 (by rw [← pin_e]; exact h1)), (Or.inl rfl)⟩
            · skip
              exfalso; omega
          · skip
            refine r_callV gd hX hP rfl cv_X11_90_128 hS (d' := 0) (mc' := 0) (ms' := 0) (as' := [(0, 2)]) (st := []) (by first | decide | omega) (by first | decide | omega) (by first | decide | omega) rfl rfl (Nat.le_of_ble_eq_true rfl) (c_X11_refused E S G this 2 hS (by first | decide | omega) (by first | decide | omega)) ?_
            rintro _ _ _ ⟨rfl, ⟨G27, rfl⟩, z28, rfl, (⟨rfl, f29⟩ | ⟨rfl, f30⟩)⟩
            · skip
              refine r_if_eq hX hP rfl (tgt := 94) rfl (by first | decide | omega) (by first | decide | omega) (fun c31 => ?_) (fun c31 => ?_)
              · skip
                exfalso; omega
              · skip
                refine r_ex hX hP 1 (pc' := 93) (st' := [(0, (-1))]) (lo' := [(0, (2, this)), (1, (0, event)), (2, (0, account)), (3, (0, choice)), (4, (0, day)), (5, (0, known)), (6, (0, l6_j24)), (7, (0, l7_j47))]) rfl ?_
                have g32 : Gr [138, 151, 160, 161, 162, 163, 164, 165, 166, 167, 168, 169, 170, 171, 172, 173, 174, 175, 176, 177, 178, 179, 180, 181, 182, 183, 184, 185] [(128, 0), (128, 1), (129, 1), (151, 0), (151, 1), (151, 2), (151, 3), (151, 4), (151, 5), (157, 0), (157, 1), (157, 2), (173, -1), (174, -1), (175, -1), (176, -1), (177, -1), (178, -1)] S G S (hw [(128, 0)] G G27) := (gr_hw (gr_refl [138, 151, 160, 161, 162, 163, 164, 165, 166, 167, 168, 169, 170, 171, 172, 173, 174, 175, 176, 177, 178, 179, 180, 181, 182, 183, 184, 185] [(128, 0), (128, 1), (129, 1), (151, 0), (151, 1), (151, 2), (151, 3), (151, 4), (151, 5), (157, 0), (157, 1), (157, 2), (173, -1), (174, -1), (175, -1), (176, -1), (177, -1), (178, -1)] S G) rfl)
                have ci33 : CI E S (hw [(128, 0)] G G27) := (ci_hw ci rfl)
                exact r_retI hX hP rfl rfl (by first | decide | omega) (by first | decide | omega) ⟨g32, (-1), rfl, pin, pin_e, la, la_e, (by first | decide | omega), (by first | decide | omega), (by first | decide | omega), ci33, (fun i h0 h1 => elk_157 ci pi_s (frm_tr (frm_refl gk157 S G) (frm_hw rfl)) h0 (by rw [← pin_e]; exact h1)), (Or.inl rfl)⟩
            · skip
              exfalso; omega
          · skip
            exfalso; omega
          · skip
            exfalso; omega
          · skip
            refine r_callV gd hX hP rfl cv_X11_90_128 hS (d' := 0) (mc' := 0) (ms' := 0) (as' := [(0, 0)]) (st := []) (by first | decide | omega) (by first | decide | omega) (by first | decide | omega) rfl rfl (Nat.le_of_ble_eq_true rfl) (c_X11_refused E S G this 0 hS (by first | decide | omega) (by first | decide | omega)) ?_
            rintro _ _ _ ⟨rfl, ⟨G34, rfl⟩, z35, rfl, (⟨rfl, f36⟩ | ⟨rfl, f37⟩)⟩
            · skip
              exfalso; omega
            · skip
              refine r_if_eq hX hP rfl (tgt := 94) rfl (by first | decide | omega) (by first | decide | omega) (fun c38 => ?_) (fun c38 => ?_)
              · skip
                have g39 : Gr [138, 151, 160, 161, 162, 163, 164, 165, 166, 167, 168, 169, 170, 171, 172, 173, 174, 175, 176, 177, 178, 179, 180, 181, 182, 183, 184, 185] [(128, 0), (128, 1), (129, 1), (151, 0), (151, 1), (151, 2), (151, 3), (151, 4), (151, 5), (157, 0), (157, 1), (157, 2), (173, -1), (174, -1), (175, -1), (176, -1), (177, -1), (178, -1)] S G S (hw [(128, 0)] G G34) := (gr_hw (gr_refl [138, 151, 160, 161, 162, 163, 164, 165, 166, 167, 168, 169, 170, 171, 172, 173, 174, 175, 176, 177, 178, 179, 180, 181, 182, 183, 184, 185] [(128, 0), (128, 1), (129, 1), (151, 0), (151, 1), (151, 2), (151, 3), (151, 4), (151, 5), (157, 0), (157, 1), (157, 2), (173, -1), (174, -1), (175, -1), (176, -1), (177, -1), (178, -1)] S G) rfl)
                have ci40 : CI E S (hw [(128, 0)] G G34) := (ci_hw ci rfl)
                refine r_tk hX (fun tk41 => ?_)
                refine r_newA hX hP rfl (L := 151) (N := 6) nw_X11_213_151 (by first | decide | omega) (by first | decide | omega) (fun n42 S43 G44 n42z n42n n42l g45 n42v => ?_)
                have z46 : S n42 = 0 := gr_zero g39 n42z
                have s47 : S43 this = 128 := gr_lab g45 hS (by decide)
                have s48 : S43 evl = 156 := gr_lab g45 evl_s (by decide)
                have s49 : S43 acc = 130 := gr_lab g45 acc_s (by decide)
                have s50 : S43 pi = 157 := gr_lab g45 pi_s (by decide)
                have e51 : evl = G44 128 this 8 := gr_val g45 evl_e hS (by decide) rfl
                have e52 : evn = G44 156 evl 2 := gr_val g45 evn_e evl_s (by decide) rfl
                have e53 : acc = G44 128 this 5 := gr_val g45 acc_e hS (by decide) rfl
                have e54 : cnt = G44 130 acc 0 := gr_val g45 cnt_e acc_s (by decide) rfl
                have e55 : pi = G44 128 this 9 := gr_val g45 pi_e hS (by decide) rfl
                have e56 : pin = G44 157 pi 2 := gr_val g45 pin_e pi_s (by decide) rfl
                have e57 : la = G44 128 this 1 := gr_val g45 la_e hS (by decide) rfl
                have g58 : Gr [138, 151, 160, 161, 162, 163, 164, 165, 166, 167, 168, 169, 170, 171, 172, 173, 174, 175, 176, 177, 178, 179, 180, 181, 182, 183, 184, 185] [(128, 0), (128, 1), (129, 1), (151, 0), (151, 1), (151, 2), (151, 3), (151, 4), (151, 5), (157, 0), (157, 1), (157, 2), (173, -1), (174, -1), (175, -1), (176, -1), (177, -1), (178, -1)] S G S43 G44 := gr_call g39 g45 rfl rfl
                have ci59 : CI E S43 G44 := ci_gr ci40 tk41 g45 rfl rfl
                refine r_ex hX hP 6 (pc' := 105) (st' := [(0, known), (0, day), (0, choice), (0, account), (0, event), (2, n42), (2, n42)]) (lo' := [(0, (2, this)), (1, (0, event)), (2, (0, account)), (3, (0, choice)), (4, (0, day)), (5, (0, known)), (6, (0, l6_j24)), (7, (0, l7_j47))]) rfl ?_
                refine r_callI gd hX hP rfl ci_X11_215 n42n (d' := 4) (mc' := 0) (ms' := 0) (as' := [(0, event), (0, account), (0, choice), (0, day), (0, known)]) (st := [(2, n42)]) (by first | decide | omega) (by first | decide | omega) (by first | decide | omega) rfl rfl (Nat.le_of_ble_eq_true rfl) (c_X5_initT E S43 G44 n42 event account choice day known n42l (by first | decide | omega) (by first | decide | omega) (by first | decide | omega) (by first | decide | omega) (by first | decide | omega) (by first | decide | omega) (by first | decide | omega) (by first | decide | omega) (by first | decide | omega) (by first | decide | omega)) ?_
                rintro _ _ _ ⟨rfl, ⟨G60, rfl⟩, rfl, knh61, knh61e, sth62, sth62e, evh63, evh63e, ach64, ach64e, chh65, chh65e, dah66, dah66e, f67, f68, f69, f70, f71, f72⟩
                refine r_peekI hX (tl_151 0 rfl (by decide)) n42l (fun o73 o73e o73a o73b => ?_)
                obtain rfl : knh61 = o73 := knh61e.trans o73e.symm
                refine r_peekI hX (tl_151 1 rfl (by decide)) n42l (fun o74 o74e o74a o74b => ?_)
                obtain rfl : sth62 = o74 := sth62e.trans o74e.symm
                refine r_peekI hX (tl_151 2 rfl (by decide)) n42l (fun o75 o75e o75a o75b => ?_)
                obtain rfl : evh63 = o75 := evh63e.trans o75e.symm
                refine r_peekI hX (tl_151 3 rfl (by decide)) n42l (fun o76 o76e o76a o76b => ?_)
                obtain rfl : ach64 = o76 := ach64e.trans o76e.symm
                refine r_peekI hX (tl_151 4 rfl (by decide)) n42l (fun o77 o77e o77a o77b => ?_)
                obtain rfl : chh65 = o77 := chh65e.trans o77e.symm
                refine r_peekI hX (tl_151 5 rfl (by decide)) n42l (fun o78 o78e o78a o78b => ?_)
                obtain rfl : dah66 = o78 := dah66e.trans o78e.symm
                have e79 : known = (hw [(151, 0), (151, 1), (151, 2), (151, 3), (151, 4), (151, 5)] G44 G60) 151 n42 0 := by rw [← f67]; exact knh61e
                have e80 : ((-1) : Int) = (hw [(151, 0), (151, 1), (151, 2), (151, 3), (151, 4), (151, 5)] G44 G60) 151 n42 1 := by rw [← f68]; exact sth62e
                have e81 : event = (hw [(151, 0), (151, 1), (151, 2), (151, 3), (151, 4), (151, 5)] G44 G60) 151 n42 2 := by rw [← f69]; exact evh63e
                have e82 : account = (hw [(151, 0), (151, 1), (151, 2), (151, 3), (151, 4), (151, 5)] G44 G60) 151 n42 3 := by rw [← f70]; exact ach64e
                have e83 : choice = (hw [(151, 0), (151, 1), (151, 2), (151, 3), (151, 4), (151, 5)] G44 G60) 151 n42 4 := by rw [← f71]; exact chh65e
                have e84 : day = (hw [(151, 0), (151, 1), (151, 2), (151, 3), (151, 4), (151, 5)] G44 G60) 151 n42 5 := by rw [← f72]; exact dah66e
                refine r_ex hX hP 1 (pc' := 110) (st' := []) (lo' := [(0, (2, this)), (1, (0, event)), (2, (0, account)), (3, (0, choice)), (4, (0, day)), (5, (0, known)), (6, (0, l6_j24)), (7, (0, l7_j47)), (8, (2, n42))]) rfl ?_
                have g85 : Gr [138, 151, 160, 161, 162, 163, 164, 165, 166, 167, 168, 169, 170, 171, 172, 173, 174, 175, 176, 177, 178, 179, 180, 181, 182, 183, 184, 185] [(128, 0), (128, 1), (129, 1), (151, 0), (151, 1), (151, 2), (151, 3), (151, 4), (151, 5), (157, 0), (157, 1), (157, 2), (173, -1), (174, -1), (175, -1), (176, -1), (177, -1), (178, -1)] S G S43 (hw [(151, 0), (151, 1), (151, 2), (151, 3), (151, 4), (151, 5)] G44 G60) := (gr_hw g58 rfl)
                refine r_finA hX (L := 151) (ci := 6) (fs := fs_151) rfl n42l (by decide) (fun hr86 => ?_)
                have hf87 : Fnl E fs_138 151 S43 (hw [(151, 0), (151, 1), (151, 2), (151, 3), (151, 4), (151, 5)] G44 G60) n42 := by
                  intro j hj
                  rcases (by have : j < 6 := hj; omega : j = 0 ∨ j = 1 ∨ j = 2 ∨ j = 3 ∨ j = 4 ∨ j = 5) with rfl | rfl | rfl | rfl | rfl | rfl
                  · exact hr86 0 (by decide)
                  · exact hr86 1 (by decide)
                  · exact hr86 2 (by decide)
                  · exact hr86 3 (by decide)
                  · exact hr86 4 (by decide)
                  · exact hr86 5 (by decide)
                have ci88 : CI E S43 (hw [(151, 0), (151, 1), (151, 2), (151, 3), (151, 4), (151, 5)] G44 G60) := (ci_hw ci59 rfl)
                refine r_tk hX (fun tk89 => ?_)
                refine r_relabF hX (L := 151) (L' := 138) (ci := 6) (fs := fs_151) (fs' := fs_138) rfl rfl rfl (by decide) (by decide) nf_151 (by decide) n42l hf87 (fun S91 G92 r90 => ?_)
                have s94 : S91 this = 128 := r90.lab n42l s47 (by decide)
                have s95 : S91 evl = 156 := r90.lab n42l s48 (by decide)
                have s96 : S91 acc = 130 := r90.lab n42l s49 (by decide)
                have s97 : S91 pi = 157 := r90.lab n42l s50 (by decide)
                have e98 : evl = G92 128 this 8 := rs_val r90 n42l e51 s47 (by decide)
                have e99 : evn = G92 156 evl 2 := rs_val r90 n42l e52 s48 (by decide)
                have e100 : acc = G92 128 this 5 := rs_val r90 n42l e53 s47 (by decide)
                have e101 : cnt = G92 130 acc 0 := rs_val r90 n42l e54 s49 (by decide)
                have e102 : pi = G92 128 this 9 := rs_val r90 n42l e55 s47 (by decide)
                have e103 : pin = G92 157 pi 2 := rs_val r90 n42l e56 s50 (by decide)
                have e104 : la = G92 128 this 1 := rs_val r90 n42l e57 s47 (by decide)
                have e105 : known = G92 138 n42 0 := e79.trans (r90.2.2.1 0).symm
                have e106 : (-1) = G92 138 n42 1 := e80.trans (r90.2.2.1 1).symm
                have e107 : event = G92 138 n42 2 := e81.trans (r90.2.2.1 2).symm
                have e108 : account = G92 138 n42 3 := e82.trans (r90.2.2.1 3).symm
                have e109 : choice = G92 138 n42 4 := e83.trans (r90.2.2.1 4).symm
                have e110 : day = G92 138 n42 5 := e84.trans (r90.2.2.1 5).symm
                have g111 : Gr [138, 151, 160, 161, 162, 163, 164, 165, 166, 167, 168, 169, 170, 171, 172, 173, 174, 175, 176, 177, 178, 179, 180, 181, 182, 183, 184, 185] [(128, 0), (128, 1), (129, 1), (151, 0), (151, 1), (151, 2), (151, 3), (151, 4), (151, 5), (157, 0), (157, 1), (157, 2), (173, -1), (174, -1), (175, -1), (176, -1), (177, -1), (178, -1)] S G S91 G92 := gr_rs g85 r90 z46 rfl
                have ci112 : CI E S91 G92 := ci_rs ci88 tk89 r90 n42l rfl rfl (fun e => absurd e (by decide)) (fun _ l hl => by rw [ci_uq ci88 hl s48 rfl]; have e1 : event = (hw [(151, 0), (151, 1), (151, 2), (151, 3), (151, 4), (151, 5)] G44 G60) 151 n42 2 := e81; have e2 : evn = (hw [(151, 0), (151, 1), (151, 2), (151, 3), (151, 4), (151, 5)] G44 G60) 156 evl 2 := e52; omega)
                refine r_ex hX hP 1 (pc' := 111) (st' := [(2, this)]) (lo' := [(0, (2, this)), (1, (0, event)), (2, (0, account)), (3, (0, choice)), (4, (0, day)), (5, (0, known)), (6, (0, l6_j24)), (7, (0, l7_j47)), (8, (2, n42))]) rfl ?_
                refine r_getKR hX hP rfl fl_X11_41_128 s94 (x := pi) e102 ?_
                refine r_ex hX hP 1 (pc' := 116) (st' := [(2, n42), (2, pi)]) (lo' := [(0, (2, this)), (1, (0, event)), (2, (0, account)), (3, (0, choice)), (4, (0, day)), (5, (0, known)), (6, (0, l6_j24)), (7, (0, l7_j47)), (8, (2, n42))]) rfl ?_
                refine r_tk hX (fun tk113 => ?_)
                refine r_callV gd hX hP rfl cv_X11_143_157 s97 (d' := 14) (mc' := 1) (ms' := 73) (as' := [(2, n42)]) (st := []) (by first | decide | omega) (by first | decide | omega) (by first | decide | omega) rfl rfl (Nat.le_of_ble_eq_true rfl) (c_add_LpiT E S91 G92 pi n42 s97 r90.1 pin e103 (by first | decide | omega) ci112) ?_
                rintro _ S114 G115 ⟨g116, z117, rfl, z117a, z117b, ci118, q119, q120, q121⟩
                have s122 : S114 this = 128 := gr_lab g116 s94 (by decide)
                have s123 : S114 evl = 156 := gr_lab g116 s95 (by decide)
                have s124 : S114 acc = 130 := gr_lab g116 s96 (by decide)
                have s125 : S114 pi = 157 := gr_lab g116 s97 (by decide)
                have s126 : S114 n42 = 138 := gr_lab g116 r90.1 (by decide)
                have e127 : evl = G115 128 this 8 := gr_val g116 e98 s94 (by decide) rfl
                have e128 : evn = G115 156 evl 2 := gr_val g116 e99 s95 (by decide) rfl
                have e129 : acc = G115 128 this 5 := gr_val g116 e100 s94 (by decide) rfl
                have e130 : cnt = G115 130 acc 0 := gr_val g116 e101 s96 (by decide) rfl
                have e131 : pi = G115 128 this 9 := gr_val g116 e102 s94 (by decide) rfl
                have e132 : la = G115 128 this 1 := gr_val g116 e104 s94 (by decide) rfl
                have e133 : known = G115 138 n42 0 := gr_val g116 e105 r90.1 (by decide) rfl
                have e134 : (-1) = G115 138 n42 1 := gr_val g116 e106 r90.1 (by decide) rfl
                have e135 : event = G115 138 n42 2 := gr_val g116 e107 r90.1 (by decide) rfl
                have e136 : account = G115 138 n42 3 := gr_val g116 e108 r90.1 (by decide) rfl
                have e137 : choice = G115 138 n42 4 := gr_val g116 e109 r90.1 (by decide) rfl
                have e138 : day = G115 138 n42 5 := gr_val g116 e110 r90.1 (by decide) rfl
                have g139 : Gr [138, 151, 160, 161, 162, 163, 164, 165, 166, 167, 168, 169, 170, 171, 172, 173, 174, 175, 176, 177, 178, 179, 180, 181, 182, 183, 184, 185] [(128, 0), (128, 1), (129, 1), (151, 0), (151, 1), (151, 2), (151, 3), (151, 4), (151, 5), (157, 0), (157, 1), (157, 2), (173, -1), (174, -1), (175, -1), (176, -1), (177, -1), (178, -1)] S G S114 G115 := gr_call g111 g116 rfl rfl
                refine r_ex hX hP 3 (pc' := 123) (st' := [(0, known), (2, this)]) (lo' := [(0, (2, this)), (1, (0, event)), (2, (0, account)), (3, (0, choice)), (4, (0, day)), (5, (0, known)), (6, (0, l6_j24)), (7, (0, l7_j47)), (8, (2, n42))]) rfl ?_
                refine r_callV gd hX hP rfl cv_X11_147_128 s122 (d' := 0) (mc' := 0) (ms' := 0) (as' := [(0, known)]) (st := []) (by first | decide | omega) (by first | decide | omega) (by first | decide | omega) rfl rfl (Nat.le_of_ble_eq_true rfl) (c_X11_tellT E S114 G115 this known s122 (by first | decide | omega) (by first | decide | omega)) ?_
                rintro _ _ _ ⟨rfl, ⟨G140, rfl⟩, rfl, lah141, lah141e, f142⟩
                refine r_peekI hX (tl_128 1 rfl (by decide)) s122 (fun o143 o143e o143a o143b => ?_)
                obtain rfl : lah141 = o143 := lah141e.trans o143e.symm
                refine r_ex hX hP 1 (pc' := 127) (st' := [(2, this)]) (lo' := [(0, (2, this)), (1, (0, event)), (2, (0, account)), (3, (0, choice)), (4, (0, day)), (5, (0, known)), (6, (0, l6_j24)), (7, (0, l7_j47)), (8, (2, n42))]) rfl ?_
                refine r_getKR hX hP rfl fl_X11_41_128 s122 (x := pi) e131 ?_
                refine r_peekI hX (tl_157 2 rfl (by decide)) s125 (fun sip144 sip144e sip144a sip144b => ?_)
                refine r_callV gd hX hP rfl cv_X11_125_157 s125 (d' := 0) (mc' := 0) (ms' := 0) (as' := []) (st := []) (by first | decide | omega) (by first | decide | omega) (by first | decide | omega) rfl rfl (Nat.le_of_ble_eq_true rfl) (c_size_Lpi E S114 (hw [(128, 1), (129, 1)] G115 G140) pi  s125 sip144 sip144e) ?_
                rintro _ _ _ ⟨rfl, rfl, z145, rfl, z145a, z145b, f146⟩
                refine r_ex hX hP 2 (pc' := 135) (st' := [(0, (z145 - 1))]) (lo' := [(0, (2, this)), (1, (0, event)), (2, (0, account)), (3, (0, choice)), (4, (0, day)), (5, (0, known)), (6, (0, l6_j24)), (7, (0, l7_j47)), (8, (2, n42))]) rfl ?_
                have g147 : Gr [138, 151, 160, 161, 162, 163, 164, 165, 166, 167, 168, 169, 170, 171, 172, 173, 174, 175, 176, 177, 178, 179, 180, 181, 182, 183, 184, 185] [(128, 0), (128, 1), (129, 1), (151, 0), (151, 1), (151, 2), (151, 3), (151, 4), (151, 5), (157, 0), (157, 1), (157, 2), (173, -1), (174, -1), (175, -1), (176, -1), (177, -1), (178, -1)] S G S114 (hw [(128, 1), (129, 1)] G115 G140) := (gr_hw g139 rfl)
                have k148 := sip144e.trans (show (hw [(128, 1), (129, 1)] G115 G140) 157 pi 2 = pin + 1 from q119)
                have ci149 : CI E S114 (hw [(128, 1), (129, 1)] G115 G140) := (ci_hw ci118 rfl)
                have el150s : G115 157 pi 2 = pin + 1 := q119
                have el150f : Frm gk157 S114 G115 S114 (hw [(128, 1), (129, 1)] G115 G140) := (frm_tr (frm_refl gk157 S114 G115) (frm_hw rfl))
                have el150o : ∀ i : Int, 0 ≤ i → i < pin → elm S114 (hw [(128, 1), (129, 1)] G115 G140) 157 pi i = elm S G 157 pi i := fun i h0 h1 => (elk_157 ci118 s125 el150f h0 (by rw [el150s]; omega)).trans ((q120 i h0 h1).trans (elk_157 ci pi_s (frm_rs (frm_tr (frm_tr (frm_tr (frm_refl gk157 S G) (frm_hw rfl)) (frm_gr g45 rfl)) (frm_hw rfl)) r90 z46) h0 (by rw [← pin_e]; exact h1)))
                have el150n : elm S114 (hw [(128, 1), (129, 1)] G115 G140) 157 pi pin = n42 := (elk_157 ci118 s125 el150f (by first | decide | omega) (by rw [el150s]; omega)).trans q121
                exact r_retI hX hP rfl rfl (by first | decide | omega) (by first | decide | omega) ⟨g147, (z145 - 1), rfl, sip144, sip144e, lah141, lah141e, (by first | decide | omega), (by first | decide | omega), (by first | decide | omega), ci149, el150o, (Or.inr (by rw [el150n]; exact ⟨z46, s126, (e134.symm.trans (show (-1) = -1 from by omega))⟩))⟩
              · skip
                exfalso; omega
        · skip
          refine r_ex hX hP 2 (pc' := 83) (st' := [(0, 1), (0, 0), (0, l7_j47), (0, l6_j24), (2, this)]) (lo' := [(0, (2, this)), (1, (0, event)), (2, (0, account)), (3, (0, choice)), (4, (0, day)), (5, (0, known)), (6, (0, l6_j24)), (7, (0, l7_j47))]) rfl ?_
          refine r_callS gd hX hP rfl cs_X11_112 (d' := 0) (mc' := 0) (ms' := 0) (as' := [(0, l6_j24), (0, l7_j47), (0, 0), (0, 1)]) (st := [(2, this)]) (by first | decide | omega) (by first | decide | omega) (by first | decide | omega) rfl rfl (Nat.le_of_ble_eq_true rfl) (c_X11_first E S G l6_j24 l7_j47 0 1 (by first | decide | omega) (by first | decide | omega) (by first | decide | omega) (by first | decide | omega) (by first | decide | omega) (by first | decide | omega) (by first | decide | omega) (by first | decide | omega)) ?_
          rintro _ _ _ ⟨rfl, rfl, z151, rfl, (⟨rfl, f152⟩ | ⟨rfl, f153, f154⟩ | ⟨rfl, f155, f156, f157⟩ | ⟨rfl, f158, f159, f160, f161⟩ | ⟨rfl, f162, f163, f164, f165⟩)⟩
          · skip
            refine r_callV gd hX hP rfl cv_X11_90_128 hS (d' := 0) (mc' := 0) (ms' := 0) (as' := [(0, 1)]) (st := []) (by first | decide | omega) (by first | decide | omega) (by first | decide | omega) rfl rfl (Nat.le_of_ble_eq_true rfl) (c_X11_refused E S G this 1 hS (by first | decide | omega) (by first | decide | omega)) ?_
            rintro _ _ _ ⟨rfl, ⟨G166, rfl⟩, z167, rfl, (⟨rfl, f168⟩ | ⟨rfl, f169⟩)⟩
            · skip
              refine r_if_eq hX hP rfl (tgt := 94) rfl (by first | decide | omega) (by first | decide | omega) (fun c170 => ?_) (fun c170 => ?_)
              · skip
                exfalso; omega
              · skip
                refine r_ex hX hP 1 (pc' := 93) (st' := [(0, (-1))]) (lo' := [(0, (2, this)), (1, (0, event)), (2, (0, account)), (3, (0, choice)), (4, (0, day)), (5, (0, known)), (6, (0, l6_j24)), (7, (0, l7_j47))]) rfl ?_
                have g171 : Gr [138, 151, 160, 161, 162, 163, 164, 165, 166, 167, 168, 169, 170, 171, 172, 173, 174, 175, 176, 177, 178, 179, 180, 181, 182, 183, 184, 185] [(128, 0), (128, 1), (129, 1), (151, 0), (151, 1), (151, 2), (151, 3), (151, 4), (151, 5), (157, 0), (157, 1), (157, 2), (173, -1), (174, -1), (175, -1), (176, -1), (177, -1), (178, -1)] S G S (hw [(128, 0)] G G166) := (gr_hw (gr_refl [138, 151, 160, 161, 162, 163, 164, 165, 166, 167, 168, 169, 170, 171, 172, 173, 174, 175, 176, 177, 178, 179, 180, 181, 182, 183, 184, 185] [(128, 0), (128, 1), (129, 1), (151, 0), (151, 1), (151, 2), (151, 3), (151, 4), (151, 5), (157, 0), (157, 1), (157, 2), (173, -1), (174, -1), (175, -1), (176, -1), (177, -1), (178, -1)] S G) rfl)
                have ci172 : CI E S (hw [(128, 0)] G G166) := (ci_hw ci rfl)
                exact r_retI hX hP rfl rfl (by first | decide | omega) (by first | decide | omega) ⟨g171, (-1), rfl, pin, pin_e, la, la_e, (by first | decide | omega), (by first | decide | omega), (by first | decide | omega), ci172, (fun i h0 h1 => elk_157 ci pi_s (frm_tr (frm_refl gk157 S G) (frm_hw rfl)) h0 (by rw [← pin_e]; exact h1)), (Or.inl rfl)⟩
            · skip
              exfalso; omega
          · skip
            refine r_callV gd hX hP rfl cv_X11_90_128 hS (d' := 0) (mc' := 0) (ms' := 0) (as' := [(0, 2)]) (st := []) (by first | decide | omega) (by first | decide | omega) (by first | decide | omega) rfl rfl (Nat.le_of_ble_eq_true rfl) (c_X11_refused E S G this 2 hS (by first | decide | omega) (by first | decide | omega)) ?_
            rintro _ _ _ ⟨rfl, ⟨G173, rfl⟩, z174, rfl, (⟨rfl, f175⟩ | ⟨rfl, f176⟩)⟩
            · skip
              refine r_if_eq hX hP rfl (tgt := 94) rfl (by first | decide | omega) (by first | decide | omega) (fun c177 => ?_) (fun c177 => ?_)
              · skip
                exfalso; omega
              · skip
                refine r_ex hX hP 1 (pc' := 93) (st' := [(0, (-1))]) (lo' := [(0, (2, this)), (1, (0, event)), (2, (0, account)), (3, (0, choice)), (4, (0, day)), (5, (0, known)), (6, (0, l6_j24)), (7, (0, l7_j47))]) rfl ?_
                have g178 : Gr [138, 151, 160, 161, 162, 163, 164, 165, 166, 167, 168, 169, 170, 171, 172, 173, 174, 175, 176, 177, 178, 179, 180, 181, 182, 183, 184, 185] [(128, 0), (128, 1), (129, 1), (151, 0), (151, 1), (151, 2), (151, 3), (151, 4), (151, 5), (157, 0), (157, 1), (157, 2), (173, -1), (174, -1), (175, -1), (176, -1), (177, -1), (178, -1)] S G S (hw [(128, 0)] G G173) := (gr_hw (gr_refl [138, 151, 160, 161, 162, 163, 164, 165, 166, 167, 168, 169, 170, 171, 172, 173, 174, 175, 176, 177, 178, 179, 180, 181, 182, 183, 184, 185] [(128, 0), (128, 1), (129, 1), (151, 0), (151, 1), (151, 2), (151, 3), (151, 4), (151, 5), (157, 0), (157, 1), (157, 2), (173, -1), (174, -1), (175, -1), (176, -1), (177, -1), (178, -1)] S G) rfl)
                have ci179 : CI E S (hw [(128, 0)] G G173) := (ci_hw ci rfl)
                exact r_retI hX hP rfl rfl (by first | decide | omega) (by first | decide | omega) ⟨g178, (-1), rfl, pin, pin_e, la, la_e, (by first | decide | omega), (by first | decide | omega), (by first | decide | omega), ci179, (fun i h0 h1 => elk_157 ci pi_s (frm_tr (frm_refl gk157 S G) (frm_hw rfl)) h0 (by rw [← pin_e]; exact h1)), (Or.inl rfl)⟩
            · skip
              exfalso; omega
          · skip
            exfalso; omega
          · skip
            refine r_callV gd hX hP rfl cv_X11_90_128 hS (d' := 0) (mc' := 0) (ms' := 0) (as' := [(0, 4)]) (st := []) (by first | decide | omega) (by first | decide | omega) (by first | decide | omega) rfl rfl (Nat.le_of_ble_eq_true rfl) (c_X11_refused E S G this 4 hS (by first | decide | omega) (by first | decide | omega)) ?_
            rintro _ _ _ ⟨rfl, ⟨G180, rfl⟩, z181, rfl, (⟨rfl, f182⟩ | ⟨rfl, f183⟩)⟩
            · skip
              refine r_if_eq hX hP rfl (tgt := 94) rfl (by first | decide | omega) (by first | decide | omega) (fun c184 => ?_) (fun c184 => ?_)
              · skip
                exfalso; omega
              · skip
                refine r_ex hX hP 1 (pc' := 93) (st' := [(0, (-1))]) (lo' := [(0, (2, this)), (1, (0, event)), (2, (0, account)), (3, (0, choice)), (4, (0, day)), (5, (0, known)), (6, (0, l6_j24)), (7, (0, l7_j47))]) rfl ?_
                have g185 : Gr [138, 151, 160, 161, 162, 163, 164, 165, 166, 167, 168, 169, 170, 171, 172, 173, 174, 175, 176, 177, 178, 179, 180, 181, 182, 183, 184, 185] [(128, 0), (128, 1), (129, 1), (151, 0), (151, 1), (151, 2), (151, 3), (151, 4), (151, 5), (157, 0), (157, 1), (157, 2), (173, -1), (174, -1), (175, -1), (176, -1), (177, -1), (178, -1)] S G S (hw [(128, 0)] G G180) := (gr_hw (gr_refl [138, 151, 160, 161, 162, 163, 164, 165, 166, 167, 168, 169, 170, 171, 172, 173, 174, 175, 176, 177, 178, 179, 180, 181, 182, 183, 184, 185] [(128, 0), (128, 1), (129, 1), (151, 0), (151, 1), (151, 2), (151, 3), (151, 4), (151, 5), (157, 0), (157, 1), (157, 2), (173, -1), (174, -1), (175, -1), (176, -1), (177, -1), (178, -1)] S G) rfl)
                have ci186 : CI E S (hw [(128, 0)] G G180) := (ci_hw ci rfl)
                exact r_retI hX hP rfl rfl (by first | decide | omega) (by first | decide | omega) ⟨g185, (-1), rfl, pin, pin_e, la, la_e, (by first | decide | omega), (by first | decide | omega), (by first | decide | omega), ci186, (fun i h0 h1 => elk_157 ci pi_s (frm_tr (frm_refl gk157 S G) (frm_hw rfl)) h0 (by rw [← pin_e]; exact h1)), (Or.inl rfl)⟩
            · skip
              exfalso; omega
          · skip
            exfalso; omega
      · skip
        refine r_ex hX hP 4 (pc' := 72) (st' := [(2, this), (0, known), (0, 1), (0, l7_j47), (0, l6_j24), (2, this)]) (lo' := [(0, (2, this)), (1, (0, event)), (2, (0, account)), (3, (0, choice)), (4, (0, day)), (5, (0, known)), (6, (0, l6_j24)), (7, (0, l7_j47))]) rfl ?_
        refine r_getKI hX hP rfl fl_X11_129_128 hS (x := la) la_e ?_
        refine r_ic_ge hX hP rfl (tgt := 82) rfl (by first | decide | omega) (by first | decide | omega) (by first | decide | omega) (by first | decide | omega) (fun c187 => ?_) (fun c187 => ?_)
        · skip
          refine r_ex hX hP 1 (pc' := 83) (st' := [(0, 0), (0, 1), (0, l7_j47), (0, l6_j24), (2, this)]) (lo' := [(0, (2, this)), (1, (0, event)), (2, (0, account)), (3, (0, choice)), (4, (0, day)), (5, (0, known)), (6, (0, l6_j24)), (7, (0, l7_j47))]) rfl ?_
          refine r_callS gd hX hP rfl cs_X11_112 (d' := 0) (mc' := 0) (ms' := 0) (as' := [(0, l6_j24), (0, l7_j47), (0, 1), (0, 0)]) (st := [(2, this)]) (by first | decide | omega) (by first | decide | omega) (by first | decide | omega) rfl rfl (Nat.le_of_ble_eq_true rfl) (c_X11_first E S G l6_j24 l7_j47 1 0 (by first | decide | omega) (by first | decide | omega) (by first | decide | omega) (by first | decide | omega) (by first | decide | omega) (by first | decide | omega) (by first | decide | omega) (by first | decide | omega)) ?_
          rintro _ _ _ ⟨rfl, rfl, z188, rfl, (⟨rfl, f189⟩ | ⟨rfl, f190, f191⟩ | ⟨rfl, f192, f193, f194⟩ | ⟨rfl, f195, f196, f197, f198⟩ | ⟨rfl, f199, f200, f201, f202⟩)⟩
          · skip
            refine r_callV gd hX hP rfl cv_X11_90_128 hS (d' := 0) (mc' := 0) (ms' := 0) (as' := [(0, 1)]) (st := []) (by first | decide | omega) (by first | decide | omega) (by first | decide | omega) rfl rfl (Nat.le_of_ble_eq_true rfl) (c_X11_refused E S G this 1 hS (by first | decide | omega) (by first | decide | omega)) ?_
            rintro _ _ _ ⟨rfl, ⟨G203, rfl⟩, z204, rfl, (⟨rfl, f205⟩ | ⟨rfl, f206⟩)⟩
            · skip
              refine r_if_eq hX hP rfl (tgt := 94) rfl (by first | decide | omega) (by first | decide | omega) (fun c207 => ?_) (fun c207 => ?_)
              · skip
                exfalso; omega
              · skip
                refine r_ex hX hP 1 (pc' := 93) (st' := [(0, (-1))]) (lo' := [(0, (2, this)), (1, (0, event)), (2, (0, account)), (3, (0, choice)), (4, (0, day)), (5, (0, known)), (6, (0, l6_j24)), (7, (0, l7_j47))]) rfl ?_
                have g208 : Gr [138, 151, 160, 161, 162, 163, 164, 165, 166, 167, 168, 169, 170, 171, 172, 173, 174, 175, 176, 177, 178, 179, 180, 181, 182, 183, 184, 185] [(128, 0), (128, 1), (129, 1), (151, 0), (151, 1), (151, 2), (151, 3), (151, 4), (151, 5), (157, 0), (157, 1), (157, 2), (173, -1), (174, -1), (175, -1), (176, -1), (177, -1), (178, -1)] S G S (hw [(128, 0)] G G203) := (gr_hw (gr_refl [138, 151, 160, 161, 162, 163, 164, 165, 166, 167, 168, 169, 170, 171, 172, 173, 174, 175, 176, 177, 178, 179, 180, 181, 182, 183, 184, 185] [(128, 0), (128, 1), (129, 1), (151, 0), (151, 1), (151, 2), (151, 3), (151, 4), (151, 5), (157, 0), (157, 1), (157, 2), (173, -1), (174, -1), (175, -1), (176, -1), (177, -1), (178, -1)] S G) rfl)
                have ci209 : CI E S (hw [(128, 0)] G G203) := (ci_hw ci rfl)
                exact r_retI hX hP rfl rfl (by first | decide | omega) (by first | decide | omega) ⟨g208, (-1), rfl, pin, pin_e, la, la_e, (by first | decide | omega), (by first | decide | omega), (by first | decide | omega), ci209, (fun i h0 h1 => elk_157 ci pi_s (frm_tr (frm_refl gk157 S G) (frm_hw rfl)) h0 (by rw [← pin_e]; exact h1)), (Or.inl rfl)⟩
            · skip
              exfalso; omega
          · skip
            refine r_callV gd hX hP rfl cv_X11_90_128 hS (d' := 0) (mc' := 0) (ms' := 0) (as' := [(0, 2)]) (st := []) (by first | decide | omega) (by first | decide | omega) (by first | decide | omega) rfl rfl (Nat.le_of_ble_eq_true rfl) (c_X11_refused E S G this 2 hS (by first | decide | omega) (by first | decide | omega)) ?_
            rintro _ _ _ ⟨rfl, ⟨G210, rfl⟩, z211, rfl, (⟨rfl, f212⟩ | ⟨rfl, f213⟩)⟩
            · skip
              refine r_if_eq hX hP rfl (tgt := 94) rfl (by first | decide | omega) (by first | decide | omega) (fun c214 => ?_) (fun c214 => ?_)
              · skip
                exfalso; omega
              · skip
                refine r_ex hX hP 1 (pc' := 93) (st' := [(0, (-1))]) (lo' := [(0, (2, this)), (1, (0, event)), (2, (0, account)), (3, (0, choice)), (4, (0, day)), (5, (0, known)), (6, (0, l6_j24)), (7, (0, l7_j47))]) rfl ?_
                have g215 : Gr [138, 151, 160, 161, 162, 163, 164, 165, 166, 167, 168, 169, 170, 171, 172, 173, 174, 175, 176, 177, 178, 179, 180, 181, 182, 183, 184, 185] [(128, 0), (128, 1), (129, 1), (151, 0), (151, 1), (151, 2), (151, 3), (151, 4), (151, 5), (157, 0), (157, 1), (157, 2), (173, -1), (174, -1), (175, -1), (176, -1), (177, -1), (178, -1)] S G S (hw [(128, 0)] G G210) := (gr_hw (gr_refl [138, 151, 160, 161, 162, 163, 164, 165, 166, 167, 168, 169, 170, 171, 172, 173, 174, 175, 176, 177, 178, 179, 180, 181, 182, 183, 184, 185] [(128, 0), (128, 1), (129, 1), (151, 0), (151, 1), (151, 2), (151, 3), (151, 4), (151, 5), (157, 0), (157, 1), (157, 2), (173, -1), (174, -1), (175, -1), (176, -1), (177, -1), (178, -1)] S G) rfl)
                have ci216 : CI E S (hw [(128, 0)] G G210) := (ci_hw ci rfl)
                exact r_retI hX hP rfl rfl (by first | decide | omega) (by first | decide | omega) ⟨g215, (-1), rfl, pin, pin_e, la, la_e, (by first | decide | omega), (by first | decide | omega), (by first | decide | omega), ci216, (fun i h0 h1 => elk_157 ci pi_s (frm_tr (frm_refl gk157 S G) (frm_hw rfl)) h0 (by rw [← pin_e]; exact h1)), (Or.inl rfl)⟩
            · skip
              exfalso; omega
          · skip
            refine r_callV gd hX hP rfl cv_X11_90_128 hS (d' := 0) (mc' := 0) (ms' := 0) (as' := [(0, 3)]) (st := []) (by first | decide | omega) (by first | decide | omega) (by first | decide | omega) rfl rfl (Nat.le_of_ble_eq_true rfl) (c_X11_refused E S G this 3 hS (by first | decide | omega) (by first | decide | omega)) ?_
            rintro _ _ _ ⟨rfl, ⟨G217, rfl⟩, z218, rfl, (⟨rfl, f219⟩ | ⟨rfl, f220⟩)⟩
            · skip
              refine r_if_eq hX hP rfl (tgt := 94) rfl (by first | decide | omega) (by first | decide | omega) (fun c221 => ?_) (fun c221 => ?_)
              · skip
                exfalso; omega
              · skip
                refine r_ex hX hP 1 (pc' := 93) (st' := [(0, (-1))]) (lo' := [(0, (2, this)), (1, (0, event)), (2, (0, account)), (3, (0, choice)), (4, (0, day)), (5, (0, known)), (6, (0, l6_j24)), (7, (0, l7_j47))]) rfl ?_
                have g222 : Gr [138, 151, 160, 161, 162, 163, 164, 165, 166, 167, 168, 169, 170, 171, 172, 173, 174, 175, 176, 177, 178, 179, 180, 181, 182, 183, 184, 185] [(128, 0), (128, 1), (129, 1), (151, 0), (151, 1), (151, 2), (151, 3), (151, 4), (151, 5), (157, 0), (157, 1), (157, 2), (173, -1), (174, -1), (175, -1), (176, -1), (177, -1), (178, -1)] S G S (hw [(128, 0)] G G217) := (gr_hw (gr_refl [138, 151, 160, 161, 162, 163, 164, 165, 166, 167, 168, 169, 170, 171, 172, 173, 174, 175, 176, 177, 178, 179, 180, 181, 182, 183, 184, 185] [(128, 0), (128, 1), (129, 1), (151, 0), (151, 1), (151, 2), (151, 3), (151, 4), (151, 5), (157, 0), (157, 1), (157, 2), (173, -1), (174, -1), (175, -1), (176, -1), (177, -1), (178, -1)] S G) rfl)
                have ci223 : CI E S (hw [(128, 0)] G G217) := (ci_hw ci rfl)
                exact r_retI hX hP rfl rfl (by first | decide | omega) (by first | decide | omega) ⟨g222, (-1), rfl, pin, pin_e, la, la_e, (by first | decide | omega), (by first | decide | omega), (by first | decide | omega), ci223, (fun i h0 h1 => elk_157 ci pi_s (frm_tr (frm_refl gk157 S G) (frm_hw rfl)) h0 (by rw [← pin_e]; exact h1)), (Or.inl rfl)⟩
            · skip
              exfalso; omega
          · skip
            exfalso; omega
          · skip
            exfalso; omega
        · skip
          refine r_ex hX hP 2 (pc' := 83) (st' := [(0, 1), (0, 1), (0, l7_j47), (0, l6_j24), (2, this)]) (lo' := [(0, (2, this)), (1, (0, event)), (2, (0, account)), (3, (0, choice)), (4, (0, day)), (5, (0, known)), (6, (0, l6_j24)), (7, (0, l7_j47))]) rfl ?_
          refine r_callS gd hX hP rfl cs_X11_112 (d' := 0) (mc' := 0) (ms' := 0) (as' := [(0, l6_j24), (0, l7_j47), (0, 1), (0, 1)]) (st := [(2, this)]) (by first | decide | omega) (by first | decide | omega) (by first | decide | omega) rfl rfl (Nat.le_of_ble_eq_true rfl) (c_X11_first E S G l6_j24 l7_j47 1 1 (by first | decide | omega) (by first | decide | omega) (by first | decide | omega) (by first | decide | omega) (by first | decide | omega) (by first | decide | omega) (by first | decide | omega) (by first | decide | omega)) ?_
          rintro _ _ _ ⟨rfl, rfl, z224, rfl, (⟨rfl, f225⟩ | ⟨rfl, f226, f227⟩ | ⟨rfl, f228, f229, f230⟩ | ⟨rfl, f231, f232, f233, f234⟩ | ⟨rfl, f235, f236, f237, f238⟩)⟩
          · skip
            refine r_callV gd hX hP rfl cv_X11_90_128 hS (d' := 0) (mc' := 0) (ms' := 0) (as' := [(0, 1)]) (st := []) (by first | decide | omega) (by first | decide | omega) (by first | decide | omega) rfl rfl (Nat.le_of_ble_eq_true rfl) (c_X11_refused E S G this 1 hS (by first | decide | omega) (by first | decide | omega)) ?_
            rintro _ _ _ ⟨rfl, ⟨G239, rfl⟩, z240, rfl, (⟨rfl, f241⟩ | ⟨rfl, f242⟩)⟩
            · skip
              refine r_if_eq hX hP rfl (tgt := 94) rfl (by first | decide | omega) (by first | decide | omega) (fun c243 => ?_) (fun c243 => ?_)
              · skip
                exfalso; omega
              · skip
                refine r_ex hX hP 1 (pc' := 93) (st' := [(0, (-1))]) (lo' := [(0, (2, this)), (1, (0, event)), (2, (0, account)), (3, (0, choice)), (4, (0, day)), (5, (0, known)), (6, (0, l6_j24)), (7, (0, l7_j47))]) rfl ?_
                have g244 : Gr [138, 151, 160, 161, 162, 163, 164, 165, 166, 167, 168, 169, 170, 171, 172, 173, 174, 175, 176, 177, 178, 179, 180, 181, 182, 183, 184, 185] [(128, 0), (128, 1), (129, 1), (151, 0), (151, 1), (151, 2), (151, 3), (151, 4), (151, 5), (157, 0), (157, 1), (157, 2), (173, -1), (174, -1), (175, -1), (176, -1), (177, -1), (178, -1)] S G S (hw [(128, 0)] G G239) := (gr_hw (gr_refl [138, 151, 160, 161, 162, 163, 164, 165, 166, 167, 168, 169, 170, 171, 172, 173, 174, 175, 176, 177, 178, 179, 180, 181, 182, 183, 184, 185] [(128, 0), (128, 1), (129, 1), (151, 0), (151, 1), (151, 2), (151, 3), (151, 4), (151, 5), (157, 0), (157, 1), (157, 2), (173, -1), (174, -1), (175, -1), (176, -1), (177, -1), (178, -1)] S G) rfl)
                have ci245 : CI E S (hw [(128, 0)] G G239) := (ci_hw ci rfl)
                exact r_retI hX hP rfl rfl (by first | decide | omega) (by first | decide | omega) ⟨g244, (-1), rfl, pin, pin_e, la, la_e, (by first | decide | omega), (by first | decide | omega), (by first | decide | omega), ci245, (fun i h0 h1 => elk_157 ci pi_s (frm_tr (frm_refl gk157 S G) (frm_hw rfl)) h0 (by rw [← pin_e]; exact h1)), (Or.inl rfl)⟩
            · skip
              exfalso; omega
          · skip
            refine r_callV gd hX hP rfl cv_X11_90_128 hS (d' := 0) (mc' := 0) (ms' := 0) (as' := [(0, 2)]) (st := []) (by first | decide | omega) (by first | decide | omega) (by first | decide | omega) rfl rfl (Nat.le_of_ble_eq_true rfl) (c_X11_refused E S G this 2 hS (by first | decide | omega) (by first | decide | omega)) ?_
            rintro _ _ _ ⟨rfl, ⟨G246, rfl⟩, z247, rfl, (⟨rfl, f248⟩ | ⟨rfl, f249⟩)⟩
            · skip
              refine r_if_eq hX hP rfl (tgt := 94) rfl (by first | decide | omega) (by first | decide | omega) (fun c250 => ?_) (fun c250 => ?_)
              · skip
                exfalso; omega
              · skip
                refine r_ex hX hP 1 (pc' := 93) (st' := [(0, (-1))]) (lo' := [(0, (2, this)), (1, (0, event)), (2, (0, account)), (3, (0, choice)), (4, (0, day)), (5, (0, known)), (6, (0, l6_j24)), (7, (0, l7_j47))]) rfl ?_
                have g251 : Gr [138, 151, 160, 161, 162, 163, 164, 165, 166, 167, 168, 169, 170, 171, 172, 173, 174, 175, 176, 177, 178, 179, 180, 181, 182, 183, 184, 185] [(128, 0), (128, 1), (129, 1), (151, 0), (151, 1), (151, 2), (151, 3), (151, 4), (151, 5), (157, 0), (157, 1), (157, 2), (173, -1), (174, -1), (175, -1), (176, -1), (177, -1), (178, -1)] S G S (hw [(128, 0)] G G246) := (gr_hw (gr_refl [138, 151, 160, 161, 162, 163, 164, 165, 166, 167, 168, 169, 170, 171, 172, 173, 174, 175, 176, 177, 178, 179, 180, 181, 182, 183, 184, 185] [(128, 0), (128, 1), (129, 1), (151, 0), (151, 1), (151, 2), (151, 3), (151, 4), (151, 5), (157, 0), (157, 1), (157, 2), (173, -1), (174, -1), (175, -1), (176, -1), (177, -1), (178, -1)] S G) rfl)
                have ci252 : CI E S (hw [(128, 0)] G G246) := (ci_hw ci rfl)
                exact r_retI hX hP rfl rfl (by first | decide | omega) (by first | decide | omega) ⟨g251, (-1), rfl, pin, pin_e, la, la_e, (by first | decide | omega), (by first | decide | omega), (by first | decide | omega), ci252, (fun i h0 h1 => elk_157 ci pi_s (frm_tr (frm_refl gk157 S G) (frm_hw rfl)) h0 (by rw [← pin_e]; exact h1)), (Or.inl rfl)⟩
            · skip
              exfalso; omega
          · skip
            refine r_callV gd hX hP rfl cv_X11_90_128 hS (d' := 0) (mc' := 0) (ms' := 0) (as' := [(0, 3)]) (st := []) (by first | decide | omega) (by first | decide | omega) (by first | decide | omega) rfl rfl (Nat.le_of_ble_eq_true rfl) (c_X11_refused E S G this 3 hS (by first | decide | omega) (by first | decide | omega)) ?_
            rintro _ _ _ ⟨rfl, ⟨G253, rfl⟩, z254, rfl, (⟨rfl, f255⟩ | ⟨rfl, f256⟩)⟩
            · skip
              refine r_if_eq hX hP rfl (tgt := 94) rfl (by first | decide | omega) (by first | decide | omega) (fun c257 => ?_) (fun c257 => ?_)
              · skip
                exfalso; omega
              · skip
                refine r_ex hX hP 1 (pc' := 93) (st' := [(0, (-1))]) (lo' := [(0, (2, this)), (1, (0, event)), (2, (0, account)), (3, (0, choice)), (4, (0, day)), (5, (0, known)), (6, (0, l6_j24)), (7, (0, l7_j47))]) rfl ?_
                have g258 : Gr [138, 151, 160, 161, 162, 163, 164, 165, 166, 167, 168, 169, 170, 171, 172, 173, 174, 175, 176, 177, 178, 179, 180, 181, 182, 183, 184, 185] [(128, 0), (128, 1), (129, 1), (151, 0), (151, 1), (151, 2), (151, 3), (151, 4), (151, 5), (157, 0), (157, 1), (157, 2), (173, -1), (174, -1), (175, -1), (176, -1), (177, -1), (178, -1)] S G S (hw [(128, 0)] G G253) := (gr_hw (gr_refl [138, 151, 160, 161, 162, 163, 164, 165, 166, 167, 168, 169, 170, 171, 172, 173, 174, 175, 176, 177, 178, 179, 180, 181, 182, 183, 184, 185] [(128, 0), (128, 1), (129, 1), (151, 0), (151, 1), (151, 2), (151, 3), (151, 4), (151, 5), (157, 0), (157, 1), (157, 2), (173, -1), (174, -1), (175, -1), (176, -1), (177, -1), (178, -1)] S G) rfl)
                have ci259 : CI E S (hw [(128, 0)] G G253) := (ci_hw ci rfl)
                exact r_retI hX hP rfl rfl (by first | decide | omega) (by first | decide | omega) ⟨g258, (-1), rfl, pin, pin_e, la, la_e, (by first | decide | omega), (by first | decide | omega), (by first | decide | omega), ci259, (fun i h0 h1 => elk_157 ci pi_s (frm_tr (frm_refl gk157 S G) (frm_hw rfl)) h0 (by rw [← pin_e]; exact h1)), (Or.inl rfl)⟩
            · skip
              exfalso; omega
          · skip
            exfalso; omega
          · skip
            exfalso; omega
    refine r_ex hX hP 1 (pc' := 26) (st' := [(0, day)]) (lo' := [(0, (2, this)), (1, (0, event)), (2, (0, account)), (3, (0, choice)), (4, (0, day)), (5, (0, known)), (6, (0, l6_j24))]) rfl ?_
    refine r_callS gd hX hP rfl cs_X11_86 (d' := 1) (mc' := 0) (ms' := 0) (as' := [(0, day)]) (st := []) (by first | decide | omega) (by first | decide | omega) (by first | decide | omega) rfl rfl (Nat.le_of_ble_eq_true rfl) (c_X11_isDay E S G day (by first | decide | omega) (by first | decide | omega)) ?_
    rintro _ _ _ ⟨rfl, rfl, z260, rfl, (⟨rfl, f261, f262⟩ | ⟨rfl, f263⟩)⟩
    · skip
      refine r_if_eq hX hP rfl (tgt := 40) rfl (by first | decide | omega) (by first | decide | omega) (fun c264 => ?_) (fun c264 => ?_)
      · skip
        exfalso; omega
      · skip
        refine r_ex hX hP 1 (pc' := 34) (st' := [(0, known)]) (lo' := [(0, (2, this)), (1, (0, event)), (2, (0, account)), (3, (0, choice)), (4, (0, day)), (5, (0, known)), (6, (0, l6_j24))]) rfl ?_
        refine r_callS gd hX hP rfl cs_X11_86 (d' := 1) (mc' := 0) (ms' := 0) (as' := [(0, known)]) (st := []) (by first | decide | omega) (by first | decide | omega) (by first | decide | omega) rfl rfl (Nat.le_of_ble_eq_true rfl) (c_X11_isDay E S G known (by first | decide | omega) (by first | decide | omega)) ?_
        rintro _ _ _ ⟨rfl, rfl, z265, rfl, (⟨rfl, f266, f267⟩ | ⟨rfl, f268⟩)⟩
        · skip
          refine r_if_ne hX hP rfl (tgt := 44) rfl (by first | decide | omega) (by first | decide | omega) (fun c269 => ?_) (fun c269 => ?_)
          · skip
            refine r_ex hX hP 2 (pc' := 47) (st' := []) (lo' := [(0, (2, this)), (1, (0, event)), (2, (0, account)), (3, (0, choice)), (4, (0, day)), (5, (0, known)), (6, (0, l6_j24)), (7, (0, 0))]) rfl ?_
            exact j47 0 (by first | decide | omega) (by first | decide | omega) (by first | decide | omega)
          · skip
            exfalso; omega
        · skip
          refine r_if_ne hX hP rfl (tgt := 44) rfl (by first | decide | omega) (by first | decide | omega) (fun c270 => ?_) (fun c270 => ?_)
          · skip
            exfalso; omega
          · skip
            refine r_ex hX hP 3 (pc' := 47) (st' := []) (lo' := [(0, (2, this)), (1, (0, event)), (2, (0, account)), (3, (0, choice)), (4, (0, day)), (5, (0, known)), (6, (0, l6_j24)), (7, (0, 1))]) rfl ?_
            exact j47 1 (by first | decide | omega) (by first | decide | omega) (by first | decide | omega)
    · skip
      refine r_if_eq hX hP rfl (tgt := 40) rfl (by first | decide | omega) (by first | decide | omega) (fun c271 => ?_) (fun c271 => ?_)
      · skip
        refine r_ex hX hP 3 (pc' := 47) (st' := []) (lo' := [(0, (2, this)), (1, (0, event)), (2, (0, account)), (3, (0, choice)), (4, (0, day)), (5, (0, known)), (6, (0, l6_j24)), (7, (0, 1))]) rfl ?_
        exact j47 1 (by first | decide | omega) (by first | decide | omega) (by first | decide | omega)
      · skip
        exfalso; omega
  refine r_ex hX hP 3 (pc' := 3) (st' := [(0, choice), (0, event), (2, this)]) (lo' := [(0, (2, this)), (1, (0, event)), (2, (0, account)), (3, (0, choice)), (4, (0, day)), (5, (0, known))]) rfl ?_
  refine r_callV gd hX hP rfl cv_X11_209_128 hS (d' := 3) (mc' := 0) (ms' := 0) (as' := [(0, event), (0, choice)]) (st := []) (by first | decide | omega) (by first | decide | omega) (by first | decide | omega) rfl rfl (Nat.le_of_ble_eq_true rfl) (c_X11_hasChoiceT E S G this event choice hS evl evl_e evl_s evn evn_e (by first | decide | omega) (by first | decide | omega) (by first | decide | omega) (by first | decide | omega) ci) ?_
  rintro _ _ _ ⟨rfl, rfl, z272, rfl, (⟨rfl, f273, f274, f275, f276, f277⟩ | ⟨rfl, f278⟩)⟩
  · skip
    refine r_if_eq hX hP rfl (tgt := 17) rfl (by first | decide | omega) (by first | decide | omega) (fun c279 => ?_) (fun c279 => ?_)
    · skip
      exfalso; omega
    · skip
      refine r_ex hX hP 2 (pc' := 11) (st' := [(0, account), (2, this)]) (lo' := [(0, (2, this)), (1, (0, event)), (2, (0, account)), (3, (0, choice)), (4, (0, day)), (5, (0, known))]) rfl ?_
      refine r_callV gd hX hP rfl cv_X11_100_128 hS (d' := 1) (mc' := 0) (ms' := 0) (as' := [(0, account)]) (st := []) (by first | decide | omega) (by first | decide | omega) (by first | decide | omega) rfl rfl (Nat.le_of_ble_eq_true rfl) (c_hasAccX E S G this account hS acc acc_e acc_s cnt cnt_e (by first | decide | omega) (by first | decide | omega)) ?_
      rintro _ _ _ ⟨rfl, rfl, z280, rfl, (⟨rfl, f281, f282⟩ | ⟨rfl, f283⟩)⟩
      · skip
        refine r_if_ne hX hP rfl (tgt := 21) rfl (by first | decide | omega) (by first | decide | omega) (fun c284 => ?_) (fun c284 => ?_)
        · skip
          refine r_ex hX hP 2 (pc' := 24) (st' := []) (lo' := [(0, (2, this)), (1, (0, event)), (2, (0, account)), (3, (0, choice)), (4, (0, day)), (5, (0, known)), (6, (0, 0))]) rfl ?_
          exact j24 0 (by first | decide | omega) (by first | decide | omega) (by first | decide | omega)
        · skip
          exfalso; omega
      · skip
        refine r_if_ne hX hP rfl (tgt := 21) rfl (by first | decide | omega) (by first | decide | omega) (fun c285 => ?_) (fun c285 => ?_)
        · skip
          exfalso; omega
        · skip
          refine r_ex hX hP 3 (pc' := 24) (st' := []) (lo' := [(0, (2, this)), (1, (0, event)), (2, (0, account)), (3, (0, choice)), (4, (0, day)), (5, (0, known)), (6, (0, 1))]) rfl ?_
          exact j24 1 (by first | decide | omega) (by first | decide | omega) (by first | decide | omega)
  · skip
    refine r_if_eq hX hP rfl (tgt := 17) rfl (by first | decide | omega) (by first | decide | omega) (fun c286 => ?_) (fun c286 => ?_)
    · skip
      refine r_ex hX hP 3 (pc' := 24) (st' := []) (lo' := [(0, (2, this)), (1, (0, event)), (2, (0, account)), (3, (0, choice)), (4, (0, day)), (5, (0, known)), (6, (0, 1))]) rfl ?_
      exact j24 1 (by first | decide | omega) (by first | decide | omega) (by first | decide | omega)
    · skip
      exfalso; omega
