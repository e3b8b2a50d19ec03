set_option maxRecDepth 100000 in
set_option maxHeartbeats 4000000 in
theorem c_X5_initT (E : En) (S : Sg) (G : Gh) (this : Int) (event : Int) (account : Int) (choice : Int) (day : Int) (known : Int) (hS : S this = 151) (event_a : 0 ≤ event) (event_b : event ≤ 15) (account_a : 0 ≤ account) (account_b : account ≤ 19) (choice_a : 0 ≤ choice) (choice_b : choice ≤ 2) (day_a : 0 ≤ day) (day_b : day ≤ 40000) (known_a : 0 ≤ known) (known_b : known ≤ 40000) : Calls E mX5_init [(2, this), (0, event), (0, account), (0, choice), (0, day), (0, known)] S G 4 0 0 (fun r S' G' => S = S' ∧ (∃ G1, hw [(151, 0), (151, 1), (151, 2), (151, 3), (151, 4), (151, 5)] G G1 = G') ∧ r = none ∧ ∃ kn : Int, kn = G' 151 this 0 ∧ ∃ st : Int, st = G' 151 this 1 ∧ ∃ ev2 : Int, ev2 = G' 151 this 2 ∧ ∃ a2 : Int, a2 = G' 151 this 3 ∧ ∃ c2 : Int, c2 = G' 151 this 4 ∧ ∃ d2 : Int, d2 = G' 151 this 5 ∧ kn = known ∧ st = -1 ∧ ev2 = event ∧ a2 = account ∧ c2 = choice ∧ d2 = day) := by
  refine calls_by [(0, (2, this)), (1, (0, event)), (2, (0, account)), (3, (0, choice)), (4, (0, day)), (5, (0, known))] rfl rfl (Nat.le_of_ble_eq_true rfl) (fun X hX => ?_)
  have hP := hPX5_init
  refine r_ex hX hP 2 (pc' := 3) (st' := [(0, known), (2, this)]) (lo' := [(0, (2, this)), (1, (0, event)), (2, (0, account)), (3, (0, choice)), (4, (0, day)), (5, (0, known))]) rfl ?_
  refine r_nn hX hS (by decide) (fun p1 => ?_)
  refine r_callI gd hX hP rfl ci_X5_1 p1 (d' := 3) (mc' := 0) (ms' := 0) (as' := [(0, known)]) (st := []) (by first | decide | omega) (by first | decide | omega) (by first | decide | omega) rfl rfl (Nat.le_of_ble_eq_true rfl) (c_told_PckrT E S G this known hS (by first | decide | omega) (by first | decide | omega)) ?_
  rintro _ _ _ ⟨rfl, ⟨G2, rfl⟩, rfl, knh3, knh3e, sth4, sth4e, f5, f6⟩
  refine r_peekI hX (tl_151 0 rfl (by decide)) hS (fun o7 o7e o7a o7b => ?_)
  obtain rfl : knh3 = o7 := knh3e.trans o7e.symm
  refine r_peekI hX (tl_151 1 rfl (by decide)) hS (fun o8 o8e o8a o8b => ?_)
  obtain rfl : sth4 = o8 := sth4e.trans o8e.symm
  have e9 : known = (hw [(151, 0), (151, 1)] G G2) 151 this 0 := by rw [← f5]; exact knh3e
  have e10 : ((-1) : Int) = (hw [(151, 0), (151, 1)] G G2) 151 this 1 := by rw [← f6]; exact sth4e
  refine r_ex hX hP 2 (pc' := 8) (st' := [(0, event), (2, this)]) (lo' := [(0, (2, this)), (1, (0, event)), (2, (0, account)), (3, (0, choice)), (4, (0, day)), (5, (0, known))]) rfl ?_
  refine r_putFI hX hP rfl rfl fq_X5_7_151 hS (by first | decide | omega) (by first | decide | omega) (fun h11 => ?_)
  refine r_ex hX hP 2 (pc' := 13) (st' := [(0, account), (2, this)]) (lo' := [(0, (2, this)), (1, (0, event)), (2, (0, account)), (3, (0, choice)), (4, (0, day)), (5, (0, known))]) rfl ?_
  refine r_putFI hX hP rfl rfl fq_X5_13_151 hS (by first | decide | omega) (by first | decide | omega) (fun h12 => ?_)
  refine r_ex hX hP 2 (pc' := 18) (st' := [(0, choice), (2, this)]) (lo' := [(0, (2, this)), (1, (0, event)), (2, (0, account)), (3, (0, choice)), (4, (0, day)), (5, (0, known))]) rfl ?_
  refine r_putFI hX hP rfl rfl fq_X5_16_151 hS (by first | decide | omega) (by first | decide | omega) (fun h13 => ?_)
  refine r_ex hX hP 2 (pc' := 24) (st' := [(0, day), (2, this)]) (lo' := [(0, (2, this)), (1, (0, event)), (2, (0, account)), (3, (0, choice)), (4, (0, day)), (5, (0, known))]) rfl ?_
  refine r_putFI hX hP rfl rfl fq_X5_19_151 hS (by first | decide | omega) (by first | decide | omega) (fun h14 => ?_)
  exact r_retV hX hP rfl rfl (by first | decide | omega) (by first | decide | omega) ⟨rfl, ⟨_, (hw_up (hw_up (hw_up (hw_up (hw_sub (hw_refl _ _) rfl) rfl) rfl) rfl) rfl).symm⟩, rfl, known, e9, (-1), e10, event, h11, account, h12, choice, h13, day, h14, (by first | decide | omega), (by first | decide | omega), (by first | decide | omega), (by first | decide | omega), (by first | decide | omega), (by first | decide | omega)⟩
set_option maxRecDepth 100000 in
set_option maxHeartbeats 4000000 in
theorem c_hasTrdX (E : En) (S : Sg) (G : Gh) (this : Int) (trade : Int) (hS : S this = 128) (ls_ : Int) (ls__e : ls_ = G 128 this 7) (ls__s : S ls_ = 155) (sz : Int) (sz_e : sz = G 155 ls_ 2) (trade_a : (-2147483648) ≤ trade) (trade_b : trade ≤ 2147483647) : Calls E mX11_hasTrade [(2, this), (0, trade)] S G 1 0 0 (fun r S' G' => S = S' ∧ G = G' ∧ ∃ z : Int, r = some (0, z) ∧ ((z = 1 ∧ 0 ≤ trade ∧ trade + 1 ≤ sz) ∨ (z = 0 ∧ (trade < 0 ∨ sz ≤ trade)))) := by
  refine calls_by [(0, (2, this)), (1, (0, trade))] rfl rfl (Nat.le_of_ble_eq_true rfl) (fun X hX => ?_)
  have hP := hPX11_hasTrade
  refine r_peekI hX (tl_155 2 rfl (by decide)) ls__s (fun sz_o sz_oe sz_oa sz_ob => ?_)
  obtain rfl : sz = sz_o := sz_e.trans sz_oe.symm
  refine r_ex hX hP 3 (pc' := 3) (st' := [(2, this), (0, 0), (0, trade)]) (lo' := [(0, (2, this)), (1, (0, trade))]) rfl ?_
  refine r_getKR hX hP rfl fl_X11_33_128 hS (x := ls_) ls__e ?_
  refine r_callV gd hX hP rfl cv_X11_125_155 ls__s (d' := 0) (mc' := 0) (ms' := 0) (as' := []) (st := [(0, 0), (0, trade)]) (by first | decide | omega) (by first | decide | omega) (by first | decide | omega) rfl rfl (Nat.le_of_ble_eq_true rfl) (c_size_Ltr E S G ls_  ls__s sz sz_e) ?_
  rintro _ _ _ ⟨rfl, rfl, z1, rfl, z1a, z1b, f2⟩
  refine r_ex hX hP 2 (pc' := 11) (st' := [(0, (z1 - 1)), (0, 0), (0, trade)]) (lo' := [(0, (2, this)), (1, (0, trade))]) rfl ?_
  refine r_callS gd hX hP rfl cs_X11_103 (d' := 0) (mc' := 0) (ms' := 0) (as' := [(0, trade), (0, 0), (0, (z1 - 1))]) (st := []) (by first | decide | omega) (by first | decide | omega) (by first | decide | omega) rfl rfl (Nat.le_of_ble_eq_true rfl) (c_X11_within E S G trade 0 (z1 - 1) (by first | decide | omega) (by first | decide | omega) (by first | decide | omega) (by first | decide | omega) (by first | decide | omega) (by first | decide | omega)) ?_
  rintro _ _ _ ⟨rfl, rfl, z3, rfl, (⟨rfl, f4, f5⟩ | ⟨rfl, f6⟩)⟩
  · skip
    exact r_retZ hX hP rfl rfl (by first | decide | omega) (by first | decide | omega) (by first | decide | omega) (by first | decide | omega) ⟨rfl, rfl, 1, rfl, (by first | decide | omega)⟩
  · skip
    exact r_retZ hX hP rfl rfl (by first | decide | omega) (by first | decide | omega) (by first | decide | omega) (by first | decide | omega) ⟨rfl, rfl, 0, rfl, (by first | decide | omega)⟩
set_option maxRecDepth 100000 in
set_option maxHeartbeats 4000000 in
theorem c_hasEvtX (E : En) (S : Sg) (G : Gh) (this : Int) (event : Int) (hS : S this = 128) (ls_ : Int) (ls__e : ls_ = G 128 this 8) (ls__s : S ls_ = 156) (sz : Int) (sz_e : sz = G 156 ls_ 2) (event_a : (-2147483648) ≤ event) (event_b : event ≤ 2147483647) : Calls E mX11_hasEvent [(2, this), (0, event)] S G 1 0 0 (fun r S' G' => S = S' ∧ G = G' ∧ ∃ z : Int, r = some (0, z) ∧ ((z = 1 ∧ 0 ≤ event ∧ event + 1 ≤ sz) ∨ (z = 0 ∧ (event < 0 ∨ sz ≤ event)))) := by
  refine calls_by [(0, (2, this)), (1, (0, event))] rfl rfl (Nat.le_of_ble_eq_true rfl) (fun X hX => ?_)
  have hP := hPX11_hasEvent
  refine r_peekI hX (tl_156 2 rfl (by decide)) ls__s (fun sz_o sz_oe sz_oa sz_ob => ?_)
  obtain rfl : sz = sz_o := sz_e.trans sz_oe.symm
  refine r_ex hX hP 3 (pc' := 3) (st' := [(2, this), (0, 0), (0, event)]) (lo' := [(0, (2, this)), (1, (0, event))]) rfl ?_
  refine r_getKR hX hP rfl fl_X11_37_128 hS (x := ls_) ls__e ?_
  refine r_callV gd hX hP rfl cv_X11_125_156 ls__s (d' := 0) (mc' := 0) (ms' := 0) (as' := []) (st := [(0, 0), (0, event)]) (by first | decide | omega) (by first | decide | omega) (by first | decide | omega) rfl rfl (Nat.le_of_ble_eq_true rfl) (c_size_Lev E S G ls_  ls__s sz sz_e) ?_
  rintro _ _ _ ⟨rfl, rfl, z1, rfl, z1a, z1b, f2⟩
  refine r_ex hX hP 2 (pc' := 11) (st' := [(0, (z1 - 1)), (0, 0), (0, event)]) (lo' := [(0, (2, this)), (1, (0, event))]) rfl ?_
  refine r_callS gd hX hP rfl cs_X11_103 (d' := 0) (mc' := 0) (ms' := 0) (as' := [(0, event), (0, 0), (0, (z1 - 1))]) (st := []) (by first | decide | omega) (by first | decide | omega) (by first | decide | omega) rfl rfl (Nat.le_of_ble_eq_true rfl) (c_X11_within E S G event 0 (z1 - 1) (by first | decide | omega) (by first | decide | omega) (by first | decide | omega) (by first | decide | omega) (by first | decide | omega) (by first | decide | omega)) ?_
  rintro _ _ _ ⟨rfl, rfl, z3, rfl, (⟨rfl, f4, f5⟩ | ⟨rfl, f6⟩)⟩
  · skip
    exact r_retZ hX hP rfl rfl (by first | decide | omega) (by first | decide | omega) (by first | decide | omega) (by first | decide | omega) ⟨rfl, rfl, 1, rfl, (by first | decide | omega)⟩
  · skip
    exact r_retZ hX hP rfl rfl (by first | decide | omega) (by first | decide | omega) (by first | decide | omega) (by first | decide | omega) ⟨rfl, rfl, 0, rfl, (by first | decide | omega)⟩
set_option maxRecDepth 100000 in
set_option maxHeartbeats 4000000 in
theorem c_hasPckX (E : En) (S : Sg) (G : Gh) (this : Int) (pick : Int) (hS : S this = 128) (ls_ : Int) (ls__e : ls_ = G 128 this 9) (ls__s : S ls_ = 157) (sz : Int) (sz_e : sz = G 157 ls_ 2) (pick_a : (-2147483648) ≤ pick) (pick_b : pick ≤ 2147483647) : Calls E mX11_hasPick [(2, this), (0, pick)] S G 1 0 0 (fun r S' G' => S = S' ∧ G = G' ∧ ∃ z : Int, r = some (0, z) ∧ ((z = 1 ∧ 0 ≤ pick ∧ pick + 1 ≤ sz) ∨ (z = 0 ∧ (pick < 0 ∨ sz ≤ pick)))) := by
  refine calls_by [(0, (2, this)), (1, (0, pick))] rfl rfl (Nat.le_of_ble_eq_true rfl) (fun X hX => ?_)
  have hP := hPX11_hasPick
  refine r_peekI hX (tl_157 2 rfl (by decide)) ls__s (fun sz_o sz_oe sz_oa sz_ob => ?_)
  obtain rfl : sz = sz_o := sz_e.trans sz_oe.symm
  refine r_ex hX hP 3 (pc' := 3) (st' := [(2, this), (0, 0), (0, pick)]) (lo' := [(0, (2, this)), (1, (0, pick))]) rfl ?_
  refine r_getKR hX hP rfl fl_X11_41_128 hS (x := ls_) ls__e ?_
  refine r_callV gd hX hP rfl cv_X11_125_157 ls__s (d' := 0) (mc' := 0) (ms' := 0) (as' := []) (st := [(0, 0), (0, pick)]) (by first | decide | omega) (by first | decide | omega) (by first | decide | omega) rfl rfl (Nat.le_of_ble_eq_true rfl) (c_size_Lpi E S G ls_  ls__s sz sz_e) ?_
  rintro _ _ _ ⟨rfl, rfl, z1, rfl, z1a, z1b, f2⟩
  refine r_ex hX hP 2 (pc' := 11) (st' := [(0, (z1 - 1)), (0, 0), (0, pick)]) (lo' := [(0, (2, this)), (1, (0, pick))]) rfl ?_
  refine r_callS gd hX hP rfl cs_X11_103 (d' := 0) (mc' := 0) (ms' := 0) (as' := [(0, pick), (0, 0), (0, (z1 - 1))]) (st := []) (by first | decide | omega) (by first | decide | omega) (by first | decide | omega) rfl rfl (Nat.le_of_ble_eq_true rfl) (c_X11_within E S G pick 0 (z1 - 1) (by first | decide | omega) (by first | decide | omega) (by first | decide | omega) (by first | decide | omega) (by first | decide | omega) (by first | decide | omega)) ?_
  rintro _ _ _ ⟨rfl, rfl, z3, rfl, (⟨rfl, f4, f5⟩ | ⟨rfl, f6⟩)⟩
  · skip
    exact r_retZ hX hP rfl rfl (by first | decide | omega) (by first | decide | omega) (by first | decide | omega) (by first | decide | omega) ⟨rfl, rfl, 1, rfl, (by first | decide | omega)⟩
  · skip
    exact r_retZ hX hP rfl rfl (by first | decide | omega) (by first | decide | omega) (by first | decide | omega) (by first | decide | omega) ⟨rfl, rfl, 0, rfl, (by first | decide | omega)⟩
set_option maxRecDepth 100000 in
set_option maxHeartbeats 4000000 in
theorem c_X11_tradeT (E : En) (S : Sg) (G : Gh) (this : Int) (frm : Int) (to_ : Int) (paper : Int) (shares : Int) (dealt : Int) (settled : Int) (known : Int) (hS : S this = 128) (acc : Int) (acc_e : acc = G 128 this 5) (acc_s : S acc = 130) (cnt : Int) (cnt_e : cnt = G 130 acc 0) (tr : Int) (tr_e : tr = G 128 this 7) (tr_s : S tr = 155) (trn : Int) (trn_e : trn = G 155 tr 2) (la : Int) (la_e : la = G 128 this 1) (frm_a : (-2147483648) ≤ frm) (frm_b : frm ≤ 2147483647) (to__a : (-2147483648) ≤ to_) (to__b : to_ ≤ 2147483647) (paper_a : (-2147483648) ≤ paper) (paper_b : paper ≤ 2147483647) (shares_a : (-2147483648) ≤ shares) (shares_b : shares ≤ 2147483647) (dealt_a : (-2147483648) ≤ dealt) (dealt_b : dealt ≤ 2147483647) (settled_a : (-2147483648) ≤ settled) (settled_b : settled ≤ 2147483647) (known_a : (-2147483648) ≤ known) (known_b : known ≤ 2147483647) (ci : CI E S G) : Calls E mX11_trade [(2, this), (0, frm), (0, to_), (0, paper), (0, shares), (0, dealt), (0, settled), (0, known)] S G 15 2 82 (fun r S' G' => Gr [140, 152, 160, 161, 162, 163, 164, 165, 166, 167, 168, 169, 170, 171, 172, 173, 174, 175, 176, 177, 178, 179, 180, 181, 182, 183, 184, 185] [(128, 0), (128, 1), (129, 1), (152, 0), (152, 1), (152, 2), (152, 3), (152, 4), (152, 5), (152, 6), (152, 7), (155, 0), (155, 1), (155, 2), (165, -1), (166, -1), (167, -1), (168, -1), (169, -1)] S G S' G' ∧ ∃ z : Int, r = some (0, z) ∧ ∃ s2 : Int, s2 = G' 155 tr 2 ∧ ∃ l2 : Int, l2 = G' 128 this 1 ∧ (-2147483648) ≤ z ∧ z ≤ 2147483647 ∧ ((0 ≤ frm ∧ frm < cnt ∧ 0 ≤ to_ ∧ to_ < cnt ∧ frm ≠ to_ ∧ 0 ≤ paper ∧ paper ≤ 19 ∧ 1 ≤ shares ∧ shares ≤ 1000000 ∧ 0 ≤ dealt ∧ dealt ≤ 40000 ∧ 0 ≤ settled ∧ settled ≤ 40000 ∧ dealt ≤ settled ∧ 0 ≤ known ∧ known ≤ 40000 ∧ trn < 40 ∧ la ≤ known ∧ z = trn ∧ s2 = trn + 1 ∧ l2 = known) ∨ (z = -1 ∧ s2 = trn ∧ l2 = la ∧ ¬ (0 ≤ frm ∧ frm < cnt ∧ 0 ≤ to_ ∧ to_ < cnt ∧ frm ≠ to_ ∧ 0 ≤ paper ∧ paper ≤ 19 ∧ 1 ≤ shares ∧ shares ≤ 1000000 ∧ 0 ≤ dealt ∧ dealt ≤ 40000 ∧ 0 ≤ settled ∧ settled ≤ 40000 ∧ dealt ≤ settled ∧ 0 ≤ known ∧ known ≤ 40000 ∧ trn < 40 ∧ la ≤ known))) ∧ CI E S' G' ∧ (∀ i : Int, 0 ≤ i → i < trn → elm S' G' 155 tr i = elm S G 155 tr i) ∧ (z = -1 ∨ (S (elm S' G' 155 tr trn) = 0 ∧ S' (elm S' G' 155 tr trn) = 140 ∧ G' 140 (elm S' G' 155 tr trn) 1 = -1))) := by
  refine calls_by [(0, (2, this)), (1, (0, frm)), (2, (0, to_)), (3, (0, paper)), (4, (0, shares)), (5, (0, dealt)), (6, (0, settled)), (7, (0, known))] rfl rfl (Nat.le_of_ble_eq_true rfl) (fun X hX => ?_)
  have hP := hPX11_trade
  refine r_peekI hX (tl_130 0 rfl (by decide)) acc_s (fun cnt_o cnt_oe cnt_oa cnt_ob => ?_)
  obtain rfl : cnt = cnt_o := cnt_e.trans cnt_oe.symm
  refine r_peekI hX (tl_155 2 rfl (by decide)) tr_s (fun trn_o trn_oe trn_oa trn_ob => ?_)
  obtain rfl : trn = trn_o := trn_e.trans trn_oe.symm
  refine r_peekI hX (tl_128 1 rfl (by decide)) hS (fun la_o la_oe la_oa la_ob => ?_)
  obtain rfl : la = la_o := la_e.trans la_oe.symm
  have j35 : ∀ (l8_j35 : Int), 0 ≤ l8_j35 → l8_j35 ≤ 1 → ((l8_j35 = 1 ∧ ¬ (0 ≤ frm ∧ frm < cnt ∧ 0 ≤ to_ ∧ to_ < cnt ∧ frm ≠ to_ ∧ 0 ≤ paper ∧ paper ≤ 19)) ∨ (l8_j35 = 0 ∧ 0 ≤ frm ∧ frm < cnt ∧ 0 ≤ to_ ∧ to_ < cnt ∧ frm ≠ to_ ∧ 0 ≤ paper ∧ paper ≤ 19)) → X 0 0 35 [] [(0, (2, this)), (1, (0, frm)), (2, (0, to_)), (3, (0, paper)), (4, (0, shares)), (5, (0, dealt)), (6, (0, settled)), (7, (0, known)), (8, (0, l8_j35))] S G := by
    intro l8_j35 yj35_0 yj35_1 yj35_2
    have j84 : ∀ (l9_j84 : Int), 0 ≤ l9_j84 → l9_j84 ≤ 1 → ((l9_j84 = 1 ∧ ¬ (1 ≤ shares ∧ shares ≤ 1000000 ∧ 0 ≤ dealt ∧ dealt ≤ 40000 ∧ 0 ≤ settled ∧ settled ≤ 40000 ∧ dealt ≤ settled ∧ 0 ≤ known ∧ known ≤ 40000)) ∨ (l9_j84 = 0 ∧ 1 ≤ shares ∧ shares ≤ 1000000 ∧ 0 ≤ dealt ∧ dealt ≤ 40000 ∧ 0 ≤ settled ∧ settled ≤ 40000 ∧ dealt ≤ settled ∧ 0 ≤ known ∧ known ≤ 40000)) → X 0 0 84 [] [(0, (2, this)), (1, (0, frm)), (2, (0, to_)), (3, (0, paper)), (4, (0, shares)), (5, (0, dealt)), (6, (0, settled)), (7, (0, known)), (8, (0, l8_j35)), (9, (0, l9_j84))] S G := by
      intro l9_j84 yj84_0 yj84_1 yj84_2
      refine r_ex hX hP 4 (pc' := 90) (st' := [(2, this), (0, l9_j84), (0, l8_j35), (2, this)]) (lo' := [(0, (2, this)), (1, (0, frm)), (2, (0, to_)), (3, (0, paper)), (4, (0, shares)), (5, (0, dealt)), (6, (0, settled)), (7, (0, known)), (8, (0, l8_j35)), (9, (0, l9_j84))]) rfl ?_
      refine r_getKR hX hP rfl fl_X11_33_128 hS (x := tr) tr_e ?_
      refine r_callV gd hX hP rfl cv_X11_125_155 tr_s (d' := 0) (mc' := 0) (ms' := 0) (as' := []) (st := [(0, l9_j84), (0, l8_j35), (2, this)]) (by first | decide | omega) (by first | decide | omega) (by first | decide | omega) rfl rfl (Nat.le_of_ble_eq_true rfl) (c_size_Ltr E S G tr  tr_s trn trn_e) ?_
      rintro _ _ _ ⟨rfl, rfl, z1, rfl, z1a, z1b, f2⟩
      refine r_ex hX hP 1 (pc' := 98) (st' := [(0, 40), (0, z1), (0, l9_j84), (0, l8_j35), (2, this)]) (lo' := [(0, (2, this)), (1, (0, frm)), (2, (0, to_)), (3, (0, paper)), (4, (0, shares)), (5, (0, dealt)), (6, (0, settled)), (7, (0, known)), (8, (0, l8_j35)), (9, (0, l9_j84))]) rfl ?_
      refine r_ic_lt hX hP rfl (tgt := 105) rfl (by first | decide | omega) (by first | decide | omega) (by first | decide | omega) (by first | decide | omega) (fun c3 => ?_) (fun c3 => ?_)
      · skip
        refine r_ex hX hP 3 (pc' := 109) (st' := [(2, this), (0, known), (0, 0), (0, l9_j84), (0, l8_j35), (2, this)]) (lo' := [(0, (2, this)), (1, (0, frm)), (2, (0, to_)), (3, (0, paper)), (4, (0, shares)), (5, (0, dealt)), (6, (0, settled)), (7, (0, known)), (8, (0, l8_j35)), (9, (0, l9_j84))]) rfl ?_
        refine r_getKI hX hP rfl fl_X11_129_128 hS (x := la) la_e ?_
        refine r_ic_ge hX hP rfl (tgt := 119) rfl (by first | decide | omega) (by first | decide | omega) (by first | decide | omega) (by first | decide | omega) (fun c4 => ?_) (fun c4 => ?_)
        · skip
          refine r_ex hX hP 1 (pc' := 120) (st' := [(0, 0), (0, 0), (0, l9_j84), (0, l8_j35), (2, this)]) (lo' := [(0, (2, this)), (1, (0, frm)), (2, (0, to_)), (3, (0, paper)), (4, (0, shares)), (5, (0, dealt)), (6, (0, settled)), (7, (0, known)), (8, (0, l8_j35)), (9, (0, l9_j84))]) rfl ?_
          refine r_callS gd hX hP rfl cs_X11_112 (d' := 0) (mc' := 0) (ms' := 0) (as' := [(0, l8_j35), (0, l9_j84), (0, 0), (0, 0)]) (st := [(2, this)]) (by first | decide | omega) (by first | decide | omega) (by first | decide | omega) rfl rfl (Nat.le_of_ble_eq_true rfl) (c_X11_first E S G l8_j35 l9_j84 0 0 (by first | decide | omega) (by first | decide | omega) (by first | decide | omega) (by first | decide | omega) (by first | decide | omega) (by first | decide | omega) (by first | decide | omega) (by first | decide | omega)) ?_
          rintro _ _ _ ⟨rfl, rfl, z5, rfl, (⟨rfl, f6⟩ | ⟨rfl, f7, f8⟩ | ⟨rfl, f9, f10, f11⟩ | ⟨rfl, f12, f13, f14, f15⟩ | ⟨rfl, f16, f17, f18, f19⟩)⟩
          · skip
            refine r_callV gd hX hP rfl cv_X11_90_128 hS (d' := 0) (mc' := 0) (ms' := 0) (as' := [(0, 1)]) (st := []) (by first | decide | omega) (by first | decide | omega) (by first | decide | omega) rfl rfl (Nat.le_of_ble_eq_true rfl) (c_X11_refused E S G this 1 hS (by first | decide | omega) (by first | decide | omega)) ?_
            rintro _ _ _ ⟨rfl, ⟨G20, rfl⟩, z21, rfl, (⟨rfl, f22⟩ | ⟨rfl, f23⟩)⟩
            · skip
              refine r_if_eq hX hP rfl (tgt := 131) rfl (by first | decide | omega) (by first | decide | omega) (fun c24 => ?_) (fun c24 => ?_)
              · skip
                exfalso; omega
              · skip
                refine r_ex hX hP 1 (pc' := 130) (st' := [(0, (-1))]) (lo' := [(0, (2, this)), (1, (0, frm)), (2, (0, to_)), (3, (0, paper)), (4, (0, shares)), (5, (0, dealt)), (6, (0, settled)), (7, (0, known)), (8, (0, l8_j35)), (9, (0, l9_j84))]) rfl ?_
                have g25 : Gr [140, 152, 160, 161, 162, 163, 164, 165, 166, 167, 168, 169, 170, 171, 172, 173, 174, 175, 176, 177, 178, 179, 180, 181, 182, 183, 184, 185] [(128, 0), (128, 1), (129, 1), (152, 0), (152, 1), (152, 2), (152, 3), (152, 4), (152, 5), (152, 6), (152, 7), (155, 0), (155, 1), (155, 2), (165, -1), (166, -1), (167, -1), (168, -1), (169, -1)] S G S (hw [(128, 0)] G G20) := (gr_hw (gr_refl [140, 152, 160, 161, 162, 163, 164, 165, 166, 167, 168, 169, 170, 171, 172, 173, 174, 175, 176, 177, 178, 179, 180, 181, 182, 183, 184, 185] [(128, 0), (128, 1), (129, 1), (152, 0), (152, 1), (152, 2), (152, 3), (152, 4), (152, 5), (152, 6), (152, 7), (155, 0), (155, 1), (155, 2), (165, -1), (166, -1), (167, -1), (168, -1), (169, -1)] S G) rfl)
                have ci26 : CI E S (hw [(128, 0)] G G20) := (ci_hw ci rfl)
                exact r_retI hX hP rfl rfl (by first | decide | omega) (by first | decide | omega) ⟨g25, (-1), rfl, trn, trn_e, la, la_e, (by first | decide | omega), (by first | decide | omega), (by first | decide | omega), ci26, (fun i h0 h1 => elk_155 ci tr_s (frm_tr (frm_refl gk155 S G) (frm_hw rfl)) h0 (by rw [← trn_e]; exact h1)), (Or.inl rfl)⟩
            · skip
              exfalso; omega
          · skip
            refine r_callV gd hX hP rfl cv_X11_90_128 hS (d' := 0) (mc' := 0) (ms' := 0) (as' := [(0, 2)]) (st := []) (by first | decide | omega) (by first | decide | omega) (by first | decide | omega) rfl rfl (Nat.le_of_ble_eq_true rfl) (c_X11_refused E S G this 2 hS (by first | decide | omega) (by first | decide | omega)) ?_
            rintro _ _ _ ⟨rfl, ⟨G27, rfl⟩, z28, rfl, (⟨rfl, f29⟩ | ⟨rfl, f30⟩)⟩
            · skip
              refine r_if_eq hX hP rfl (tgt := 131) rfl (by first | decide | omega) (by first | decide | omega) (fun c31 => ?_) (fun c31 => ?_)
              · skip
                exfalso; omega
              · skip
                refine r_ex hX hP 1 (pc' := 130) (st' := [(0, (-1))]) (lo' := [(0, (2, this)), (1, (0, frm)), (2, (0, to_)), (3, (0, paper)), (4, (0, shares)), (5, (0, dealt)), (6, (0, settled)), (7, (0, known)), (8, (0, l8_j35)), (9, (0, l9_j84))]) rfl ?_
                have g32 : Gr [140, 152, 160, 161, 162, 163, 164, 165, 166, 167, 168, 169, 170, 171, 172, 173, 174, 175, 176, 177, 178, 179, 180, 181, 182, 183, 184, 185] [(128, 0), (128, 1), (129, 1), (152, 0), (152, 1), (152, 2), (152, 3), (152, 4), (152, 5), (152, 6), (152, 7), (155, 0), (155, 1), (155, 2), (165, -1), (166, -1), (167, -1), (168, -1), (169, -1)] S G S (hw [(128, 0)] G G27) := (gr_hw (gr_refl [140, 152, 160, 161, 162, 163, 164, 165, 166, 167, 168, 169, 170, 171, 172, 173, 174, 175, 176, 177, 178, 179, 180, 181, 182, 183, 184, 185] [(128, 0), (128, 1), (129, 1), (152, 0), (152, 1), (152, 2), (152, 3), (152, 4), (152, 5), (152, 6), (152, 7), (155, 0), (155, 1), (155, 2), (165, -1), (166, -1), (167, -1), (168, -1), (169, -1)] S G) rfl)
                have ci33 : CI E S (hw [(128, 0)] G G27) := (ci_hw ci rfl)
                exact r_retI hX hP rfl rfl (by first | decide | omega) (by first | decide | omega) ⟨g32, (-1), rfl, trn, trn_e, la, la_e, (by first | decide | omega), (by first | decide | omega), (by first | decide | omega), ci33, (fun i h0 h1 => elk_155 ci tr_s (frm_tr (frm_refl gk155 S G) (frm_hw rfl)) h0 (by rw [← trn_e]; exact h1)), (Or.inl rfl)⟩
            · skip
              exfalso; omega
          · skip
            exfalso; omega
          · skip
            exfalso; omega
          · skip
            refine r_callV gd hX hP rfl cv_X11_90_128 hS (d' := 0) (mc' := 0) (ms' := 0) (as' := [(0, 0)]) (st := []) (by first | decide | omega) (by first | decide | omega) (by first | decide | omega) rfl rfl (Nat.le_of_ble_eq_true rfl) (c_X11_refused E S G this 0 hS (by first | decide | omega) (by first | decide | omega)) ?_
            rintro _ _ _ ⟨rfl, ⟨G34, rfl⟩, z35, rfl, (⟨rfl, f36⟩ | ⟨rfl, f37⟩)⟩
            · skip
              exfalso; omega
            · skip
              refine r_if_eq hX hP rfl (tgt := 131) rfl (by first | decide | omega) (by first | decide | omega) (fun c38 => ?_) (fun c38 => ?_)
              · skip
                have g39 : Gr [140, 152, 160, 161, 162, 163, 164, 165, 166, 167, 168, 169, 170, 171, 172, 173, 174, 175, 176, 177, 178, 179, 180, 181, 182, 183, 184, 185] [(128, 0), (128, 1), (129, 1), (152, 0), (152, 1), (152, 2), (152, 3), (152, 4), (152, 5), (152, 6), (152, 7), (155, 0), (155, 1), (155, 2), (165, -1), (166, -1), (167, -1), (168, -1), (169, -1)] S G S (hw [(128, 0)] G G34) := (gr_hw (gr_refl [140, 152, 160, 161, 162, 163, 164, 165, 166, 167, 168, 169, 170, 171, 172, 173, 174, 175, 176, 177, 178, 179, 180, 181, 182, 183, 184, 185] [(128, 0), (128, 1), (129, 1), (152, 0), (152, 1), (152, 2), (152, 3), (152, 4), (152, 5), (152, 6), (152, 7), (155, 0), (155, 1), (155, 2), (165, -1), (166, -1), (167, -1), (168, -1), (169, -1)] S G) rfl)
                have ci40 : CI E S (hw [(128, 0)] G G34) := (ci_hw ci rfl)
                refine r_tk hX (fun tk41 => ?_)
                refine r_newA hX hP rfl (L := 152) (N := 9) nw_X11_132_152 (by first | decide | omega) (by first | decide | omega) (fun n42 S43 G44 n42z n42n n42l g45 n42v => ?_)
                have z46 : S n42 = 0 := gr_zero g39 n42z
                have s47 : S43 this = 128 := gr_lab g45 hS (by decide)
                have s48 : S43 acc = 130 := gr_lab g45 acc_s (by decide)
                have s49 : S43 tr = 155 := gr_lab g45 tr_s (by decide)
                have e50 : acc = G44 128 this 5 := gr_val g45 acc_e hS (by decide) rfl
                have e51 : cnt = G44 130 acc 0 := gr_val g45 cnt_e acc_s (by decide) rfl
                have e52 : tr = G44 128 this 7 := gr_val g45 tr_e hS (by decide) rfl
                have e53 : trn = G44 155 tr 2 := gr_val g45 trn_e tr_s (by decide) rfl
                have e54 : la = G44 128 this 1 := gr_val g45 la_e hS (by decide) rfl
                have g55 : Gr [140, 152, 160, 161, 162, 163, 164, 165, 166, 167, 168, 169, 170, 171, 172, 173, 174, 175, 176, 177, 178, 179, 180, 181, 182, 183, 184, 185] [(128, 0), (128, 1), (129, 1), (152, 0), (152, 1), (152, 2), (152, 3), (152, 4), (152, 5), (152, 6), (152, 7), (155, 0), (155, 1), (155, 2), (165, -1), (166, -1), (167, -1), (168, -1), (169, -1)] S G S43 G44 := gr_call g39 g45 rfl rfl
                have ci56 : CI E S43 G44 := ci_gr ci40 tk41 g45 rfl rfl
                refine r_ex hX hP 5 (pc' := 142) (st' := [(0, known), (0, shares), (0, settled), (0, paper), (2, n42), (2, n42)]) (lo' := [(0, (2, this)), (1, (0, frm)), (2, (0, to_)), (3, (0, paper)), (4, (0, shares)), (5, (0, dealt)), (6, (0, settled)), (7, (0, known)), (8, (0, l8_j35)), (9, (0, l9_j84))]) rfl ?_
                refine r_callI gd hX hP rfl ci_X11_134 n42n (d' := 4) (mc' := 0) (ms' := 0) (as' := [(0, paper), (0, settled), (0, shares), (0, known)]) (st := [(2, n42)]) (by first | decide | omega) (by first | decide | omega) (by first | decide | omega) rfl rfl (Nat.le_of_ble_eq_true rfl) (c_X1_initT E S43 G44 n42 paper settled shares known n42l (by first | decide | omega) (by first | decide | omega) (by first | decide | omega) (by first | decide | omega) (by first | decide | omega) (by first | decide | omega) (by first | decide | omega) (by first | decide | omega)) ?_
                rintro _ _ _ ⟨rfl, ⟨G57, rfl⟩, rfl, knh58, knh58e, sth59, sth59e, pah60, pah60e, dah61, dah61e, nuh62, nuh62e, f63, f64, f65, f66, f67⟩
                refine r_peekI hX (tl_152 0 rfl (by decide)) n42l (fun o68 o68e o68a o68b => ?_)
                obtain rfl : knh58 = o68 := knh58e.trans o68e.symm
                refine r_peekI hX (tl_152 1 rfl (by decide)) n42l (fun o69 o69e o69a o69b => ?_)
                obtain rfl : sth59 = o69 := sth59e.trans o69e.symm
                refine r_peekI hX (tl_152 2 rfl (by decide)) n42l (fun o70 o70e o70a o70b => ?_)
                obtain rfl : pah60 = o70 := pah60e.trans o70e.symm
                refine r_peekI hX (tl_152 3 rfl (by decide)) n42l (fun o71 o71e o71a o71b => ?_)
                obtain rfl : dah61 = o71 := dah61e.trans o71e.symm
                refine r_peekI hX (tl_152 4 rfl (by decide)) n42l (fun o72 o72e o72a o72b => ?_)
                obtain rfl : nuh62 = o72 := nuh62e.trans o72e.symm
                have e73 : known = (hw [(152, 0), (152, 1), (152, 2), (152, 3), (152, 4), (152, 5), (152, 6)] G44 G57) 152 n42 0 := by rw [← f63]; exact knh58e
                have e74 : ((-1) : Int) = (hw [(152, 0), (152, 1), (152, 2), (152, 3), (152, 4), (152, 5), (152, 6)] G44 G57) 152 n42 1 := by rw [← f64]; exact sth59e
                have e75 : paper = (hw [(152, 0), (152, 1), (152, 2), (152, 3), (152, 4), (152, 5), (152, 6)] G44 G57) 152 n42 2 := by rw [← f65]; exact pah60e
                have e76 : settled = (hw [(152, 0), (152, 1), (152, 2), (152, 3), (152, 4), (152, 5), (152, 6)] G44 G57) 152 n42 3 := by rw [← f66]; exact dah61e
                have e77 : shares = (hw [(152, 0), (152, 1), (152, 2), (152, 3), (152, 4), (152, 5), (152, 6)] G44 G57) 152 n42 4 := by rw [← f67]; exact nuh62e
                refine r_ex hX hP 3 (pc' := 150) (st' := [(0, frm), (2, n42)]) (lo' := [(0, (2, this)), (1, (0, frm)), (2, (0, to_)), (3, (0, paper)), (4, (0, shares)), (5, (0, dealt)), (6, (0, settled)), (7, (0, known)), (8, (0, l8_j35)), (9, (0, l9_j84)), (10, (2, n42))]) rfl ?_
                refine r_putIK hX hP rfl fp_X11_151_152 n42l (by first | decide | omega) (by first | decide | omega) (fun h78 => ?_)
                refine r_ex hX hP 2 (pc' := 156) (st' := [(0, to_), (2, n42)]) (lo' := [(0, (2, this)), (1, (0, frm)), (2, (0, to_)), (3, (0, paper)), (4, (0, shares)), (5, (0, dealt)), (6, (0, settled)), (7, (0, known)), (8, (0, l8_j35)), (9, (0, l9_j84)), (10, (2, n42))]) rfl ?_
                refine r_putIK hX hP rfl fp_X11_137_152 n42l (by first | decide | omega) (by first | decide | omega) (fun h79 => ?_)
                refine r_ex hX hP 2 (pc' := 163) (st' := [(0, dealt), (2, n42)]) (lo' := [(0, (2, this)), (1, (0, frm)), (2, (0, to_)), (3, (0, paper)), (4, (0, shares)), (5, (0, dealt)), (6, (0, settled)), (7, (0, known)), (8, (0, l8_j35)), (9, (0, l9_j84)), (10, (2, n42))]) rfl ?_
                refine r_putIK hX hP rfl fp_X11_154_152 n42l (by first | decide | omega) (by first | decide | omega) (fun h80 => ?_)
                have g81 : Gr [140, 152, 160, 161, 162, 163, 164, 165, 166, 167, 168, 169, 170, 171, 172, 173, 174, 175, 176, 177, 178, 179, 180, 181, 182, 183, 184, 185] [(128, 0), (128, 1), (129, 1), (152, 0), (152, 1), (152, 2), (152, 3), (152, 4), (152, 5), (152, 6), (152, 7), (155, 0), (155, 1), (155, 2), (165, -1), (166, -1), (167, -1), (168, -1), (169, -1)] S G S43 (up (up (up (hw [(152, 0), (152, 1), (152, 2), (152, 3), (152, 4), (152, 5), (152, 6)] G44 G57) 152 n42 5 frm) 152 n42 6 to_) 152 n42 7 dealt) := (gr_up (gr_up (gr_up (gr_hw g55 rfl) rfl) rfl) rfl)
                refine r_finA hX (L := 152) (ci := 2) (fs := fs_152) rfl n42l (by decide) (fun hr82 => ?_)
                have hf83 : Fnl E fs_140 152 S43 (up (up (up (hw [(152, 0), (152, 1), (152, 2), (152, 3), (152, 4), (152, 5), (152, 6)] G44 G57) 152 n42 5 frm) 152 n42 6 to_) 152 n42 7 dealt) n42 := by
                  intro j hj
                  rcases (by have : j < 9 := hj; omega : j = 0 ∨ j = 1 ∨ j = 2 ∨ j = 3 ∨ j = 4 ∨ j = 5 ∨ j = 6 ∨ j = 7 ∨ j = 8) with rfl | rfl | rfl | rfl | rfl | rfl | rfl | rfl | rfl
                  · exact hr82 0 (by decide)
                  · exact hr82 1 (by decide)
                  · exact hr82 2 (by decide)
                  · exact hr82 3 (by decide)
                  · exact hr82 4 (by decide)
                  · have e : frm = (up (up (up (hw [(152, 0), (152, 1), (152, 2), (152, 3), (152, 4), (152, 5), (152, 6)] G44 G57) 152 n42 5 frm) 152 n42 6 to_) 152 n42 7 dealt) 152 n42 5 := h78; show (0 : Int) ≤ (up (up (up (hw [(152, 0), (152, 1), (152, 2), (152, 3), (152, 4), (152, 5), (152, 6)] G44 G57) 152 n42 5 frm) 152 n42 6 to_) 152 n42 7 dealt) 152 n42 5 ∧ (up (up (up (hw [(152, 0), (152, 1), (152, 2), (152, 3), (152, 4), (152, 5), (152, 6)] G44 G57) 152 n42 5 frm) 152 n42 6 to_) 152 n42 7 dealt) 152 n42 5 ≤ 19; omega
                  · have e : to_ = (up (up (up (hw [(152, 0), (152, 1), (152, 2), (152, 3), (152, 4), (152, 5), (152, 6)] G44 G57) 152 n42 5 frm) 152 n42 6 to_) 152 n42 7 dealt) 152 n42 6 := h79; show (0 : Int) ≤ (up (up (up (hw [(152, 0), (152, 1), (152, 2), (152, 3), (152, 4), (152, 5), (152, 6)] G44 G57) 152 n42 5 frm) 152 n42 6 to_) 152 n42 7 dealt) 152 n42 6 ∧ (up (up (up (hw [(152, 0), (152, 1), (152, 2), (152, 3), (152, 4), (152, 5), (152, 6)] G44 G57) 152 n42 5 frm) 152 n42 6 to_) 152 n42 7 dealt) 152 n42 6 ≤ 19; omega
                  · have e : dealt = (up (up (up (hw [(152, 0), (152, 1), (152, 2), (152, 3), (152, 4), (152, 5), (152, 6)] G44 G57) 152 n42 5 frm) 152 n42 6 to_) 152 n42 7 dealt) 152 n42 7 := h80; show (0 : Int) ≤ (up (up (up (hw [(152, 0), (152, 1), (152, 2), (152, 3), (152, 4), (152, 5), (152, 6)] G44 G57) 152 n42 5 frm) 152 n42 6 to_) 152 n42 7 dealt) 152 n42 7 ∧ (up (up (up (hw [(152, 0), (152, 1), (152, 2), (152, 3), (152, 4), (152, 5), (152, 6)] G44 G57) 152 n42 5 frm) 152 n42 6 to_) 152 n42 7 dealt) 152 n42 7 ≤ 40000; omega
                  · have e : (0 : Int) ≤ (up (up (up (hw [(152, 0), (152, 1), (152, 2), (152, 3), (152, 4), (152, 5), (152, 6)] G44 G57) 152 n42 5 frm) 152 n42 6 to_) 152 n42 7 dealt) 152 n42 8 ∧ (up (up (up (hw [(152, 0), (152, 1), (152, 2), (152, 3), (152, 4), (152, 5), (152, 6)] G44 G57) 152 n42 5 frm) 152 n42 6 to_) 152 n42 7 dealt) 152 n42 8 ≤ 2147483647 := hr82 8 (by decide); show ((-2147483648) : Int) ≤ (up (up (up (hw [(152, 0), (152, 1), (152, 2), (152, 3), (152, 4), (152, 5), (152, 6)] G44 G57) 152 n42 5 frm) 152 n42 6 to_) 152 n42 7 dealt) 152 n42 8 ∧ (up (up (up (hw [(152, 0), (152, 1), (152, 2), (152, 3), (152, 4), (152, 5), (152, 6)] G44 G57) 152 n42 5 frm) 152 n42 6 to_) 152 n42 7 dealt) 152 n42 8 ≤ 2147483647; omega
                have ci84 : CI E S43 (up (up (up (hw [(152, 0), (152, 1), (152, 2), (152, 3), (152, 4), (152, 5), (152, 6)] G44 G57) 152 n42 5 frm) 152 n42 6 to_) 152 n42 7 dealt) := (ci_up (ci_up (ci_up (ci_hw ci56 rfl) rfl) rfl) rfl)
                refine r_tk hX (fun tk85 => ?_)
                refine r_relabF hX (L := 152) (L' := 140) (ci := 2) (fs := fs_152) (fs' := fs_140) rfl rfl rfl (by decide) (by decide) nf_152 (by decide) n42l hf83 (fun S87 G88 r86 => ?_)
                have s90 : S87 this = 128 := r86.lab n42l s47 (by decide)
                have s91 : S87 acc = 130 := r86.lab n42l s48 (by decide)
                have s92 : S87 tr = 155 := r86.lab n42l s49 (by decide)
                have e93 : acc = G88 128 this 5 := rs_val r86 n42l e50 s47 (by decide)
                have e94 : cnt = G88 130 acc 0 := rs_val r86 n42l e51 s48 (by decide)
                have e95 : tr = G88 128 this 7 := rs_val r86 n42l e52 s47 (by decide)
                have e96 : trn = G88 155 tr 2 := rs_val r86 n42l e53 s49 (by decide)
                have e97 : la = G88 128 this 1 := rs_val r86 n42l e54 s47 (by decide)
                have e98 : known = G88 140 n42 0 := e73.trans (r86.2.2.1 0).symm
                have e99 : (-1) = G88 140 n42 1 := e74.trans (r86.2.2.1 1).symm
                have e100 : paper = G88 140 n42 2 := e75.trans (r86.2.2.1 2).symm
                have e101 : settled = G88 140 n42 3 := e76.trans (r86.2.2.1 3).symm
                have e102 : shares = G88 140 n42 4 := e77.trans (r86.2.2.1 4).symm
                have e103 : frm = G88 140 n42 5 := h78.trans (r86.2.2.1 5).symm
                have e104 : to_ = G88 140 n42 6 := h79.trans (r86.2.2.1 6).symm
                have e105 : dealt = G88 140 n42 7 := h80.trans (r86.2.2.1 7).symm
                have g106 : Gr [140, 152, 160, 161, 162, 163, 164, 165, 166, 167, 168, 169, 170, 171, 172, 173, 174, 175, 176, 177, 178, 179, 180, 181, 182, 183, 184, 185] [(128, 0), (128, 1), (129, 1), (152, 0), (152, 1), (152, 2), (152, 3), (152, 4), (152, 5), (152, 6), (152, 7), (155, 0), (155, 1), (155, 2), (165, -1), (166, -1), (167, -1), (168, -1), (169, -1)] S G S87 G88 := gr_rs g81 r86 z46 rfl
                have ci107 : CI E S87 G88 := ci_rs ci84 tk85 r86 n42l rfl rfl (fun e => absurd e (by decide)) (fun e => absurd e (by decide))
                refine r_ex hX hP 1 (pc' := 167) (st' := [(2, this)]) (lo' := [(0, (2, this)), (1, (0, frm)), (2, (0, to_)), (3, (0, paper)), (4, (0, shares)), (5, (0, dealt)), (6, (0, settled)), (7, (0, known)), (8, (0, l8_j35)), (9, (0, l9_j84)), (10, (2, n42))]) rfl ?_
                refine r_getKR hX hP rfl fl_X11_33_128 s90 (x := tr) e95 ?_
                refine r_ex hX hP 1 (pc' := 172) (st' := [(2, n42), (2, tr)]) (lo' := [(0, (2, this)), (1, (0, frm)), (2, (0, to_)), (3, (0, paper)), (4, (0, shares)), (5, (0, dealt)), (6, (0, settled)), (7, (0, known)), (8, (0, l8_j35)), (9, (0, l9_j84)), (10, (2, n42))]) rfl ?_
                refine r_tk hX (fun tk108 => ?_)
                refine r_callV gd hX hP rfl cv_X11_143_155 s92 (d' := 14) (mc' := 1) (ms' := 49) (as' := [(2, n42)]) (st := []) (by first | decide | omega) (by first | decide | omega) (by first | decide | omega) rfl rfl (Nat.le_of_ble_eq_true rfl) (c_add_LtrT E S87 G88 tr n42 s92 r86.1 trn e96 (by first | decide | omega) ci107) ?_
                rintro _ S109 G110 ⟨g111, z112, rfl, z112a, z112b, ci113, q114, q115, q116⟩
                have s117 : S109 this = 128 := gr_lab g111 s90 (by decide)
                have s118 : S109 acc = 130 := gr_lab g111 s91 (by decide)
                have s119 : S109 tr = 155 := gr_lab g111 s92 (by decide)
                have s120 : S109 n42 = 140 := gr_lab g111 r86.1 (by decide)
                have e121 : acc = G110 128 this 5 := gr_val g111 e93 s90 (by decide) rfl
                have e122 : cnt = G110 130 acc 0 := gr_val g111 e94 s91 (by decide) rfl
                have e123 : tr = G110 128 this 7 := gr_val g111 e95 s90 (by decide) rfl
                have e124 : la = G110 128 this 1 := gr_val g111 e97 s90 (by decide) rfl
                have e125 : known = G110 140 n42 0 := gr_val g111 e98 r86.1 (by decide) rfl
                have e126 : (-1) = G110 140 n42 1 := gr_val g111 e99 r86.1 (by decide) rfl
                have e127 : paper = G110 140 n42 2 := gr_val g111 e100 r86.1 (by decide) rfl
                have e128 : settled = G110 140 n42 3 := gr_val g111 e101 r86.1 (by decide) rfl
                have e129 : shares = G110 140 n42 4 := gr_val g111 e102 r86.1 (by decide) rfl
                have e130 : frm = G110 140 n42 5 := gr_val g111 e103 r86.1 (by decide) rfl
                have e131 : to_ = G110 140 n42 6 := gr_val g111 e104 r86.1 (by decide) rfl
                have e132 : dealt = G110 140 n42 7 := gr_val g111 e105 r86.1 (by decide) rfl
                have g133 : Gr [140, 152, 160, 161, 162, 163, 164, 165, 166, 167, 168, 169, 170, 171, 172, 173, 174, 175, 176, 177, 178, 179, 180, 181, 182, 183, 184, 185] [(128, 0), (128, 1), (129, 1), (152, 0), (152, 1), (152, 2), (152, 3), (152, 4), (152, 5), (152, 6), (152, 7), (155, 0), (155, 1), (155, 2), (165, -1), (166, -1), (167, -1), (168, -1), (169, -1)] S G S109 G110 := gr_call g106 g111 rfl rfl
                refine r_ex hX hP 3 (pc' := 179) (st' := [(0, known), (2, this)]) (lo' := [(0, (2, this)), (1, (0, frm)), (2, (0, to_)), (3, (0, paper)), (4, (0, shares)), (5, (0, dealt)), (6, (0, settled)), (7, (0, known)), (8, (0, l8_j35)), (9, (0, l9_j84)), (10, (2, n42))]) rfl ?_
                refine r_callV gd hX hP rfl cv_X11_147_128 s117 (d' := 0) (mc' := 0) (ms' := 0) (as' := [(0, known)]) (st := []) (by first | decide | omega) (by first | decide | omega) (by first | decide | omega) rfl rfl (Nat.le_of_ble_eq_true rfl) (c_X11_tellT E S109 G110 this known s117 (by first | decide | omega) (by first | decide | omega)) ?_
                rintro _ _ _ ⟨rfl, ⟨G134, rfl⟩, rfl, lah135, lah135e, f136⟩
                refine r_peekI hX (tl_128 1 rfl (by decide)) s117 (fun o137 o137e o137a o137b => ?_)
                obtain rfl : lah135 = o137 := lah135e.trans o137e.symm
                refine r_ex hX hP 1 (pc' := 183) (st' := [(2, this)]) (lo' := [(0, (2, this)), (1, (0, frm)), (2, (0, to_)), (3, (0, paper)), (4, (0, shares)), (5, (0, dealt)), (6, (0, settled)), (7, (0, known)), (8, (0, l8_j35)), (9, (0, l9_j84)), (10, (2, n42))]) rfl ?_
                refine r_getKR hX hP rfl fl_X11_33_128 s117 (x := tr) e123 ?_
                refine r_peekI hX (tl_155 2 rfl (by decide)) s119 (fun sip138 sip138e sip138a sip138b => ?_)
                refine r_callV gd hX hP rfl cv_X11_125_155 s119 (d' := 0) (mc' := 0) (ms' := 0) (as' := []) (st := []) (by first | decide | omega) (by first | decide | omega) (by first | decide | omega) rfl rfl (Nat.le_of_ble_eq_true rfl) (c_size_Ltr E S109 (hw [(128, 1), (129, 1)] G110 G134) tr  s119 sip138 sip138e) ?_
                rintro _ _ _ ⟨rfl, rfl, z139, rfl, z139a, z139b, f140⟩
                refine r_ex hX hP 2 (pc' := 191) (st' := [(0, (z139 - 1))]) (lo' := [(0, (2, this)), (1, (0, frm)), (2, (0, to_)), (3, (0, paper)), (4, (0, shares)), (5, (0, dealt)), (6, (0, settled)), (7, (0, known)), (8, (0, l8_j35)), (9, (0, l9_j84)), (10, (2, n42))]) rfl ?_
                have g141 : Gr [140, 152, 160, 161, 162, 163, 164, 165, 166, 167, 168, 169, 170, 171, 172, 173, 174, 175, 176, 177, 178, 179, 180, 181, 182, 183, 184, 185] [(128, 0), (128, 1), (129, 1), (152, 0), (152, 1), (152, 2), (152, 3), (152, 4), (152, 5), (152, 6), (152, 7), (155, 0), (155, 1), (155, 2), (165, -1), (166, -1), (167, -1), (168, -1), (169, -1)] S G S109 (hw [(128, 1), (129, 1)] G110 G134) := (gr_hw g133 rfl)
                have k142 := sip138e.trans (show (hw [(128, 1), (129, 1)] G110 G134) 155 tr 2 = trn + 1 from q114)
                have ci143 : CI E S109 (hw [(128, 1), (129, 1)] G110 G134) := (ci_hw ci113 rfl)
                have el144s : G110 155 tr 2 = trn + 1 := q114
                have el144f : Frm gk155 S109 G110 S109 (hw [(128, 1), (129, 1)] G110 G134) := (frm_tr (frm_refl gk155 S109 G110) (frm_hw rfl))
                have el144o : ∀ i : Int, 0 ≤ i → i < trn → elm S109 (hw [(128, 1), (129, 1)] G110 G134) 155 tr i = elm S G 155 tr i := fun i h0 h1 => (elk_155 ci113 s119 el144f h0 (by rw [el144s]; omega)).trans ((q115 i h0 h1).trans (elk_155 ci tr_s (frm_rs (frm_up (frm_up (frm_up (frm_tr (frm_tr (frm_tr (frm_refl gk155 S G) (frm_hw rfl)) (frm_gr g45 rfl)) (frm_hw rfl)) rfl) rfl) rfl) r86 z46) h0 (by rw [← trn_e]; exact h1)))
                have el144n : elm S109 (hw [(128, 1), (129, 1)] G110 G134) 155 tr trn = n42 := (elk_155 ci113 s119 el144f (by first | decide | omega) (by rw [el144s]; omega)).trans q116
                exact r_retI hX hP rfl rfl (by first | decide | omega) (by first | decide | omega) ⟨g141, (z139 - 1), rfl, sip138, sip138e, lah135, lah135e, (by first | decide | omega), (by first | decide | omega), (by first | decide | omega), ci143, el144o, (Or.inr (by rw [el144n]; exact ⟨z46, s120, (e126.symm.trans (show (-1) = -1 from by omega))⟩))⟩
              · skip
                exfalso; omega
        · skip
          refine r_ex hX hP 2 (pc' := 120) (st' := [(0, 1), (0, 0), (0, l9_j84), (0, l8_j35), (2, this)]) (lo' := [(0, (2, this)), (1, (0, frm)), (2, (0, to_)), (3, (0, paper)), (4, (0, shares)), (5, (0, dealt)), (6, (0, settled)), (7, (0, known)), (8, (0, l8_j35)), (9, (0, l9_j84))]) rfl ?_
          refine r_callS gd hX hP rfl cs_X11_112 (d' := 0) (mc' := 0) (ms' := 0) (as' := [(0, l8_j35), (0, l9_j84), (0, 0), (0, 1)]) (st := [(2, this)]) (by first | decide | omega) (by first | decide | omega) (by first | decide | omega) rfl rfl (Nat.le_of_ble_eq_true rfl) (c_X11_first E S G l8_j35 l9_j84 0 1 (by first | decide | omega) (by first | decide | omega) (by first | decide | omega) (by first | decide | omega) (by first | decide | omega) (by first | decide | omega) (by first | decide | omega) (by first | decide | omega)) ?_
          rintro _ _ _ ⟨rfl, rfl, z145, rfl, (⟨rfl, f146⟩ | ⟨rfl, f147, f148⟩ | ⟨rfl, f149, f150, f151⟩ | ⟨rfl, f152, f153, f154, f155⟩ | ⟨rfl, f156, f157, f158, f159⟩)⟩
          · skip
            refine r_callV gd hX hP rfl cv_X11_90_128 hS (d' := 0) (mc' := 0) (ms' := 0) (as' := [(0, 1)]) (st := []) (by first | decide | omega) (by first | decide | omega) (by first | decide | omega) rfl rfl (Nat.le_of_ble_eq_true rfl) (c_X11_refused E S G this 1 hS (by first | decide | omega) (by first | decide | omega)) ?_
            rintro _ _ _ ⟨rfl, ⟨G160, rfl⟩, z161, rfl, (⟨rfl, f162⟩ | ⟨rfl, f163⟩)⟩
            · skip
              refine r_if_eq hX hP rfl (tgt := 131) rfl (by first | decide | omega) (by first | decide | omega) (fun c164 => ?_) (fun c164 => ?_)
              · skip
                exfalso; omega
              · skip
                refine r_ex hX hP 1 (pc' := 130) (st' := [(0, (-1))]) (lo' := [(0, (2, this)), (1, (0, frm)), (2, (0, to_)), (3, (0, paper)), (4, (0, shares)), (5, (0, dealt)), (6, (0, settled)), (7, (0, known)), (8, (0, l8_j35)), (9, (0, l9_j84))]) rfl ?_
                have g165 : Gr [140, 152, 160, 161, 162, 163, 164, 165, 166, 167, 168, 169, 170, 171, 172, 173, 174, 175, 176, 177, 178, 179, 180, 181, 182, 183, 184, 185] [(128, 0), (128, 1), (129, 1), (152, 0), (152, 1), (152, 2), (152, 3), (152, 4), (152, 5), (152, 6), (152, 7), (155, 0), (155, 1), (155, 2), (165, -1), (166, -1), (167, -1), (168, -1), (169, -1)] S G S (hw [(128, 0)] G G160) := (gr_hw (gr_refl [140, 152, 160, 161, 162, 163, 164, 165, 166, 167, 168, 169, 170, 171, 172, 173, 174, 175, 176, 177, 178, 179, 180, 181, 182, 183, 184, 185] [(128, 0), (128, 1), (129, 1), (152, 0), (152, 1), (152, 2), (152, 3), (152, 4), (152, 5), (152, 6), (152, 7), (155, 0), (155, 1), (155, 2), (165, -1), (166, -1), (167, -1), (168, -1), (169, -1)] S G) rfl)
                have ci166 : CI E S (hw [(128, 0)] G G160) := (ci_hw ci rfl)
                exact r_retI hX hP rfl rfl (by first | decide | omega) (by first | decide | omega) ⟨g165, (-1), rfl, trn, trn_e, la, la_e, (by first | decide | omega), (by first | decide | omega), (by first | decide | omega), ci166, (fun i h0 h1 => elk_155 ci tr_s (frm_tr (frm_refl gk155 S G) (frm_hw rfl)) h0 (by rw [← trn_e]; exact h1)), (Or.inl rfl)⟩
            · skip
              exfalso; omega
          · skip
            refine r_callV gd hX hP rfl cv_X11_90_128 hS (d' := 0) (mc' := 0) (ms' := 0) (as' := [(0, 2)]) (st := []) (by first | decide | omega) (by first | decide | omega) (by first | decide | omega) rfl rfl (Nat.le_of_ble_eq_true rfl) (c_X11_refused E S G this 2 hS (by first | decide | omega) (by first | decide | omega)) ?_
            rintro _ _ _ ⟨rfl, ⟨G167, rfl⟩, z168, rfl, (⟨rfl, f169⟩ | ⟨rfl, f170⟩)⟩
            · skip
              refine r_if_eq hX hP rfl (tgt := 131) rfl (by first | decide | omega) (by first | decide | omega) (fun c171 => ?_) (fun c171 => ?_)
              · skip
                exfalso; omega
              · skip
                refine r_ex hX hP 1 (pc' := 130) (st' := [(0, (-1))]) (lo' := [(0, (2, this)), (1, (0, frm)), (2, (0, to_)), (3, (0, paper)), (4, (0, shares)), (5, (0, dealt)), (6, (0, settled)), (7, (0, known)), (8, (0, l8_j35)), (9, (0, l9_j84))]) rfl ?_
                have g172 : Gr [140, 152, 160, 161, 162, 163, 164, 165, 166, 167, 168, 169, 170, 171, 172, 173, 174, 175, 176, 177, 178, 179, 180, 181, 182, 183, 184, 185] [(128, 0), (128, 1), (129, 1), (152, 0), (152, 1), (152, 2), (152, 3), (152, 4), (152, 5), (152, 6), (152, 7), (155, 0), (155, 1), (155, 2), (165, -1), (166, -1), (167, -1), (168, -1), (169, -1)] S G S (hw [(128, 0)] G G167) := (gr_hw (gr_refl [140, 152, 160, 161, 162, 163, 164, 165, 166, 167, 168, 169, 170, 171, 172, 173, 174, 175, 176, 177, 178, 179, 180, 181, 182, 183, 184, 185] [(128, 0), (128, 1), (129, 1), (152, 0), (152, 1), (152, 2), (152, 3), (152, 4), (152, 5), (152, 6), (152, 7), (155, 0), (155, 1), (155, 2), (165, -1), (166, -1), (167, -1), (168, -1), (169, -1)] S G) rfl)
                have ci173 : CI E S (hw [(128, 0)] G G167) := (ci_hw ci rfl)
                exact r_retI hX hP rfl rfl (by first | decide | omega) (by first | decide | omega) ⟨g172, (-1), rfl, trn, trn_e, la, la_e, (by first | decide | omega), (by first | decide | omega), (by first | decide | omega), ci173, (fun i h0 h1 => elk_155 ci tr_s (frm_tr (frm_refl gk155 S G) (frm_hw rfl)) h0 (by rw [← trn_e]; exact h1)), (Or.inl rfl)⟩
            · skip
              exfalso; omega
          · skip
            exfalso; omega
          · skip
            refine r_callV gd hX hP rfl cv_X11_90_128 hS (d' := 0) (mc' := 0) (ms' := 0) (as' := [(0, 4)]) (st := []) (by first | decide | omega) (by first | decide | omega) (by first | decide | omega) rfl rfl (Nat.le_of_ble_eq_true rfl) (c_X11_refused E S G this 4 hS (by first | decide | omega) (by first | decide | omega)) ?_
            rintro _ _ _ ⟨rfl, ⟨G174, rfl⟩, z175, rfl, (⟨rfl, f176⟩ | ⟨rfl, f177⟩)⟩
            · skip
              refine r_if_eq hX hP rfl (tgt := 131) rfl (by first | decide | omega) (by first | decide | omega) (fun c178 => ?_) (fun c178 => ?_)
              · skip
                exfalso; omega
              · skip
                refine r_ex hX hP 1 (pc' := 130) (st' := [(0, (-1))]) (lo' := [(0, (2, this)), (1, (0, frm)), (2, (0, to_)), (3, (0, paper)), (4, (0, shares)), (5, (0, dealt)), (6, (0, settled)), (7, (0, known)), (8, (0, l8_j35)), (9, (0, l9_j84))]) rfl ?_
                have g179 : Gr [140, 152, 160, 161, 162, 163, 164, 165, 166, 167, 168, 169, 170, 171, 172, 173, 174, 175, 176, 177, 178, 179, 180, 181, 182, 183, 184, 185] [(128, 0), (128, 1), (129, 1), (152, 0), (152, 1), (152, 2), (152, 3), (152, 4), (152, 5), (152, 6), (152, 7), (155, 0), (155, 1), (155, 2), (165, -1), (166, -1), (167, -1), (168, -1), (169, -1)] S G S (hw [(128, 0)] G G174) := (gr_hw (gr_refl [140, 152, 160, 161, 162, 163, 164, 165, 166, 167, 168, 169, 170, 171, 172, 173, 174, 175, 176, 177, 178, 179, 180, 181, 182, 183, 184, 185] [(128, 0), (128, 1), (129, 1), (152, 0), (152, 1), (152, 2), (152, 3), (152, 4), (152, 5), (152, 6), (152, 7), (155, 0), (155, 1), (155, 2), (165, -1), (166, -1), (167, -1), (168, -1), (169, -1)] S G) rfl)
                have ci180 : CI E S (hw [(128, 0)] G G174) := (ci_hw ci rfl)
                exact r_retI hX hP rfl rfl (by first | decide | omega) (by first | decide | omega) ⟨g179, (-1), rfl, trn, trn_e, la, la_e, (by first | decide | omega), (by first | decide | omega), (by first | decide | omega), ci180, (fun i h0 h1 => elk_155 ci tr_s (frm_tr (frm_refl gk155 S G) (frm_hw rfl)) h0 (by rw [← trn_e]; exact h1)), (Or.inl rfl)⟩
            · skip
              exfalso; omega
          · skip
            exfalso; omega
      · skip
        refine r_ex hX hP 4 (pc' := 109) (st' := [(2, this), (0, known), (0, 1), (0, l9_j84), (0, l8_j35), (2, this)]) (lo' := [(0, (2, this)), (1, (0, frm)), (2, (0, to_)), (3, (0, paper)), (4, (0, shares)), (5, (0, dealt)), (6, (0, settled)), (7, (0, known)), (8, (0, l8_j35)), (9, (0, l9_j84))]) rfl ?_
        refine r_getKI hX hP rfl fl_X11_129_128 hS (x := la) la_e ?_
        refine r_ic_ge hX hP rfl (tgt := 119) rfl (by first | decide | omega) (by first | decide | omega) (by first | decide | omega) (by first | decide | omega) (fun c181 => ?_) (fun c181 => ?_)
        · skip
          refine r_ex hX hP 1 (pc' := 120) (st' := [(0, 0), (0, 1), (0, l9_j84), (0, l8_j35), (2, this)]) (lo' := [(0, (2, this)), (1, (0, frm)), (2, (0, to_)), (3, (0, paper)), (4, (0, shares)), (5, (0, dealt)), (6, (0, settled)), (7, (0, known)), (8, (0, l8_j35)), (9, (0, l9_j84))]) rfl ?_
          refine r_callS gd hX hP rfl cs_X11_112 (d' := 0) (mc' := 0) (ms' := 0) (as' := [(0, l8_j35), (0, l9_j84), (0, 1), (0, 0)]) (st := [(2, this)]) (by first | decide | omega) (by first | decide | omega) (by first | decide | omega) rfl rfl (Nat.le_of_ble_eq_true rfl) (c_X11_first E S G l8_j35 l9_j84 1 0 (by first | decide | omega) (by first | decide | omega) (by first | decide | omega) (by first | decide | omega) (by first | decide | omega) (by first | decide | omega) (by first | decide | omega) (by first | decide | omega)) ?_
          rintro _ _ _ ⟨rfl, rfl, z182, rfl, (⟨rfl, f183⟩ | ⟨rfl, f184, f185⟩ | ⟨rfl, f186, f187, f188⟩ | ⟨rfl, f189, f190, f191, f192⟩ | ⟨rfl, f193, f194, f195, f196⟩)⟩
          · skip
            refine r_callV gd hX hP rfl cv_X11_90_128 hS (d' := 0) (mc' := 0) (ms' := 0) (as' := [(0, 1)]) (st := []) (by first | decide | omega) (by first | decide | omega) (by first | decide | omega) rfl rfl (Nat.le_of_ble_eq_true rfl) (c_X11_refused E S G this 1 hS (by first | decide | omega) (by first | decide | omega)) ?_
            rintro _ _ _ ⟨rfl, ⟨G197, rfl⟩, z198, rfl, (⟨rfl, f199⟩ | ⟨rfl, f200⟩)⟩
            · skip
              refine r_if_eq hX hP rfl (tgt := 131) rfl (by first | decide | omega) (by first | decide | omega) (fun c201 => ?_) (fun c201 => ?_)
              · skip
                exfalso; omega
              · skip
                refine r_ex hX hP 1 (pc' := 130) (st' := [(0, (-1))]) (lo' := [(0, (2, this)), (1, (0, frm)), (2, (0, to_)), (3, (0, paper)), (4, (0, shares)), (5, (0, dealt)), (6, (0, settled)), (7, (0, known)), (8, (0, l8_j35)), (9, (0, l9_j84))]) rfl ?_
                have g202 : Gr [140, 152, 160, 161, 162, 163, 164, 165, 166, 167, 168, 169, 170, 171, 172, 173, 174, 175, 176, 177, 178, 179, 180, 181, 182, 183, 184, 185] [(128, 0), (128, 1), (129, 1), (152, 0), (152, 1), (152, 2), (152, 3), (152, 4), (152, 5), (152, 6), (152, 7), (155, 0), (155, 1), (155, 2), (165, -1), (166, -1), (167, -1), (168, -1), (169, -1)] S G S (hw [(128, 0)] G G197) := (gr_hw (gr_refl [140, 152, 160, 161, 162, 163, 164, 165, 166, 167, 168, 169, 170, 171, 172, 173, 174, 175, 176, 177, 178, 179, 180, 181, 182, 183, 184, 185] [(128, 0), (128, 1), (129, 1), (152, 0), (152, 1), (152, 2), (152, 3), (152, 4), (152, 5), (152, 6), (152, 7), (155, 0), (155, 1), (155, 2), (165, -1), (166, -1), (167, -1), (168, -1), (169, -1)] S G) rfl)
                have ci203 : CI E S (hw [(128, 0)] G G197) := (ci_hw ci rfl)
                exact r_retI hX hP rfl rfl (by first | decide | omega) (by first | decide | omega) ⟨g202, (-1), rfl, trn, trn_e, la, la_e, (by first | decide | omega), (by first | decide | omega), (by first | decide | omega), ci203, (fun i h0 h1 => elk_155 ci tr_s (frm_tr (frm_refl gk155 S G) (frm_hw rfl)) h0 (by rw [← trn_e]; exact h1)), (Or.inl rfl)⟩
            · skip
              exfalso; omega
          · skip
            refine r_callV gd hX hP rfl cv_X11_90_128 hS (d' := 0) (mc' := 0) (ms' := 0) (as' := [(0, 2)]) (st := []) (by first | decide | omega) (by first | decide | omega) (by first | decide | omega) rfl rfl (Nat.le_of_ble_eq_true rfl) (c_X11_refused E S G this 2 hS (by first | decide | omega) (by first | decide | omega)) ?_
            rintro _ _ _ ⟨rfl, ⟨G204, rfl⟩, z205, rfl, (⟨rfl, f206⟩ | ⟨rfl, f207⟩)⟩
            · skip
              refine r_if_eq hX hP rfl (tgt := 131) rfl (by first | decide | omega) (by first | decide | omega) (fun c208 => ?_) (fun c208 => ?_)
              · skip
                exfalso; omega
              · skip
                refine r_ex hX hP 1 (pc' := 130) (st' := [(0, (-1))]) (lo' := [(0, (2, this)), (1, (0, frm)), (2, (0, to_)), (3, (0, paper)), (4, (0, shares)), (5, (0, dealt)), (6, (0, settled)), (7, (0, known)), (8, (0, l8_j35)), (9, (0, l9_j84))]) rfl ?_
                have g209 : Gr [140, 152, 160, 161, 162, 163, 164, 165, 166, 167, 168, 169, 170, 171, 172, 173, 174, 175, 176, 177, 178, 179, 180, 181, 182, 183, 184, 185] [(128, 0), (128, 1), (129, 1), (152, 0), (152, 1), (152, 2), (152, 3), (152, 4), (152, 5), (152, 6), (152, 7), (155, 0), (155, 1), (155, 2), (165, -1), (166, -1), (167, -1), (168, -1), (169, -1)] S G S (hw [(128, 0)] G G204) := (gr_hw (gr_refl [140, 152, 160, 161, 162, 163, 164, 165, 166, 167, 168, 169, 170, 171, 172, 173, 174, 175, 176, 177, 178, 179, 180, 181, 182, 183, 184, 185] [(128, 0), (128, 1), (129, 1), (152, 0), (152, 1), (152, 2), (152, 3), (152, 4), (152, 5), (152, 6), (152, 7), (155, 0), (155, 1), (155, 2), (165, -1), (166, -1), (167, -1), (168, -1), (169, -1)] S G) rfl)
                have ci210 : CI E S (hw [(128, 0)] G G204) := (ci_hw ci rfl)
                exact r_retI hX hP rfl rfl (by first | decide | omega) (by first | decide | omega) ⟨g209, (-1), rfl, trn, trn_e, la, la_e, (by first | decide | omega), (by first | decide | omega), (by first | decide | omega), ci210, (fun i h0 h1 => elk_155 ci tr_s (frm_tr (frm_refl gk155 S G) (frm_hw rfl)) h0 (by rw [← trn_e]; exact h1)), (Or.inl rfl)⟩
            · skip
              exfalso; omega
          · skip
            refine r_callV gd hX hP rfl cv_X11_90_128 hS (d' := 0) (mc' := 0) (ms' := 0) (as' := [(0, 3)]) (st := []) (by first | decide | omega) (by first | decide | omega) (by first | decide | omega) rfl rfl (Nat.le_of_ble_eq_true rfl) (c_X11_refused E S G this 3 hS (by first | decide | omega) (by first | decide | omega)) ?_
            rintro _ _ _ ⟨rfl, ⟨G211, rfl⟩, z212, rfl, (⟨rfl, f213⟩ | ⟨rfl, f214⟩)⟩
            · skip
              refine r_if_eq hX hP rfl (tgt := 131) rfl (by first | decide | omega) (by first | decide | omega) (fun c215 => ?_) (fun c215 => ?_)
              · skip
                exfalso; omega
              · skip
                refine r_ex hX hP 1 (pc' := 130) (st' := [(0, (-1))]) (lo' := [(0, (2, this)), (1, (0, frm)), (2, (0, to_)), (3, (0, paper)), (4, (0, shares)), (5, (0, dealt)), (6, (0, settled)), (7, (0, known)), (8, (0, l8_j35)), (9, (0, l9_j84))]) rfl ?_
                have g216 : Gr [140, 152, 160, 161, 162, 163, 164, 165, 166, 167, 168, 169, 170, 171, 172, 173, 174, 175, 176, 177, 178, 179, 180, 181, 182, 183, 184, 185] [(128, 0), (128, 1), (129, 1), (152, 0), (152, 1), (152, 2), (152, 3), (152, 4), (152, 5), (152, 6), (152, 7), (155, 0), (155, 1), (155, 2), (165, -1), (166, -1), (167, -1), (168, -1), (169, -1)] S G S (hw [(128, 0)] G G211) := (gr_hw (gr_refl [140, 152, 160, 161, 162, 163, 164, 165, 166, 167, 168, 169, 170, 171, 172, 173, 174, 175, 176, 177, 178, 179, 180, 181, 182, 183, 184, 185] [(128, 0), (128, 1), (129, 1), (152, 0), (152, 1), (152, 2), (152, 3), (152, 4), (152, 5), (152, 6), (152, 7), (155, 0), (155, 1), (155, 2), (165, -1), (166, -1), (167, -1), (168, -1), (169, -1)] S G) rfl)
                have ci217 : CI E S (hw [(128, 0)] G G211) := (ci_hw ci rfl)
                exact r_retI hX hP rfl rfl (by first | decide | omega) (by first | decide | omega) ⟨g216, (-1), rfl, trn, trn_e, la, la_e, (by first | decide | omega), (by first | decide | omega), (by first | decide | omega), ci217, (fun i h0 h1 => elk_155 ci tr_s (frm_tr (frm_refl gk155 S G) (frm_hw rfl)) h0 (by rw [← trn_e]; exact h1)), (Or.inl rfl)⟩
            · skip
              exfalso; omega
          · skip
            exfalso; omega
          · skip
            exfalso; omega
        · skip
          refine r_ex hX hP 2 (pc' := 120) (st' := [(0, 1), (0, 1), (0, l9_j84), (0, l8_j35), (2, this)]) (lo' := [(0, (2, this)), (1, (0, frm)), (2, (0, to_)), (3, (0, paper)), (4, (0, shares)), (5, (0, dealt)), (6, (0, settled)), (7, (0, known)), (8, (0, l8_j35)), (9, (0, l9_j84))]) rfl ?_
          refine r_callS gd hX hP rfl cs_X11_112 (d' := 0) (mc' := 0) (ms' := 0) (as' := [(0, l8_j35), (0, l9_j84), (0, 1), (0, 1)]) (st := [(2, this)]) (by first | decide | omega) (by first | decide | omega) (by first | decide | omega) rfl rfl (Nat.le_of_ble_eq_true rfl) (c_X11_first E S G l8_j35 l9_j84 1 1 (by first | decide | omega) (by first | decide | omega) (by first | decide | omega) (by first | decide | omega) (by first | decide | omega) (by first | decide | omega) (by first | decide | omega) (by first | decide | omega)) ?_
          rintro _ _ _ ⟨rfl, rfl, z218, rfl, (⟨rfl, f219⟩ | ⟨rfl, f220, f221⟩ | ⟨rfl, f222, f223, f224⟩ | ⟨rfl, f225, f226, f227, f228⟩ | ⟨rfl, f229, f230, f231, f232⟩)⟩
          · skip
            refine r_callV gd hX hP rfl cv_X11_90_128 hS (d' := 0) (mc' := 0) (ms' := 0) (as' := [(0, 1)]) (st := []) (by first | decide | omega) (by first | decide | omega) (by first | decide | omega) rfl rfl (Nat.le_of_ble_eq_true rfl) (c_X11_refused E S G this 1 hS (by first | decide | omega) (by first | decide | omega)) ?_
            rintro _ _ _ ⟨rfl, ⟨G233, rfl⟩, z234, rfl, (⟨rfl, f235⟩ | ⟨rfl, f236⟩)⟩
            · skip
              refine r_if_eq hX hP rfl (tgt := 131) rfl (by first | decide | omega) (by first | decide | omega) (fun c237 => ?_) (fun c237 => ?_)
              · skip
                exfalso; omega
              · skip
                refine r_ex hX hP 1 (pc' := 130) (st' := [(0, (-1))]) (lo' := [(0, (2, this)), (1, (0, frm)), (2, (0, to_)), (3, (0, paper)), (4, (0, shares)), (5, (0, dealt)), (6, (0, settled)), (7, (0, known)), (8, (0, l8_j35)), (9, (0, l9_j84))]) rfl ?_
                have g238 : Gr [140, 152, 160, 161, 162, 163, 164, 165, 166, 167, 168, 169, 170, 171, 172, 173, 174, 175, 176, 177, 178, 179, 180, 181, 182, 183, 184, 185] [(128, 0), (128, 1), (129, 1), (152, 0), (152, 1), (152, 2), (152, 3), (152, 4), (152, 5), (152, 6), (152, 7), (155, 0), (155, 1), (155, 2), (165, -1), (166, -1), (167, -1), (168, -1), (169, -1)] S G S (hw [(128, 0)] G G233) := (gr_hw (gr_refl [140, 152, 160, 161, 162, 163, 164, 165, 166, 167, 168, 169, 170, 171, 172, 173, 174, 175, 176, 177, 178, 179, 180, 181, 182, 183, 184, 185] [(128, 0), (128, 1), (129, 1), (152, 0), (152, 1), (152, 2), (152, 3), (152, 4), (152, 5), (152, 6), (152, 7), (155, 0), (155, 1), (155, 2), (165, -1), (166, -1), (167, -1), (168, -1), (169, -1)] S G) rfl)
                have ci239 : CI E S (hw [(128, 0)] G G233) := (ci_hw ci rfl)
                exact r_retI hX hP rfl rfl (by first | decide | omega) (by first | decide | omega) ⟨g238, (-1), rfl, trn, trn_e, la, la_e, (by first | decide | omega), (by first | decide | omega), (by first | decide | omega), ci239, (fun i h0 h1 => elk_155 ci tr_s (frm_tr (frm_refl gk155 S G) (frm_hw rfl)) h0 (by rw [← trn_e]; exact h1)), (Or.inl rfl)⟩
            · skip
              exfalso; omega
          · skip
            refine r_callV gd hX hP rfl cv_X11_90_128 hS (d' := 0) (mc' := 0) (ms' := 0) (as' := [(0, 2)]) (st := []) (by first | decide | omega) (by first | decide | omega) (by first | decide | omega) rfl rfl (Nat.le_of_ble_eq_true rfl) (c_X11_refused E S G this 2 hS (by first | decide | omega) (by first | decide | omega)) ?_
            rintro _ _ _ ⟨rfl, ⟨G240, rfl⟩, z241, rfl, (⟨rfl, f242⟩ | ⟨rfl, f243⟩)⟩
            · skip
              refine r_if_eq hX hP rfl (tgt := 131) rfl (by first | decide | omega) (by first | decide | omega) (fun c244 => ?_) (fun c244 => ?_)
              · skip
                exfalso; omega
              · skip
                refine r_ex hX hP 1 (pc' := 130) (st' := [(0, (-1))]) (lo' := [(0, (2, this)), (1, (0, frm)), (2, (0, to_)), (3, (0, paper)), (4, (0, shares)), (5, (0, dealt)), (6, (0, settled)), (7, (0, known)), (8, (0, l8_j35)), (9, (0, l9_j84))]) rfl ?_
                have g245 : Gr [140, 152, 160, 161, 162, 163, 164, 165, 166, 167, 168, 169, 170, 171, 172, 173, 174, 175, 176, 177, 178, 179, 180, 181, 182, 183, 184, 185] [(128, 0), (128, 1), (129, 1), (152, 0), (152, 1), (152, 2), (152, 3), (152, 4), (152, 5), (152, 6), (152, 7), (155, 0), (155, 1), (155, 2), (165, -1), (166, -1), (167, -1), (168, -1), (169, -1)] S G S (hw [(128, 0)] G G240) := (gr_hw (gr_refl [140, 152, 160, 161, 162, 163, 164, 165, 166, 167, 168, 169, 170, 171, 172, 173, 174, 175, 176, 177, 178, 179, 180, 181, 182, 183, 184, 185] [(128, 0), (128, 1), (129, 1), (152, 0), (152, 1), (152, 2), (152, 3), (152, 4), (152, 5), (152, 6), (152, 7), (155, 0), (155, 1), (155, 2), (165, -1), (166, -1), (167, -1), (168, -1), (169, -1)] S G) rfl)
                have ci246 : CI E S (hw [(128, 0)] G G240) := (ci_hw ci rfl)
                exact r_retI hX hP rfl rfl (by first | decide | omega) (by first | decide | omega) ⟨g245, (-1), rfl, trn, trn_e, la, la_e, (by first | decide | omega), (by first | decide | omega), (by first | decide | omega), ci246, (fun i h0 h1 => elk_155 ci tr_s (frm_tr (frm_refl gk155 S G) (frm_hw rfl)) h0 (by rw [← trn_e]; exact h1)), (Or.inl rfl)⟩
            · skip
              exfalso; omega
          · skip
            refine r_callV gd hX hP rfl cv_X11_90_128 hS (d' := 0) (mc' := 0) (ms' := 0) (as' := [(0, 3)]) (st := []) (by first | decide | omega) (by first | decide | omega) (by first | decide | omega) rfl rfl (Nat.le_of_ble_eq_true rfl) (c_X11_refused E S G this 3 hS (by first | decide | omega) (by first | decide | omega)) ?_
            rintro _ _ _ ⟨rfl, ⟨G247, rfl⟩, z248, rfl, (⟨rfl, f249⟩ | ⟨rfl, f250⟩)⟩
            · skip
              refine r_if_eq hX hP rfl (tgt := 131) rfl (by first | decide | omega) (by first | decide | omega) (fun c251 => ?_) (fun c251 => ?_)
              · skip
                exfalso; omega
              · skip
                refine r_ex hX hP 1 (pc' := 130) (st' := [(0, (-1))]) (lo' := [(0, (2, this)), (1, (0, frm)), (2, (0, to_)), (3, (0, paper)), (4, (0, shares)), (5, (0, dealt)), (6, (0, settled)), (7, (0, known)), (8, (0, l8_j35)), (9, (0, l9_j84))]) rfl ?_
                have g252 : Gr [140, 152, 160, 161, 162, 163, 164, 165, 166, 167, 168, 169, 170, 171, 172, 173, 174, 175, 176, 177, 178, 179, 180, 181, 182, 183, 184, 185] [(128, 0), (128, 1), (129, 1), (152, 0), (152, 1), (152, 2), (152, 3), (152, 4), (152, 5), (152, 6), (152, 7), (155, 0), (155, 1), (155, 2), (165, -1), (166, -1), (167, -1), (168, -1), (169, -1)] S G S (hw [(128, 0)] G G247) := (gr_hw (gr_refl [140, 152, 160, 161, 162, 163, 164, 165, 166, 167, 168, 169, 170, 171, 172, 173, 174, 175, 176, 177, 178, 179, 180, 181, 182, 183, 184, 185] [(128, 0), (128, 1), (129, 1), (152, 0), (152, 1), (152, 2), (152, 3), (152, 4), (152, 5), (152, 6), (152, 7), (155, 0), (155, 1), (155, 2), (165, -1), (166, -1), (167, -1), (168, -1), (169, -1)] S G) rfl)
                have ci253 : CI E S (hw [(128, 0)] G G247) := (ci_hw ci rfl)
                exact r_retI hX hP rfl rfl (by first | decide | omega) (by first | decide | omega) ⟨g252, (-1), rfl, trn, trn_e, la, la_e, (by first | decide | omega), (by first | decide | omega), (by first | decide | omega), ci253, (fun i h0 h1 => elk_155 ci tr_s (frm_tr (frm_refl gk155 S G) (frm_hw rfl)) h0 (by rw [← trn_e]; exact h1)), (Or.inl rfl)⟩
            · skip
              exfalso; omega
          · skip
            exfalso; omega
          · skip
            exfalso; omega
    refine r_ex hX hP 2 (pc' := 38) (st' := [(0, 1), (0, shares)]) (lo' := [(0, (2, this)), (1, (0, frm)), (2, (0, to_)), (3, (0, paper)), (4, (0, shares)), (5, (0, dealt)), (6, (0, settled)), (7, (0, known)), (8, (0, l8_j35))]) rfl ?_
    refine r_ldc hX hP rfl (v := 1000000) (tbg sg3 10 rfl rfl) ?_
    refine r_callS gd hX hP rfl cs_X11_103 (d' := 0) (mc' := 0) (ms' := 0) (as' := [(0, shares), (0, 1), (0, 1000000)]) (st := []) (by first | decide | omega) (by first | decide | omega) (by first | decide | omega) rfl rfl (Nat.le_of_ble_eq_true rfl) (c_X11_within E S G shares 1 1000000 (by first | decide | omega) (by first | decide | omega) (by first | decide | omega) (by first | decide | omega) (by first | decide | omega) (by first | decide | omega)) ?_
    rintro _ _ _ ⟨rfl, rfl, z254, rfl, (⟨rfl, f255, f256⟩ | ⟨rfl, f257⟩)⟩
    · skip
      refine r_if_eq hX hP rfl (tgt := 77) rfl (by first | decide | omega) (by first | decide | omega) (fun c258 => ?_) (fun c258 => ?_)
      · skip
        exfalso; omega
      · skip
        refine r_ex hX hP 1 (pc' := 48) (st' := [(0, dealt)]) (lo' := [(0, (2, this)), (1, (0, frm)), (2, (0, to_)), (3, (0, paper)), (4, (0, shares)), (5, (0, dealt)), (6, (0, settled)), (7, (0, known)), (8, (0, l8_j35))]) rfl ?_
        refine r_callS gd hX hP rfl cs_X11_86 (d' := 1) (mc' := 0) (ms' := 0) (as' := [(0, dealt)]) (st := []) (by first | decide | omega) (by first | decide | omega) (by first | decide | omega) rfl rfl (Nat.le_of_ble_eq_true rfl) (c_X11_isDay E S G dealt (by first | decide | omega) (by first | decide | omega)) ?_
        rintro _ _ _ ⟨rfl, rfl, z259, rfl, (⟨rfl, f260, f261⟩ | ⟨rfl, f262⟩)⟩
        · skip
          refine r_if_eq hX hP rfl (tgt := 77) rfl (by first | decide | omega) (by first | decide | omega) (fun c263 => ?_) (fun c263 => ?_)
          · skip
            exfalso; omega
          · skip
            refine r_ex hX hP 1 (pc' := 56) (st' := [(0, settled)]) (lo' := [(0, (2, this)), (1, (0, frm)), (2, (0, to_)), (3, (0, paper)), (4, (0, shares)), (5, (0, dealt)), (6, (0, settled)), (7, (0, known)), (8, (0, l8_j35))]) rfl ?_
            refine r_callS gd hX hP rfl cs_X11_86 (d' := 1) (mc' := 0) (ms' := 0) (as' := [(0, settled)]) (st := []) (by first | decide | omega) (by first | decide | omega) (by first | decide | omega) rfl rfl (Nat.le_of_ble_eq_true rfl) (c_X11_isDay E S G settled (by first | decide | omega) (by first | decide | omega)) ?_
            rintro _ _ _ ⟨rfl, rfl, z264, rfl, (⟨rfl, f265, f266⟩ | ⟨rfl, f267⟩)⟩
            · skip
              refine r_if_eq hX hP rfl (tgt := 77) rfl (by first | decide | omega) (by first | decide | omega) (fun c268 => ?_) (fun c268 => ?_)
              · skip
                exfalso; omega
              · skip
                refine r_ex hX hP 2 (pc' := 66) (st' := [(0, dealt), (0, settled)]) (lo' := [(0, (2, this)), (1, (0, frm)), (2, (0, to_)), (3, (0, paper)), (4, (0, shares)), (5, (0, dealt)), (6, (0, settled)), (7, (0, known)), (8, (0, l8_j35))]) rfl ?_
                refine r_ic_lt hX hP rfl (tgt := 77) rfl (by first | decide | omega) (by first | decide | omega) (by first | decide | omega) (by first | decide | omega) (fun c269 => ?_) (fun c269 => ?_)
                · skip
                  refine r_ex hX hP 3 (pc' := 84) (st' := []) (lo' := [(0, (2, this)), (1, (0, frm)), (2, (0, to_)), (3, (0, paper)), (4, (0, shares)), (5, (0, dealt)), (6, (0, settled)), (7, (0, known)), (8, (0, l8_j35)), (9, (0, 1))]) rfl ?_
                  exact j84 1 (by first | decide | omega) (by first | decide | omega) (by first | decide | omega)
                · skip
                  refine r_ex hX hP 1 (pc' := 71) (st' := [(0, known)]) (lo' := [(0, (2, this)), (1, (0, frm)), (2, (0, to_)), (3, (0, paper)), (4, (0, shares)), (5, (0, dealt)), (6, (0, settled)), (7, (0, known)), (8, (0, l8_j35))]) rfl ?_
                  refine r_callS gd hX hP rfl cs_X11_86 (d' := 1) (mc' := 0) (ms' := 0) (as' := [(0, known)]) (st := []) (by first | decide | omega) (by first | decide | omega) (by first | decide | omega) rfl rfl (Nat.le_of_ble_eq_true rfl) (c_X11_isDay E S G known (by first | decide | omega) (by first | decide | omega)) ?_
                  rintro _ _ _ ⟨rfl, rfl, z270, rfl, (⟨rfl, f271, f272⟩ | ⟨rfl, f273⟩)⟩
                  · skip
                    refine r_if_ne hX hP rfl (tgt := 81) rfl (by first | decide | omega) (by first | decide | omega) (fun c274 => ?_) (fun c274 => ?_)
                    · skip
                      refine r_ex hX hP 2 (pc' := 84) (st' := []) (lo' := [(0, (2, this)), (1, (0, frm)), (2, (0, to_)), (3, (0, paper)), (4, (0, shares)), (5, (0, dealt)), (6, (0, settled)), (7, (0, known)), (8, (0, l8_j35)), (9, (0, 0))]) rfl ?_
                      exact j84 0 (by first | decide | omega) (by first | decide | omega) (by first | decide | omega)
                    · skip
                      exfalso; omega
                  · skip
                    refine r_if_ne hX hP rfl (tgt := 81) rfl (by first | decide | omega) (by first | decide | omega) (fun c275 => ?_) (fun c275 => ?_)
                    · skip
                      exfalso; omega
                    · skip
                      refine r_ex hX hP 3 (pc' := 84) (st' := []) (lo' := [(0, (2, this)), (1, (0, frm)), (2, (0, to_)), (3, (0, paper)), (4, (0, shares)), (5, (0, dealt)), (6, (0, settled)), (7, (0, known)), (8, (0, l8_j35)), (9, (0, 1))]) rfl ?_
                      exact j84 1 (by first | decide | omega) (by first | decide | omega) (by first | decide | omega)
            · skip
              refine r_if_eq hX hP rfl (tgt := 77) rfl (by first | decide | omega) (by first | decide | omega) (fun c276 => ?_) (fun c276 => ?_)
              · skip
                refine r_ex hX hP 3 (pc' := 84) (st' := []) (lo' := [(0, (2, this)), (1, (0, frm)), (2, (0, to_)), (3, (0, paper)), (4, (0, shares)), (5, (0, dealt)), (6, (0, settled)), (7, (0, known)), (8, (0, l8_j35)), (9, (0, 1))]) rfl ?_
                exact j84 1 (by first | decide | omega) (by first | decide | omega) (by first | decide | omega)
              · skip
                exfalso; omega
        · skip
          refine r_if_eq hX hP rfl (tgt := 77) rfl (by first | decide | omega) (by first | decide | omega) (fun c277 => ?_) (fun c277 => ?_)
          · skip
            refine r_ex hX hP 3 (pc' := 84) (st' := []) (lo' := [(0, (2, this)), (1, (0, frm)), (2, (0, to_)), (3, (0, paper)), (4, (0, shares)), (5, (0, dealt)), (6, (0, settled)), (7, (0, known)), (8, (0, l8_j35)), (9, (0, 1))]) rfl ?_
            exact j84 1 (by first | decide | omega) (by first | decide | omega) (by first | decide | omega)
          · skip
            exfalso; omega
    · skip
      refine r_if_eq hX hP rfl (tgt := 77) rfl (by first | decide | omega) (by first | decide | omega) (fun c278 => ?_) (fun c278 => ?_)
      · skip
        refine r_ex hX hP 3 (pc' := 84) (st' := []) (lo' := [(0, (2, this)), (1, (0, frm)), (2, (0, to_)), (3, (0, paper)), (4, (0, shares)), (5, (0, dealt)), (6, (0, settled)), (7, (0, known)), (8, (0, l8_j35)), (9, (0, 1))]) rfl ?_
        exact j84 1 (by first | decide | omega) (by first | decide | omega) (by first | decide | omega)
      · skip
        exfalso; omega
  refine r_ex hX hP 2 (pc' := 2) (st' := [(0, frm), (2, this)]) (lo' := [(0, (2, this)), (1, (0, frm)), (2, (0, to_)), (3, (0, paper)), (4, (0, shares)), (5, (0, dealt)), (6, (0, settled)), (7, (0, known))]) rfl ?_
  refine r_callV gd hX hP rfl cv_X11_100_128 hS (d' := 1) (mc' := 0) (ms' := 0) (as' := [(0, frm)]) (st := []) (by first | decide | omega) (by first | decide | omega) (by first | decide | omega) rfl rfl (Nat.le_of_ble_eq_true rfl) (c_hasAccX E S G this frm hS acc acc_e acc_s cnt cnt_e (by first | decide | omega) (by first | decide | omega)) ?_
  rintro _ _ _ ⟨rfl, rfl, z279, rfl, (⟨rfl, f280, f281⟩ | ⟨rfl, f282⟩)⟩
  · skip
    refine r_if_eq hX hP rfl (tgt := 28) rfl (by first | decide | omega) (by first | decide | omega) (fun c283 => ?_) (fun c283 => ?_)
    · skip
      exfalso; omega
    · skip
      refine r_ex hX hP 2 (pc' := 10) (st' := [(0, to_), (2, this)]) (lo' := [(0, (2, this)), (1, (0, frm)), (2, (0, to_)), (3, (0, paper)), (4, (0, shares)), (5, (0, dealt)), (6, (0, settled)), (7, (0, known))]) rfl ?_
      refine r_callV gd hX hP rfl cv_X11_100_128 hS (d' := 1) (mc' := 0) (ms' := 0) (as' := [(0, to_)]) (st := []) (by first | decide | omega) (by first | decide | omega) (by first | decide | omega) rfl rfl (Nat.le_of_ble_eq_true rfl) (c_hasAccX E S G this to_ hS acc acc_e acc_s cnt cnt_e (by first | decide | omega) (by first | decide | omega)) ?_
      rintro _ _ _ ⟨rfl, rfl, z284, rfl, (⟨rfl, f285, f286⟩ | ⟨rfl, f287⟩)⟩
      · skip
        refine r_if_eq hX hP rfl (tgt := 28) rfl (by first | decide | omega) (by first | decide | omega) (fun c288 => ?_) (fun c288 => ?_)
        · skip
          exfalso; omega
        · skip
          refine r_ex hX hP 2 (pc' := 18) (st' := [(0, to_), (0, frm)]) (lo' := [(0, (2, this)), (1, (0, frm)), (2, (0, to_)), (3, (0, paper)), (4, (0, shares)), (5, (0, dealt)), (6, (0, settled)), (7, (0, known))]) rfl ?_
          refine r_ic_eq hX hP rfl (tgt := 28) rfl (by first | decide | omega) (by first | decide | omega) (by first | decide | omega) (by first | decide | omega) (fun c289 => ?_) (fun c289 => ?_)
          · skip
            refine r_ex hX hP 3 (pc' := 35) (st' := []) (lo' := [(0, (2, this)), (1, (0, frm)), (2, (0, to_)), (3, (0, paper)), (4, (0, shares)), (5, (0, dealt)), (6, (0, settled)), (7, (0, known)), (8, (0, 1))]) rfl ?_
            exact j35 1 (by first | decide | omega) (by first | decide | omega) (by first | decide | omega)
          · skip
            refine r_ex hX hP 1 (pc' := 22) (st' := [(0, paper)]) (lo' := [(0, (2, this)), (1, (0, frm)), (2, (0, to_)), (3, (0, paper)), (4, (0, shares)), (5, (0, dealt)), (6, (0, settled)), (7, (0, known))]) rfl ?_
            refine r_callS gd hX hP rfl cs_X11_120 (d' := 1) (mc' := 0) (ms' := 0) (as' := [(0, paper)]) (st := []) (by first | decide | omega) (by first | decide | omega) (by first | decide | omega) rfl rfl (Nat.le_of_ble_eq_true rfl) (c_isPaperX E S G paper (by first | decide | omega) (by first | decide | omega)) ?_
            rintro _ _ _ ⟨rfl, rfl, z290, rfl, (⟨rfl, f291, f292⟩ | ⟨rfl, f293⟩)⟩
            · skip
              refine r_if_ne hX hP rfl (tgt := 32) rfl (by first | decide | omega) (by first | decide | omega) (fun c294 => ?_) (fun c294 => ?_)
              · skip
                refine r_ex hX hP 2 (pc' := 35) (st' := []) (lo' := [(0, (2, this)), (1, (0, frm)), (2, (0, to_)), (3, (0, paper)), (4, (0, shares)), (5, (0, dealt)), (6, (0, settled)), (7, (0, known)), (8, (0, 0))]) rfl ?_
                exact j35 0 (by first | decide | omega) (by first | decide | omega) (by first | decide | omega)
              · skip
                exfalso; omega
            · skip
              refine r_if_ne hX hP rfl (tgt := 32) rfl (by first | decide | omega) (by first | decide | omega) (fun c295 => ?_) (fun c295 => ?_)
              · skip
                exfalso; omega
              · skip
                refine r_ex hX hP 3 (pc' := 35) (st' := []) (lo' := [(0, (2, this)), (1, (0, frm)), (2, (0, to_)), (3, (0, paper)), (4, (0, shares)), (5, (0, dealt)), (6, (0, settled)), (7, (0, known)), (8, (0, 1))]) rfl ?_
                exact j35 1 (by first | decide | omega) (by first | decide | omega) (by first | decide | omega)
      · skip
        refine r_if_eq hX hP rfl (tgt := 28) rfl (by first | decide | omega) (by first | decide | omega) (fun c296 => ?_) (fun c296 => ?_)
        · skip
          refine r_ex hX hP 3 (pc' := 35) (st' := []) (lo' := [(0, (2, this)), (1, (0, frm)), (2, (0, to_)), (3, (0, paper)), (4, (0, shares)), (5, (0, dealt)), (6, (0, settled)), (7, (0, known)), (8, (0, 1))]) rfl ?_
          exact j35 1 (by first | decide | omega) (by first | decide | omega) (by first | decide | omega)
        · skip
          exfalso; omega
  · skip
    refine r_if_eq hX hP rfl (tgt := 28) rfl (by first | decide | omega) (by first | decide | omega) (fun c297 => ?_) (fun c297 => ?_)
    · skip
      refine r_ex hX hP 3 (pc' := 35) (st' := []) (lo' := [(0, (2, this)), (1, (0, frm)), (2, (0, to_)), (3, (0, paper)), (4, (0, shares)), (5, (0, dealt)), (6, (0, settled)), (7, (0, known)), (8, (0, 1))]) rfl ?_
      exact j35 1 (by first | decide | omega) (by first | decide | omega) (by first | decide | omega)
    · skip
      exfalso; omega
