set_option maxRecDepth 100000 in
set_option maxHeartbeats 4000000 in
theorem c_X11_asofT (E : En) (S : Sg) (G : Gh) (this : Int) (day : Int) (hS : S this = 128) (run : Int) (run_e : run = G 128 this 17) (run_s : S run = 129) (a0 : Int) (a0_e : a0 = G 129 run 0) (day_a : (-2147483648) ≤ day) (day_b : day ≤ 2147483647) : Calls E mX11_asof [(2, this), (0, day)] S G 2 0 0 (fun r S' G' => S = S' ∧ (∃ G1, hw [(128, 0), (129, 0), (129, 1)] G G1 = G') ∧ ∃ z : Int, r = some (0, z) ∧ ∃ a2 : Int, a2 = G' 129 run 0 ∧ 0 ≤ z ∧ z ≤ 1 ∧ ((0 ≤ day ∧ day ≤ 40000 ∧ z = 1 ∧ a2 = day) ∨ (z = 0 ∧ a2 = a0 ∧ ¬ (0 ≤ day ∧ day ≤ 40000)))) := by
  refine calls_by [(0, (2, this)), (1, (0, day))] rfl rfl (Nat.le_of_ble_eq_true rfl) (fun X hX => ?_)
  have hP := hPX11_asof
  refine r_peekI hX (tl_129 0 rfl (by decide)) run_s (fun a0_o a0_oe a0_oa a0_ob => ?_)
  obtain rfl : a0 = a0_o := a0_e.trans a0_oe.symm
  refine r_ex hX hP 2 (pc' := 2) (st' := [(0, day), (2, this)]) (lo' := [(0, (2, this)), (1, (0, day))]) rfl ?_
  refine r_callS gd hX hP rfl cs_X11_86 (d' := 1) (mc' := 0) (ms' := 0) (as' := [(0, day)]) (st := [(2, this)]) (by first | decide | omega) (by first | decide | omega) (by first | decide | omega) rfl rfl (Nat.le_of_ble_eq_true rfl) (c_X11_isDay E S G day (by first | decide | omega) (by first | decide | omega)) ?_
  rintro _ _ _ ⟨rfl, rfl, z1, rfl, (⟨rfl, f2, f3⟩ | ⟨rfl, f4⟩)⟩
  · skip
    refine r_if_ne hX hP rfl (tgt := 12) rfl (by first | decide | omega) (by first | decide | omega) (fun c5 => ?_) (fun c5 => ?_)
    · skip
      refine r_ex hX hP 1 (pc' := 13) (st' := [(0, 0), (2, this)]) (lo' := [(0, (2, this)), (1, (0, day))]) rfl ?_
      refine r_callV gd hX hP rfl cv_X11_90_128 hS (d' := 0) (mc' := 0) (ms' := 0) (as' := [(0, 0)]) (st := []) (by first | decide | omega) (by first | decide | omega) (by first | decide | omega) rfl rfl (Nat.le_of_ble_eq_true rfl) (c_X11_refused E S G this 0 hS (by first | decide | omega) (by first | decide | omega)) ?_
      rintro _ _ _ ⟨rfl, ⟨G6, rfl⟩, z7, rfl, (⟨rfl, f8⟩ | ⟨rfl, f9⟩)⟩
      · skip
        exfalso; omega
      · skip
        refine r_if_eq hX hP rfl (tgt := 21) rfl (by first | decide | omega) (by first | decide | omega) (fun c10 => ?_) (fun c10 => ?_)
        · skip
          refine r_ex hX hP 1 (pc' := 22) (st' := [(2, this)]) (lo' := [(0, (2, this)), (1, (0, day))]) rfl ?_
          refine r_getKR hX hP rfl fl_X11_16_128 hS (x := run) run_e ?_
          refine r_ex hX hP 1 (pc' := 26) (st' := [(0, day), (2, run)]) (lo' := [(0, (2, this)), (1, (0, day))]) rfl ?_
          refine r_putIK hX hP rfl fp_X11_93_129 run_s (by first | decide | omega) (by first | decide | omega) (fun h11 => ?_)
          refine r_ex hX hP 1 (pc' := 30) (st' := [(2, this)]) (lo' := [(0, (2, this)), (1, (0, day))]) rfl ?_
          refine r_getKR hX hP rfl fl_X11_16_128 hS (x := run) run_e ?_
          refine r_ex hX hP 1 (pc' := 34) (st' := [(0, 1), (2, run)]) (lo' := [(0, (2, this)), (1, (0, day))]) rfl ?_
          refine r_putIK hX hP rfl fp_X11_96_129 run_s (by first | decide | omega) (by first | decide | omega) (fun h12 => ?_)
          refine r_ex hX hP 1 (pc' := 38) (st' := [(0, 1)]) (lo' := [(0, (2, this)), (1, (0, day))]) rfl ?_
          exact r_retZ hX hP rfl rfl (by first | decide | omega) (by first | decide | omega) (by first | decide | omega) (by first | decide | omega) ⟨rfl, ⟨_, (hw_up (hw_up (hw_sub (hw_refl _ _) rfl) rfl) rfl).symm⟩, 1, rfl, day, h11, (by first | decide | omega), (by first | decide | omega), (by first | decide | omega)⟩
        · skip
          exfalso; omega
    · skip
      exfalso; omega
  · skip
    refine r_if_ne hX hP rfl (tgt := 12) rfl (by first | decide | omega) (by first | decide | omega) (fun c13 => ?_) (fun c13 => ?_)
    · skip
      exfalso; omega
    · skip
      refine r_ex hX hP 2 (pc' := 13) (st' := [(0, 2), (2, this)]) (lo' := [(0, (2, this)), (1, (0, day))]) rfl ?_
      refine r_callV gd hX hP rfl cv_X11_90_128 hS (d' := 0) (mc' := 0) (ms' := 0) (as' := [(0, 2)]) (st := []) (by first | decide | omega) (by first | decide | omega) (by first | decide | omega) rfl rfl (Nat.le_of_ble_eq_true rfl) (c_X11_refused E S G this 2 hS (by first | decide | omega) (by first | decide | omega)) ?_
      rintro _ _ _ ⟨rfl, ⟨G14, rfl⟩, z15, rfl, (⟨rfl, f16⟩ | ⟨rfl, f17⟩)⟩
      · skip
        refine r_if_eq hX hP rfl (tgt := 21) rfl (by first | decide | omega) (by first | decide | omega) (fun c18 => ?_) (fun c18 => ?_)
        · skip
          exfalso; omega
        · skip
          refine r_ex hX hP 1 (pc' := 20) (st' := [(0, 0)]) (lo' := [(0, (2, this)), (1, (0, day))]) rfl ?_
          exact r_retZ hX hP rfl rfl (by first | decide | omega) (by first | decide | omega) (by first | decide | omega) (by first | decide | omega) ⟨rfl, ⟨_, (hw_sub (hw_refl _ _) rfl).symm⟩, 0, rfl, a0, a0_e, (by first | decide | omega), (by first | decide | omega), (by first | decide | omega)⟩
      · skip
        exfalso; omega
set_option maxRecDepth 100000 in
set_option maxHeartbeats 4000000 in
theorem c_X11_faultT (E : En) (S : Sg) (G : Gh) (this : Int) (what : Int) (hS : S this = 128) (rdr : Int) (rdr_e : rdr = G 128 this 16) (rdr_s : S rdr = 131) (f0 : Int) (f0_e : f0 = G 131 rdr 1) (p0 : Int) (p0_e : p0 = G 131 rdr 2) (what_a : (-2147483648) ≤ what) (what_b : what ≤ 2147483647) : Calls E mX11_fault [(2, this), (0, what)] S G 0 0 0 (fun r S' G' => S = S' ∧ G = G' ∧ ∃ z : Int, r = some (0, z) ∧ (-2147483648) ≤ z ∧ z ≤ 2147483647 ∧ ((what = 0 ∧ z = f0) ∨ (what = 1 ∧ z = p0) ∨ (what ≠ 0 ∧ what ≠ 1 ∧ z = -1))) := by
  refine calls_by [(0, (2, this)), (1, (0, what))] rfl rfl (Nat.le_of_ble_eq_true rfl) (fun X hX => ?_)
  have hP := hPX11_fault
  refine r_peekI hX (tl_131 1 rfl (by decide)) rdr_s (fun f0_o f0_oe f0_oa f0_ob => ?_)
  obtain rfl : f0 = f0_o := f0_e.trans f0_oe.symm
  refine r_peekI hX (tl_131 2 rfl (by decide)) rdr_s (fun p0_o p0_oe p0_oa p0_ob => ?_)
  obtain rfl : p0 = p0_o := p0_e.trans p0_oe.symm
  refine r_ex hX hP 1 (pc' := 1) (st' := [(0, what)]) (lo' := [(0, (2, this)), (1, (0, what))]) rfl ?_
  refine r_if_ne hX hP rfl (tgt := 12) rfl (by first | decide | omega) (by first | decide | omega) (fun c1 => ?_) (fun c1 => ?_)
  · skip
    refine r_ex hX hP 2 (pc' := 14) (st' := [(0, 1), (0, what)]) (lo' := [(0, (2, this)), (1, (0, what))]) rfl ?_
    refine r_ic_ne hX hP rfl (tgt := 27) rfl (by first | decide | omega) (by first | decide | omega) (by first | decide | omega) (by first | decide | omega) (fun c2 => ?_) (fun c2 => ?_)
    · skip
      refine r_ex hX hP 1 (pc' := 28) (st' := [(0, (-1))]) (lo' := [(0, (2, this)), (1, (0, what))]) rfl ?_
      exact r_retI hX hP rfl rfl (by first | decide | omega) (by first | decide | omega) ⟨rfl, rfl, (-1), rfl, (by first | decide | omega), (by first | decide | omega), (by first | decide | omega)⟩
    · skip
      refine r_ex hX hP 1 (pc' := 18) (st' := [(2, this)]) (lo' := [(0, (2, this)), (1, (0, what))]) rfl ?_
      refine r_getKR hX hP rfl fl_X11_71_128 hS (x := rdr) rdr_e ?_
      refine r_getKI hX hP rfl fl_X11_190_131 rdr_s (x := p0) p0_e ?_
      refine r_ex hX hP 1 (pc' := 28) (st' := [(0, p0)]) (lo' := [(0, (2, this)), (1, (0, what))]) rfl ?_
      exact r_retI hX hP rfl rfl (by first | decide | omega) (by first | decide | omega) ⟨rfl, rfl, p0, rfl, (by first | decide | omega), (by first | decide | omega), (by first | decide | omega)⟩
  · skip
    refine r_ex hX hP 1 (pc' := 5) (st' := [(2, this)]) (lo' := [(0, (2, this)), (1, (0, what))]) rfl ?_
    refine r_getKR hX hP rfl fl_X11_71_128 hS (x := rdr) rdr_e ?_
    refine r_getKI hX hP rfl fl_X11_187_131 rdr_s (x := f0) f0_e ?_
    exact r_retI hX hP rfl rfl (by first | decide | omega) (by first | decide | omega) ⟨rfl, rfl, f0, rfl, (by first | decide | omega), (by first | decide | omega), (by first | decide | omega)⟩
set_option maxRecDepth 100000 in
set_option maxHeartbeats 4000000 in
theorem c_X11_choicesT (E : En) (S : Sg) (G : Gh) (this : Int) (event : Int) (hS : S this = 128) (evl : Int) (evl_e : evl = G 128 this 8) (evl_s : S evl = 156) (evn : Int) (evn_e : evn = G 156 evl 2) (event_a : (-2147483648) ≤ event) (event_b : event ≤ 2147483647) (ci : CI E S G) : Calls E mX11_choices [(2, this), (0, event)] S G 3 0 0 (fun r S' G' => S = S' ∧ (∃ G1, hw [(128, 0)] G G1 = G') ∧ ∃ z : Int, r = some (0, z) ∧ (-2147483648) ≤ z ∧ z ≤ 2147483647 ∧ ((0 ≤ event ∧ event < evn ∧ z = G 136 (G 137 (elm S G 156 evl event) 3) 1) ∨ (z = -1 ∧ ¬ (0 ≤ event ∧ event < evn)))) := by
  refine calls_by [(0, (2, this)), (1, (0, event))] rfl rfl (Nat.le_of_ble_eq_true rfl) (fun X hX => ?_)
  have hP := hPX11_choices
  refine r_peekI hX (tl_156 2 rfl (by decide)) evl_s (fun evn_o evn_oe evn_oa evn_ob => ?_)
  obtain rfl : evn = evn_o := evn_e.trans evn_oe.symm
  refine r_ex hX hP 3 (pc' := 3) (st' := [(0, event), (2, this), (2, this)]) (lo' := [(0, (2, this)), (1, (0, event))]) rfl ?_
  refine r_callV gd hX hP rfl cv_X11_193_128 hS (d' := 1) (mc' := 0) (ms' := 0) (as' := [(0, event)]) (st := [(2, this)]) (by first | decide | omega) (by first | decide | omega) (by first | decide | omega) rfl rfl (Nat.le_of_ble_eq_true rfl) (c_hasEvtX E S G this event hS evl evl_e evl_s evn evn_e (by first | decide | omega) (by first | decide | omega)) ?_
  rintro _ _ _ ⟨rfl, rfl, z1, rfl, (⟨rfl, f2, f3⟩ | ⟨rfl, f4⟩)⟩
  · skip
    refine r_if_eq hX hP rfl (tgt := 13) rfl (by first | decide | omega) (by first | decide | omega) (fun c5 => ?_) (fun c5 => ?_)
    · skip
      exfalso; omega
    · skip
      refine r_ex hX hP 2 (pc' := 14) (st' := [(0, 0), (2, this)]) (lo' := [(0, (2, this)), (1, (0, event))]) rfl ?_
      refine r_callV gd hX hP rfl cv_X11_90_128 hS (d' := 0) (mc' := 0) (ms' := 0) (as' := [(0, 0)]) (st := []) (by first | decide | omega) (by first | decide | omega) (by first | decide | omega) rfl rfl (Nat.le_of_ble_eq_true rfl) (c_X11_refused E S G this 0 hS (by first | decide | omega) (by first | decide | omega)) ?_
      rintro _ _ _ ⟨rfl, ⟨G6, rfl⟩, z7, rfl, (⟨rfl, f8⟩ | ⟨rfl, f9⟩)⟩
      · skip
        exfalso; omega
      · skip
        refine r_if_eq hX hP rfl (tgt := 22) rfl (by first | decide | omega) (by first | decide | omega) (fun c10 => ?_) (fun c10 => ?_)
        · skip
          refine r_ex hX hP 1 (pc' := 23) (st' := [(2, this)]) (lo' := [(0, (2, this)), (1, (0, event))]) rfl ?_
          refine r_getKR hX hP rfl fl_X11_37_128 hS (x := evl) evl_e ?_
          refine r_ex hX hP 1 (pc' := 27) (st' := [(0, event), (2, evl)]) (lo' := [(0, (2, this)), (1, (0, event))]) rfl ?_
          have ci11 : CI E S (hw [(128, 0)] G G6) := (ci_hw ci rfl)
          refine r_callV gd hX hP rfl cv_X11_196_156 evl_s (d' := 2) (mc' := 0) (ms' := 0) (as' := [(0, event)]) (st := []) (by first | decide | omega) (by first | decide | omega) (by first | decide | omega) rfl rfl (Nat.le_of_ble_eq_true rfl) (c_get_LevT E S (hw [(128, 0)] G G6) evl event evl_s evn evn_e (by first | decide | omega) (by first | decide | omega) (by first | decide | omega) ci11) ?_
          rintro _ _ _ ⟨rfl, rfl, z12, rfl, z12s, f13⟩
          have el14 : z12 = elm S G 156 evl event := f13.trans (elk_156 ci evl_s (frm_tr (frm_refl gk156 S G) (frm_hw rfl)) (by first | decide | omega) (by first | decide | omega))
          refine r_cast hX hP rfl (tbg sg4 200 rfl rfl) ck_137_X2 z12s ?_
          refine r_getR hX hP rfl fl_X11_200_137 z12s (fun tf15 tf15e tf15s => ?_)
          refine r_getI hX hP rfl fl_X11_204_136 tf15s (fun cf16 cf16e cf16a cf16b => ?_)
          have k17 : cf16 = G 136 (G 137 (elm S G 156 evl event) 3) 1 := cf16e.trans ((congrArg (fun y : Int => G 136 y 1) (tf15e.trans (congrArg (fun y : Int => G 137 y 3) el14))))
          exact r_retI hX hP rfl rfl (by first | decide | omega) (by first | decide | omega) ⟨rfl, ⟨_, (hw_sub (hw_refl _ _) rfl).symm⟩, cf16, rfl, (by first | decide | omega), (by first | decide | omega), (by first | decide | omega)⟩
        · skip
          exfalso; omega
  · skip
    refine r_if_eq hX hP rfl (tgt := 13) rfl (by first | decide | omega) (by first | decide | omega) (fun c18 => ?_) (fun c18 => ?_)
    · skip
      refine r_ex hX hP 1 (pc' := 14) (st' := [(0, 1), (2, this)]) (lo' := [(0, (2, this)), (1, (0, event))]) rfl ?_
      refine r_callV gd hX hP rfl cv_X11_90_128 hS (d' := 0) (mc' := 0) (ms' := 0) (as' := [(0, 1)]) (st := []) (by first | decide | omega) (by first | decide | omega) (by first | decide | omega) rfl rfl (Nat.le_of_ble_eq_true rfl) (c_X11_refused E S G this 1 hS (by first | decide | omega) (by first | decide | omega)) ?_
      rintro _ _ _ ⟨rfl, ⟨G19, rfl⟩, z20, rfl, (⟨rfl, f21⟩ | ⟨rfl, f22⟩)⟩
      · skip
        refine r_if_eq hX hP rfl (tgt := 22) rfl (by first | decide | omega) (by first | decide | omega) (fun c23 => ?_) (fun c23 => ?_)
        · skip
          exfalso; omega
        · skip
          refine r_ex hX hP 1 (pc' := 21) (st' := [(0, (-1))]) (lo' := [(0, (2, this)), (1, (0, event))]) rfl ?_
          exact r_retI hX hP rfl rfl (by first | decide | omega) (by first | decide | omega) ⟨rfl, ⟨_, (hw_sub (hw_refl _ _) rfl).symm⟩, (-1), rfl, (by first | decide | omega), (by first | decide | omega), (by first | decide | omega)⟩
      · skip
        exfalso; omega
    · skip
      exfalso; omega
set_option maxRecDepth 100000 in
set_option maxHeartbeats 4000000 in
theorem c_X11_hasChoiceT (E : En) (S : Sg) (G : Gh) (this : Int) (event : Int) (choice : Int) (hS : S this = 128) (evl : Int) (evl_e : evl = G 128 this 8) (evl_s : S evl = 156) (evn : Int) (evn_e : evn = G 156 evl 2) (event_a : (-2147483648) ≤ event) (event_b : event ≤ 2147483647) (choice_a : (-2147483648) ≤ choice) (choice_b : choice ≤ 2147483647) (ci : CI E S G) : Calls E mX11_hasChoice [(2, this), (0, event), (0, choice)] S G 3 0 0 (fun r S' G' => S = S' ∧ G = G' ∧ ∃ z : Int, r = some (0, z) ∧ ((z = 1 ∧ 0 ≤ event ∧ event + 1 ≤ evn ∧ 0 ≤ choice ∧ choice < G 136 (G 137 (elm S G 156 evl event) 3) 1 ∧ choice ≤ 2) ∨ (z = 0 ∧ (event < 0 ∨ evn ≤ event ∨ choice < 0 ∨ G 136 (G 137 (elm S G 156 evl event) 3) 1 ≤ choice)))) := by
  refine calls_by [(0, (2, this)), (1, (0, event)), (2, (0, choice))] rfl rfl (Nat.le_of_ble_eq_true rfl) (fun X hX => ?_)
  have hP := hPX11_hasChoice
  refine r_peekI hX (tl_156 2 rfl (by decide)) evl_s (fun evn_o evn_oe evn_oa evn_ob => ?_)
  obtain rfl : evn = evn_o := evn_e.trans evn_oe.symm
  refine r_ex hX hP 2 (pc' := 2) (st' := [(0, event), (2, this)]) (lo' := [(0, (2, this)), (1, (0, event)), (2, (0, choice))]) rfl ?_
  refine r_callV gd hX hP rfl cv_X11_193_128 hS (d' := 1) (mc' := 0) (ms' := 0) (as' := [(0, event)]) (st := []) (by first | decide | omega) (by first | decide | omega) (by first | decide | omega) rfl rfl (Nat.le_of_ble_eq_true rfl) (c_hasEvtX E S G this event hS evl evl_e evl_s evn evn_e (by first | decide | omega) (by first | decide | omega)) ?_
  rintro _ _ _ ⟨rfl, rfl, z1, rfl, (⟨rfl, f2, f3⟩ | ⟨rfl, f4⟩)⟩
  · skip
    refine r_if_eq hX hP rfl (tgt := 39) rfl (by first | decide | omega) (by first | decide | omega) (fun c5 => ?_) (fun c5 => ?_)
    · skip
      exfalso; omega
    · skip
      refine r_ex hX hP 3 (pc' := 11) (st' := [(2, this), (0, 0), (0, choice)]) (lo' := [(0, (2, this)), (1, (0, event)), (2, (0, choice))]) rfl ?_
      refine r_getKR hX hP rfl fl_X11_37_128 hS (x := evl) evl_e ?_
      refine r_ex hX hP 1 (pc' := 15) (st' := [(0, event), (2, evl), (0, 0), (0, choice)]) (lo' := [(0, (2, this)), (1, (0, event)), (2, (0, choice))]) rfl ?_
      refine r_callV gd hX hP rfl cv_X11_196_156 evl_s (d' := 2) (mc' := 0) (ms' := 0) (as' := [(0, event)]) (st := [(0, 0), (0, choice)]) (by first | decide | omega) (by first | decide | omega) (by first | decide | omega) rfl rfl (Nat.le_of_ble_eq_true rfl) (c_get_LevT E S G evl event evl_s evn evn_e (by first | decide | omega) (by first | decide | omega) (by first | decide | omega) ci) ?_
      rintro _ _ _ ⟨rfl, rfl, z6, rfl, z6s, f7⟩
      have el8 : z6 = elm S G 156 evl event := f7.trans (elk_156 ci evl_s (frm_refl gk156 S G) (by first | decide | omega) (by first | decide | omega))
      refine r_cast hX hP rfl (tbg sg4 200 rfl rfl) ck_137_X2 z6s ?_
      refine r_getR hX hP rfl fl_X11_200_137 z6s (fun tf9 tf9e tf9s => ?_)
      refine r_getI hX hP rfl fl_X11_204_136 tf9s (fun cf10 cf10e cf10a cf10b => ?_)
      have k11 : cf10 = G 136 (G 137 (elm S G 156 evl event) 3) 1 := cf10e.trans ((congrArg (fun y : Int => G 136 y 1) (tf9e.trans (congrArg (fun y : Int => G 137 y 3) el8))))
      refine r_ex hX hP 2 (pc' := 29) (st' := [(0, (cf10 - 1)), (0, 0), (0, choice)]) (lo' := [(0, (2, this)), (1, (0, event)), (2, (0, choice))]) rfl ?_
      refine r_callS gd hX hP rfl cs_X11_103 (d' := 0) (mc' := 0) (ms' := 0) (as' := [(0, choice), (0, 0), (0, (cf10 - 1))]) (st := []) (by first | decide | omega) (by first | decide | omega) (by first | decide | omega) rfl rfl (Nat.le_of_ble_eq_true rfl) (c_X11_within E S G choice 0 (cf10 - 1) (by first | decide | omega) (by first | decide | omega) (by first | decide | omega) (by first | decide | omega) (by first | decide | omega) (by first | decide | omega)) ?_
      rintro _ _ _ ⟨rfl, rfl, z12, rfl, (⟨rfl, f13, f14⟩ | ⟨rfl, f15⟩)⟩
      · skip
        refine r_if_eq hX hP rfl (tgt := 39) rfl (by first | decide | omega) (by first | decide | omega) (fun c16 => ?_) (fun c16 => ?_)
        · skip
          exfalso; omega
        · skip
          refine r_ex hX hP 2 (pc' := 40) (st' := [(0, 1)]) (lo' := [(0, (2, this)), (1, (0, event)), (2, (0, choice))]) rfl ?_
          exact r_retZ hX hP rfl rfl (by first | decide | omega) (by first | decide | omega) (by first | decide | omega) (by first | decide | omega) ⟨rfl, rfl, 1, rfl, (by first | decide | omega)⟩
      · skip
        refine r_if_eq hX hP rfl (tgt := 39) rfl (by first | decide | omega) (by first | decide | omega) (fun c17 => ?_) (fun c17 => ?_)
        · skip
          refine r_ex hX hP 1 (pc' := 40) (st' := [(0, 0)]) (lo' := [(0, (2, this)), (1, (0, event)), (2, (0, choice))]) rfl ?_
          exact r_retZ hX hP rfl rfl (by first | decide | omega) (by first | decide | omega) (by first | decide | omega) (by first | decide | omega) ⟨rfl, rfl, 0, rfl, (by first | decide | omega)⟩
        · skip
          exfalso; omega
  · skip
    refine r_if_eq hX hP rfl (tgt := 39) rfl (by first | decide | omega) (by first | decide | omega) (fun c18 => ?_) (fun c18 => ?_)
    · skip
      refine r_ex hX hP 1 (pc' := 40) (st' := [(0, 0)]) (lo' := [(0, (2, this)), (1, (0, event)), (2, (0, choice))]) rfl ?_
      exact r_retZ hX hP rfl rfl (by first | decide | omega) (by first | decide | omega) (by first | decide | omega) (by first | decide | omega) ⟨rfl, rfl, 0, rfl, (by first | decide | omega)⟩
    · skip
      exfalso; omega
set_option maxRecDepth 100000 in
set_option maxHeartbeats 4000000 in
theorem c_X11_toldByT (E : En) (S : Sg) (G : Gh) (this : Int) (what : Int) (which : Int) (hS : S this = 128) (tr : Int) (tr_e : tr = G 128 this 7) (tr_s : S tr = 155) (trn : Int) (trn_e : trn = G 155 tr 2) (evl : Int) (evl_e : evl = G 128 this 8) (evl_s : S evl = 156) (evn : Int) (evn_e : evn = G 156 evl 2) (pi : Int) (pi_e : pi = G 128 this 9) (pi_s : S pi = 157) (pin : Int) (pin_e : pin = G 157 pi 2) (what_a : (-2147483648) ≤ what) (what_b : what ≤ 2147483647) (which_a : (-2147483648) ≤ which) (which_b : which ≤ 2147483647) (ci : CI E S G) : Calls E mX11_toldBy [(2, this), (0, what), (0, which)] S G 3 0 0 (fun r S' G' => S = S' ∧ G = G' ∧ ∃ z : Int, r = some (2, z) ∧ ((S z = 140 ∧ what = 0 ∧ 0 ≤ which ∧ which < trn ∧ z = elm S G 155 tr which) ∨ (S z = 137 ∧ what = 1 ∧ 0 ≤ which ∧ which < evn ∧ z = elm S G 156 evl which) ∨ (S z = 138 ∧ (what ≠ 0 ∧ what ≠ 1) ∧ 0 ≤ which ∧ which < pin ∧ z = elm S G 157 pi which) ∨ (z = (-1) ∧ ¬ (what = 0 ∧ 0 ≤ which ∧ which < trn) ∧ ¬ (what = 1 ∧ 0 ≤ which ∧ which < evn) ∧ ¬ (what ≠ 0 ∧ what ≠ 1 ∧ 0 ≤ which ∧ which < pin)))) := by
  refine calls_by [(0, (2, this)), (1, (0, what)), (2, (0, which))] rfl rfl (Nat.le_of_ble_eq_true rfl) (fun X hX => ?_)
  have hP := hPX11_toldBy
  refine r_peekI hX (tl_155 2 rfl (by decide)) tr_s (fun trn_o trn_oe trn_oa trn_ob => ?_)
  obtain rfl : trn = trn_o := trn_e.trans trn_oe.symm
  refine r_peekI hX (tl_156 2 rfl (by decide)) evl_s (fun evn_o evn_oe evn_oa evn_ob => ?_)
  obtain rfl : evn = evn_o := evn_e.trans evn_oe.symm
  refine r_peekI hX (tl_157 2 rfl (by decide)) pi_s (fun pin_o pin_oe pin_oa pin_ob => ?_)
  obtain rfl : pin = pin_o := pin_e.trans pin_oe.symm
  refine r_ex hX hP 1 (pc' := 1) (st' := [(0, what)]) (lo' := [(0, (2, this)), (1, (0, what)), (2, (0, which))]) rfl ?_
  refine r_if_ne hX hP rfl (tgt := 28) rfl (by first | decide | omega) (by first | decide | omega) (fun c1 => ?_) (fun c1 => ?_)
  · skip
    refine r_ex hX hP 2 (pc' := 30) (st' := [(0, 1), (0, what)]) (lo' := [(0, (2, this)), (1, (0, what)), (2, (0, which))]) rfl ?_
    refine r_ic_ne hX hP rfl (tgt := 57) rfl (by first | decide | omega) (by first | decide | omega) (by first | decide | omega) (by first | decide | omega) (fun c2 => ?_) (fun c2 => ?_)
    · skip
      refine r_ex hX hP 2 (pc' := 59) (st' := [(0, which), (2, this)]) (lo' := [(0, (2, this)), (1, (0, what)), (2, (0, which))]) rfl ?_
      refine r_callV gd hX hP rfl cv_X11_230_128 hS (d' := 1) (mc' := 0) (ms' := 0) (as' := [(0, which)]) (st := []) (by first | decide | omega) (by first | decide | omega) (by first | decide | omega) rfl rfl (Nat.le_of_ble_eq_true rfl) (c_hasPckX E S G this which hS pi pi_e pi_s pin pin_e (by first | decide | omega) (by first | decide | omega)) ?_
      rintro _ _ _ ⟨rfl, rfl, z3, rfl, (⟨rfl, f4, f5⟩ | ⟨rfl, f6⟩)⟩
      · skip
        refine r_if_eq hX hP rfl (tgt := 79) rfl (by first | decide | omega) (by first | decide | omega) (fun c7 => ?_) (fun c7 => ?_)
        · skip
          exfalso; omega
        · skip
          refine r_ex hX hP 1 (pc' := 66) (st' := [(2, this)]) (lo' := [(0, (2, this)), (1, (0, what)), (2, (0, which))]) rfl ?_
          refine r_getKR hX hP rfl fl_X11_41_128 hS (x := pi) pi_e ?_
          refine r_ex hX hP 1 (pc' := 70) (st' := [(0, which), (2, pi)]) (lo' := [(0, (2, this)), (1, (0, what)), (2, (0, which))]) rfl ?_
          refine r_callV gd hX hP rfl cv_X11_196_157 pi_s (d' := 2) (mc' := 0) (ms' := 0) (as' := [(0, which)]) (st := []) (by first | decide | omega) (by first | decide | omega) (by first | decide | omega) rfl rfl (Nat.le_of_ble_eq_true rfl) (c_get_LpiT E S G pi which pi_s pin pin_e (by first | decide | omega) (by first | decide | omega) (by first | decide | omega) ci) ?_
          rintro _ _ _ ⟨rfl, rfl, z8, rfl, z8s, f9⟩
          have el10 : z8 = elm S G 157 pi which := f9
          refine r_cast hX hP rfl (tbg sg5 63 rfl rfl) ck_138_X10 z8s ?_
          refine r_ex hX hP 1 (pc' := 80) (st' := [(2, z8)]) (lo' := [(0, (2, this)), (1, (0, what)), (2, (0, which))]) rfl ?_
          exact r_retR hX hP rfl rfl (by first | exact Or.inl ⟨_, rfl⟩ | exact Or.inr ⟨_, rfl⟩) (by first | decide | omega) (by first | decide | omega) ⟨rfl, rfl, z8, rfl, (Or.inr (Or.inr (Or.inl ⟨z8s, (by first | decide | omega), (by first | decide | omega), (by first | decide | omega), (by first | decide | omega)⟩)))⟩
      · skip
        refine r_if_eq hX hP rfl (tgt := 79) rfl (by first | decide | omega) (by first | decide | omega) (fun c11 => ?_) (fun c11 => ?_)
        · skip
          refine r_ex hX hP 1 (pc' := 80) (st' := [(2, (-1))]) (lo' := [(0, (2, this)), (1, (0, what)), (2, (0, which))]) rfl ?_
          exact r_retR hX hP rfl rfl (by first | exact Or.inl ⟨_, rfl⟩ | exact Or.inr ⟨_, rfl⟩) (by first | decide | omega) (by first | decide | omega) ⟨rfl, rfl, (-1), rfl, (Or.inr (Or.inr (Or.inr ⟨rfl, (by first | decide | omega), (by first | decide | omega), (by first | decide | omega)⟩)))⟩
        · skip
          exfalso; omega
    · skip
      refine r_ex hX hP 2 (pc' := 35) (st' := [(0, which), (2, this)]) (lo' := [(0, (2, this)), (1, (0, what)), (2, (0, which))]) rfl ?_
      refine r_callV gd hX hP rfl cv_X11_193_128 hS (d' := 1) (mc' := 0) (ms' := 0) (as' := [(0, which)]) (st := []) (by first | decide | omega) (by first | decide | omega) (by first | decide | omega) rfl rfl (Nat.le_of_ble_eq_true rfl) (c_hasEvtX E S G this which hS evl evl_e evl_s evn evn_e (by first | decide | omega) (by first | decide | omega)) ?_
      rintro _ _ _ ⟨rfl, rfl, z12, rfl, (⟨rfl, f13, f14⟩ | ⟨rfl, f15⟩)⟩
      · skip
        refine r_if_eq hX hP rfl (tgt := 55) rfl (by first | decide | omega) (by first | decide | omega) (fun c16 => ?_) (fun c16 => ?_)
        · skip
          exfalso; omega
        · skip
          refine r_ex hX hP 1 (pc' := 42) (st' := [(2, this)]) (lo' := [(0, (2, this)), (1, (0, what)), (2, (0, which))]) rfl ?_
          refine r_getKR hX hP rfl fl_X11_37_128 hS (x := evl) evl_e ?_
          refine r_ex hX hP 1 (pc' := 46) (st' := [(0, which), (2, evl)]) (lo' := [(0, (2, this)), (1, (0, what)), (2, (0, which))]) rfl ?_
          refine r_callV gd hX hP rfl cv_X11_196_156 evl_s (d' := 2) (mc' := 0) (ms' := 0) (as' := [(0, which)]) (st := []) (by first | decide | omega) (by first | decide | omega) (by first | decide | omega) rfl rfl (Nat.le_of_ble_eq_true rfl) (c_get_LevT E S G evl which evl_s evn evn_e (by first | decide | omega) (by first | decide | omega) (by first | decide | omega) ci) ?_
          rintro _ _ _ ⟨rfl, rfl, z17, rfl, z17s, f18⟩
          have el19 : z17 = elm S G 156 evl which := f18
          refine r_cast hX hP rfl (tbg sg5 63 rfl rfl) ck_137_X10 z17s ?_
          refine r_ex hX hP 1 (pc' := 56) (st' := [(2, z17)]) (lo' := [(0, (2, this)), (1, (0, what)), (2, (0, which))]) rfl ?_
          exact r_retR hX hP rfl rfl (by first | exact Or.inl ⟨_, rfl⟩ | exact Or.inr ⟨_, rfl⟩) (by first | decide | omega) (by first | decide | omega) ⟨rfl, rfl, z17, rfl, (Or.inr (Or.inl ⟨z17s, (by first | decide | omega), (by first | decide | omega), (by first | decide | omega), (by first | decide | omega)⟩))⟩
      · skip
        refine r_if_eq hX hP rfl (tgt := 55) rfl (by first | decide | omega) (by first | decide | omega) (fun c20 => ?_) (fun c20 => ?_)
        · skip
          refine r_ex hX hP 1 (pc' := 56) (st' := [(2, (-1))]) (lo' := [(0, (2, this)), (1, (0, what)), (2, (0, which))]) rfl ?_
          exact r_retR hX hP rfl rfl (by first | exact Or.inl ⟨_, rfl⟩ | exact Or.inr ⟨_, rfl⟩) (by first | decide | omega) (by first | decide | omega) ⟨rfl, rfl, (-1), rfl, (Or.inr (Or.inr (Or.inr ⟨rfl, (by first | decide | omega), (by first | decide | omega), (by first | decide | omega)⟩)))⟩
        · skip
          exfalso; omega
  · skip
    refine r_ex hX hP 2 (pc' := 6) (st' := [(0, which), (2, this)]) (lo' := [(0, (2, this)), (1, (0, what)), (2, (0, which))]) rfl ?_
    refine r_callV gd hX hP rfl cv_X11_227_128 hS (d' := 1) (mc' := 0) (ms' := 0) (as' := [(0, which)]) (st := []) (by first | decide | omega) (by first | decide | omega) (by first | decide | omega) rfl rfl (Nat.le_of_ble_eq_true rfl) (c_hasTrdX E S G this which hS tr tr_e tr_s trn trn_e (by first | decide | omega) (by first | decide | omega)) ?_
    rintro _ _ _ ⟨rfl, rfl, z21, rfl, (⟨rfl, f22, f23⟩ | ⟨rfl, f24⟩)⟩
    · skip
      refine r_if_eq hX hP rfl (tgt := 26) rfl (by first | decide | omega) (by first | decide | omega) (fun c25 => ?_) (fun c25 => ?_)
      · skip
        exfalso; omega
      · skip
        refine r_ex hX hP 1 (pc' := 13) (st' := [(2, this)]) (lo' := [(0, (2, this)), (1, (0, what)), (2, (0, which))]) rfl ?_
        refine r_getKR hX hP rfl fl_X11_33_128 hS (x := tr) tr_e ?_
        refine r_ex hX hP 1 (pc' := 17) (st' := [(0, which), (2, tr)]) (lo' := [(0, (2, this)), (1, (0, what)), (2, (0, which))]) rfl ?_
        refine r_callV gd hX hP rfl cv_X11_196_155 tr_s (d' := 2) (mc' := 0) (ms' := 0) (as' := [(0, which)]) (st := []) (by first | decide | omega) (by first | decide | omega) (by first | decide | omega) rfl rfl (Nat.le_of_ble_eq_true rfl) (c_get_LtrT E S G tr which tr_s trn trn_e (by first | decide | omega) (by first | decide | omega) (by first | decide | omega) ci) ?_
        rintro _ _ _ ⟨rfl, rfl, z26, rfl, z26s, f27⟩
        have el28 : z26 = elm S G 155 tr which := f27
        refine r_cast hX hP rfl (tbg sg5 63 rfl rfl) ck_140_X10 z26s ?_
        refine r_ex hX hP 1 (pc' := 27) (st' := [(2, z26)]) (lo' := [(0, (2, this)), (1, (0, what)), (2, (0, which))]) rfl ?_
        exact r_retR hX hP rfl rfl (by first | exact Or.inl ⟨_, rfl⟩ | exact Or.inr ⟨_, rfl⟩) (by first | decide | omega) (by first | decide | omega) ⟨rfl, rfl, z26, rfl, (Or.inl ⟨z26s, (by first | decide | omega), (by first | decide | omega), (by first | decide | omega), (by first | decide | omega)⟩)⟩
    · skip
      refine r_if_eq hX hP rfl (tgt := 26) rfl (by first | decide | omega) (by first | decide | omega) (fun c29 => ?_) (fun c29 => ?_)
      · skip
        refine r_ex hX hP 1 (pc' := 27) (st' := [(2, (-1))]) (lo' := [(0, (2, this)), (1, (0, what)), (2, (0, which))]) rfl ?_
        exact r_retR hX hP rfl rfl (by first | exact Or.inl ⟨_, rfl⟩ | exact Or.inr ⟨_, rfl⟩) (by first | decide | omega) (by first | decide | omega) ⟨rfl, rfl, (-1), rfl, (Or.inr (Or.inr (Or.inr ⟨rfl, (by first | decide | omega), (by first | decide | omega), (by first | decide | omega)⟩)))⟩
      · skip
        exfalso; omega
