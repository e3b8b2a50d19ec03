set_option maxRecDepth 100000 in
set_option maxHeartbeats 4000000 in
theorem c_isPaperX (E : En) (S : Sg) (G : Gh) (paper : Int) (paper_a : (-2147483648) ≤ paper) (paper_b : paper ≤ 2147483647) : Calls E mX11_isPaper [(0, paper)] S G 1 0 0 (fun r S' G' => S = S' ∧ G = G' ∧ ∃ z : Int, r = some (0, z) ∧ ((z = 1 ∧ 0 ≤ paper ∧ paper ≤ 19) ∨ (z = 0 ∧ (paper < 0 ∨ 19 < paper)))) := by
  refine calls_by [(0, (0, paper))] rfl rfl (Nat.le_of_ble_eq_true rfl) (fun X hX => ?_)
  have hP := hPX11_isPaper
  refine r_ex hX hP 3 (pc' := 4) (st' := [(0, 19), (0, 0), (0, paper)]) (lo' := [(0, (0, paper))]) rfl ?_
  refine r_callS gd hX hP rfl cs_X11_103 (d' := 0) (mc' := 0) (ms' := 0) (as' := [(0, paper), (0, 0), (0, 19)]) (st := []) (by omega) (by omega) (by omega) rfl rfl (Nat.le_of_ble_eq_true rfl) (c_X11_within E S G paper 0 19 (by omega) (by omega) (by omega) (by omega) (by omega) (by omega)) ?_
  rintro _ _ _ ⟨rfl, rfl, z1, rfl, (⟨rfl, f2, f3⟩ | ⟨rfl, f4⟩)⟩
  · skip
    exact r_retZ hX hP rfl rfl (by omega) (by omega) (by omega) (by omega) ⟨rfl, rfl, 1, rfl, (by omega)⟩
  · skip
    exact r_retZ hX hP rfl rfl (by omega) (by omega) (by omega) (by omega) ⟨rfl, rfl, 0, rfl, (by omega)⟩
set_option maxRecDepth 100000 in
set_option maxHeartbeats 4000000 in
theorem c_rateX (E : En) (S : Sg) (G : Gh) (this : Int) (paper : Int) (pennies : Int) (hS : S this = 128) (paper_a : (-2147483648) ≤ paper) (paper_b : paper ≤ 2147483647) (pennies_a : (-2147483648) ≤ pennies) (pennies_b : pennies ≤ 2147483647) : Calls E mX11_rate [(2, this), (0, paper), (0, pennies)] S G 2 0 0 (fun r S' G' => S = S' ∧ (∃ G1, hw [(94, -1), (128, 0)] G G1 = G') ∧ ∃ z : Int, r = some (0, z) ∧ ((z = 1 ∧ 0 ≤ paper ∧ paper ≤ 19 ∧ 0 ≤ pennies ∧ pennies ≤ 100000) ∨ (z = 0 ∧ (paper < 0 ∨ 19 < paper ∨ pennies < 0 ∨ 100000 < pennies)))) := by
  refine calls_by [(0, (2, this)), (1, (0, paper)), (2, (0, pennies))] rfl rfl (Nat.le_of_ble_eq_true rfl) (fun X hX => ?_)
  have hP := hPX11_rate
  refine r_ex hX hP 2 (pc' := 2) (st' := [(0, paper), (2, this)]) (lo' := [(0, (2, this)), (1, (0, paper)), (2, (0, pennies))]) rfl ?_
  refine r_callS gd hX hP rfl cs_X11_120 (d' := 1) (mc' := 0) (ms' := 0) (as' := [(0, paper)]) (st := [(2, this)]) (by omega) (by omega) (by omega) rfl rfl (Nat.le_of_ble_eq_true rfl) (c_isPaperX E S G paper (by omega) (by omega)) ?_
  rintro _ _ _ ⟨rfl, rfl, z1, rfl, (⟨rfl, f2, f3⟩ | ⟨rfl, f4⟩)⟩
  · skip
    refine r_if_ne hX hP rfl (tgt := 12) rfl (by omega) (by omega) (fun c5 => ?_) (fun c5 => ?_)
    · skip
      refine r_ex hX hP 3 (pc' := 15) (st' := [(0, 0), (0, pennies), (0, 0), (2, this)]) (lo' := [(0, (2, this)), (1, (0, paper)), (2, (0, pennies))]) rfl ?_
      refine r_ldcw hX hP rfl (v := 100000) (tbg sg7 42 rfl rfl) ?_
      refine r_callS gd hX hP rfl cs_X11_103 (d' := 0) (mc' := 0) (ms' := 0) (as' := [(0, pennies), (0, 0), (0, 100000)]) (st := [(0, 0), (2, this)]) (by omega) (by omega) (by omega) rfl rfl (Nat.le_of_ble_eq_true rfl) (c_X11_within E S G pennies 0 100000 (by omega) (by omega) (by omega) (by omega) (by omega) (by omega)) ?_
      rintro _ _ _ ⟨rfl, rfl, z6, rfl, (⟨rfl, f7, f8⟩ | ⟨rfl, f9⟩)⟩
      · skip
        refine r_if_ne hX hP rfl (tgt := 28) rfl (by omega) (by omega) (fun c10 => ?_) (fun c10 => ?_)
        · skip
          refine r_ex hX hP 3 (pc' := 31) (st' := [(0, 0), (0, 0), (0, 0), (0, 0), (2, this)]) (lo' := [(0, (2, this)), (1, (0, paper)), (2, (0, pennies))]) rfl ?_
          refine r_callS gd hX hP rfl cs_X11_112 (d' := 0) (mc' := 0) (ms' := 0) (as' := [(0, 0), (0, 0), (0, 0), (0, 0)]) (st := [(2, this)]) (by omega) (by omega) (by omega) rfl rfl (Nat.le_of_ble_eq_true rfl) (c_X11_first E S G 0 0 0 0 (by omega) (by omega) (by omega) (by omega) (by omega) (by omega) (by omega) (by omega)) ?_
          rintro _ _ _ ⟨rfl, rfl, z11, rfl, (⟨rfl, f12⟩ | ⟨rfl, f13, f14⟩ | ⟨rfl, f15, f16, f17⟩ | ⟨rfl, f18, f19, f20, f21⟩ | ⟨rfl, f22, f23, f24, f25⟩)⟩
          · skip
            exfalso; omega
          · skip
            exfalso; omega
          · skip
            exfalso; omega
          · skip
            exfalso; omega
          · skip
            refine r_callV gd hX hP rfl cv_X11_90_128 hS (d' := 0) (mc' := 0) (ms' := 0) (as' := [(0, 0)]) (st := []) (by omega) (by omega) (by omega) rfl rfl (Nat.le_of_ble_eq_true rfl) (c_X11_refused E S G this 0 hS (by omega) (by omega)) ?_
            rintro _ _ _ ⟨rfl, ⟨G26, rfl⟩, z27, rfl, (⟨rfl, f28⟩ | ⟨rfl, f29⟩)⟩
            · skip
              exfalso; omega
            · skip
              refine r_if_eq hX hP rfl (tgt := 42) rfl (by omega) (by omega) (fun c30 => ?_) (fun c30 => ?_)
              · skip
                refine r_ex hX hP 1 (pc' := 43) (st' := [(2, this)]) (lo' := [(0, (2, this)), (1, (0, paper)), (2, (0, pennies))]) rfl ?_
                refine r_getR hX hP rfl fl_X11_51_128 hS (fun rf31 rf31e rf31s => ?_)
                refine r_ex hX hP 2 (pc' := 48) (st' := [(0, pennies), (0, paper), (2, rf31)]) (lo' := [(0, (2, this)), (1, (0, paper)), (2, (0, pennies))]) rfl ?_
                refine r_iastK hX hP rfl al_94 rf31s (by omega) (by omega) (by omega) (by omega) (fun h32 => ?_)
                refine r_ex hX hP 1 (pc' := 50) (st' := [(0, 1)]) (lo' := [(0, (2, this)), (1, (0, paper)), (2, (0, pennies))]) rfl ?_
                exact r_retZ hX hP rfl rfl (by omega) (by omega) (by omega) (by omega) ⟨rfl, ⟨_, (hw_up (hw_sub (hw_refl _ _) rfl) rfl).symm⟩, 1, rfl, (by omega)⟩
              · skip
                exfalso; omega
        · skip
          exfalso; omega
      · skip
        refine r_if_ne hX hP rfl (tgt := 28) rfl (by omega) (by omega) (fun c33 => ?_) (fun c33 => ?_)
        · skip
          exfalso; omega
        · skip
          refine r_ex hX hP 4 (pc' := 31) (st' := [(0, 0), (0, 0), (0, 1), (0, 0), (2, this)]) (lo' := [(0, (2, this)), (1, (0, paper)), (2, (0, pennies))]) rfl ?_
          refine r_callS gd hX hP rfl cs_X11_112 (d' := 0) (mc' := 0) (ms' := 0) (as' := [(0, 0), (0, 1), (0, 0), (0, 0)]) (st := [(2, this)]) (by omega) (by omega) (by omega) rfl rfl (Nat.le_of_ble_eq_true rfl) (c_X11_first E S G 0 1 0 0 (by omega) (by omega) (by omega) (by omega) (by omega) (by omega) (by omega) (by omega)) ?_
          rintro _ _ _ ⟨rfl, rfl, z34, rfl, (⟨rfl, f35⟩ | ⟨rfl, f36, f37⟩ | ⟨rfl, f38, f39, f40⟩ | ⟨rfl, f41, f42, f43, f44⟩ | ⟨rfl, f45, f46, f47, f48⟩)⟩
          · skip
            exfalso; omega
          · skip
            refine r_callV gd hX hP rfl cv_X11_90_128 hS (d' := 0) (mc' := 0) (ms' := 0) (as' := [(0, 2)]) (st := []) (by omega) (by omega) (by omega) rfl rfl (Nat.le_of_ble_eq_true rfl) (c_X11_refused E S G this 2 hS (by omega) (by omega)) ?_
            rintro _ _ _ ⟨rfl, ⟨G49, rfl⟩, z50, rfl, (⟨rfl, f51⟩ | ⟨rfl, f52⟩)⟩
            · skip
              refine r_if_eq hX hP rfl (tgt := 42) rfl (by omega) (by omega) (fun c53 => ?_) (fun c53 => ?_)
              · skip
                exfalso; omega
              · skip
                refine r_ex hX hP 1 (pc' := 41) (st' := [(0, 0)]) (lo' := [(0, (2, this)), (1, (0, paper)), (2, (0, pennies))]) rfl ?_
                exact r_retZ hX hP rfl rfl (by omega) (by omega) (by omega) (by omega) ⟨rfl, ⟨_, (hw_sub (hw_refl _ _) rfl).symm⟩, 0, rfl, (by omega)⟩
            · skip
              exfalso; omega
          · skip
            exfalso; omega
          · skip
            exfalso; omega
          · skip
            exfalso; omega
    · skip
      exfalso; omega
  · skip
    refine r_if_ne hX hP rfl (tgt := 12) rfl (by omega) (by omega) (fun c54 => ?_) (fun c54 => ?_)
    · skip
      exfalso; omega
    · skip
      refine r_ex hX hP 4 (pc' := 15) (st' := [(0, 0), (0, pennies), (0, 1), (2, this)]) (lo' := [(0, (2, this)), (1, (0, paper)), (2, (0, pennies))]) rfl ?_
      refine r_ldcw hX hP rfl (v := 100000) (tbg sg7 42 rfl rfl) ?_
      refine r_callS gd hX hP rfl cs_X11_103 (d' := 0) (mc' := 0) (ms' := 0) (as' := [(0, pennies), (0, 0), (0, 100000)]) (st := [(0, 1), (2, this)]) (by omega) (by omega) (by omega) rfl rfl (Nat.le_of_ble_eq_true rfl) (c_X11_within E S G pennies 0 100000 (by omega) (by omega) (by omega) (by omega) (by omega) (by omega)) ?_
      rintro _ _ _ ⟨rfl, rfl, z55, rfl, (⟨rfl, f56, f57⟩ | ⟨rfl, f58⟩)⟩
      · skip
        refine r_if_ne hX hP rfl (tgt := 28) rfl (by omega) (by omega) (fun c59 => ?_) (fun c59 => ?_)
        · skip
          refine r_ex hX hP 3 (pc' := 31) (st' := [(0, 0), (0, 0), (0, 0), (0, 1), (2, this)]) (lo' := [(0, (2, this)), (1, (0, paper)), (2, (0, pennies))]) rfl ?_
          refine r_callS gd hX hP rfl cs_X11_112 (d' := 0) (mc' := 0) (ms' := 0) (as' := [(0, 1), (0, 0), (0, 0), (0, 0)]) (st := [(2, this)]) (by omega) (by omega) (by omega) rfl rfl (Nat.le_of_ble_eq_true rfl) (c_X11_first E S G 1 0 0 0 (by omega) (by omega) (by omega) (by omega) (by omega) (by omega) (by omega) (by omega)) ?_
          rintro _ _ _ ⟨rfl, rfl, z60, rfl, (⟨rfl, f61⟩ | ⟨rfl, f62, f63⟩ | ⟨rfl, f64, f65, f66⟩ | ⟨rfl, f67, f68, f69, f70⟩ | ⟨rfl, f71, f72, f73, f74⟩)⟩
          · skip
            refine r_callV gd hX hP rfl cv_X11_90_128 hS (d' := 0) (mc' := 0) (ms' := 0) (as' := [(0, 1)]) (st := []) (by omega) (by omega) (by omega) rfl rfl (Nat.le_of_ble_eq_true rfl) (c_X11_refused E S G this 1 hS (by omega) (by omega)) ?_
            rintro _ _ _ ⟨rfl, ⟨G75, rfl⟩, z76, rfl, (⟨rfl, f77⟩ | ⟨rfl, f78⟩)⟩
            · skip
              refine r_if_eq hX hP rfl (tgt := 42) rfl (by omega) (by omega) (fun c79 => ?_) (fun c79 => ?_)
              · skip
                exfalso; omega
              · skip
                refine r_ex hX hP 1 (pc' := 41) (st' := [(0, 0)]) (lo' := [(0, (2, this)), (1, (0, paper)), (2, (0, pennies))]) rfl ?_
                exact r_retZ hX hP rfl rfl (by omega) (by omega) (by omega) (by omega) ⟨rfl, ⟨_, (hw_sub (hw_refl _ _) rfl).symm⟩, 0, rfl, (by omega)⟩
            · skip
              exfalso; omega
          · skip
            exfalso; omega
          · skip
            exfalso; omega
          · skip
            exfalso; omega
          · skip
            exfalso; omega
        · skip
          exfalso; omega
      · skip
        refine r_if_ne hX hP rfl (tgt := 28) rfl (by omega) (by omega) (fun c80 => ?_) (fun c80 => ?_)
        · skip
          exfalso; omega
        · skip
          refine r_ex hX hP 4 (pc' := 31) (st' := [(0, 0), (0, 0), (0, 1), (0, 1), (2, this)]) (lo' := [(0, (2, this)), (1, (0, paper)), (2, (0, pennies))]) rfl ?_
          refine r_callS gd hX hP rfl cs_X11_112 (d' := 0) (mc' := 0) (ms' := 0) (as' := [(0, 1), (0, 1), (0, 0), (0, 0)]) (st := [(2, this)]) (by omega) (by omega) (by omega) rfl rfl (Nat.le_of_ble_eq_true rfl) (c_X11_first E S G 1 1 0 0 (by omega) (by omega) (by omega) (by omega) (by omega) (by omega) (by omega) (by omega)) ?_
          rintro _ _ _ ⟨rfl, rfl, z81, rfl, (⟨rfl, f82⟩ | ⟨rfl, f83, f84⟩ | ⟨rfl, f85, f86, f87⟩ | ⟨rfl, f88, f89, f90, f91⟩ | ⟨rfl, f92, f93, f94, f95⟩)⟩
          · skip
            refine r_callV gd hX hP rfl cv_X11_90_128 hS (d' := 0) (mc' := 0) (ms' := 0) (as' := [(0, 1)]) (st := []) (by omega) (by omega) (by omega) rfl rfl (Nat.le_of_ble_eq_true rfl) (c_X11_refused E S G this 1 hS (by omega) (by omega)) ?_
            rintro _ _ _ ⟨rfl, ⟨G96, rfl⟩, z97, rfl, (⟨rfl, f98⟩ | ⟨rfl, f99⟩)⟩
            · skip
              refine r_if_eq hX hP rfl (tgt := 42) rfl (by omega) (by omega) (fun c100 => ?_) (fun c100 => ?_)
              · skip
                exfalso; omega
              · skip
                refine r_ex hX hP 1 (pc' := 41) (st' := [(0, 0)]) (lo' := [(0, (2, this)), (1, (0, paper)), (2, (0, pennies))]) rfl ?_
                exact r_retZ hX hP rfl rfl (by omega) (by omega) (by omega) (by omega) ⟨rfl, ⟨_, (hw_sub (hw_refl _ _) rfl).symm⟩, 0, rfl, (by omega)⟩
            · skip
              exfalso; omega
          · skip
            exfalso; omega
          · skip
            exfalso; omega
          · skip
            exfalso; omega
          · skip
            exfalso; omega
set_option maxRecDepth 100000 in
set_option maxHeartbeats 4000000 in
theorem c_hasAccX (E : En) (S : Sg) (G : Gh) (this : Int) (account : Int) (hS : S this = 128) (ls_ : Int) (ls__e : ls_ = G 128 this 5) (ls__s : S ls_ = 130) (sz : Int) (sz_e : sz = G 130 ls_ 0) (account_a : (-2147483648) ≤ account) (account_b : account ≤ 2147483647) : Calls E mX11_hasAccount [(2, this), (0, account)] S G 1 0 0 (fun r S' G' => S = S' ∧ G = G' ∧ ∃ z : Int, r = some (0, z) ∧ ((z = 1 ∧ 0 ≤ account ∧ account + 1 ≤ sz) ∨ (z = 0 ∧ (account < 0 ∨ sz ≤ account)))) := by
  refine calls_by [(0, (2, this)), (1, (0, account))] rfl rfl (Nat.le_of_ble_eq_true rfl) (fun X hX => ?_)
  have hP := hPX11_hasAccount
  refine r_peekI hX (tl_130 0 rfl (by decide)) ls__s (fun sz_o sz_oe sz_oa sz_ob => ?_)
  obtain rfl : sz = sz_o := sz_e.trans sz_oe.symm
  refine r_ex hX hP 3 (pc' := 3) (st' := [(2, this), (0, 0), (0, account)]) (lo' := [(0, (2, this)), (1, (0, account))]) rfl ?_
  refine r_getKR hX hP rfl fl_X11_24_128 hS (x := ls_) ls__e ?_
  refine r_getKI hX hP rfl fl_X11_107_130 ls__s (x := sz) sz_e ?_
  refine r_ex hX hP 2 (pc' := 11) (st' := [(0, (sz - 1)), (0, 0), (0, account)]) (lo' := [(0, (2, this)), (1, (0, account))]) rfl ?_
  refine r_callS gd hX hP rfl cs_X11_103 (d' := 0) (mc' := 0) (ms' := 0) (as' := [(0, account), (0, 0), (0, (sz - 1))]) (st := []) (by omega) (by omega) (by omega) rfl rfl (Nat.le_of_ble_eq_true rfl) (c_X11_within E S G account 0 (sz - 1) (by omega) (by omega) (by omega) (by omega) (by omega) (by omega)) ?_
  rintro _ _ _ ⟨rfl, rfl, z1, rfl, (⟨rfl, f2, f3⟩ | ⟨rfl, f4⟩)⟩
  · skip
    exact r_retZ hX hP rfl rfl (by omega) (by omega) (by omega) (by omega) ⟨rfl, rfl, 1, rfl, (by omega)⟩
  · skip
    exact r_retZ hX hP rfl rfl (by omega) (by omega) (by omega) (by omega) ⟨rfl, rfl, 0, rfl, (by omega)⟩
set_option maxRecDepth 100000 in
set_option maxHeartbeats 4000000 in
theorem c_hangX (E : En) (S : Sg) (G : Gh) (this : Int) (hand : Int) (lead : Int) (delay : Int) (hS : S this = 130) (cnt : Int) (cnt_e : cnt = G 130 this 0) (hand_a : (-1) ≤ hand) (hand_b : hand ≤ 19) (lead_a : (-2147483648) ≤ lead) (lead_b : lead ≤ 2147483647) (delay_a : (-2147483648) ≤ delay) (delay_b : delay ≤ 2147483647) (pre0 : cnt ≤ 19) : Calls E mX0_hang [(2, this), (0, hand), (0, lead), (0, delay)] S G 0 0 0 (fun r S' G' => S = S' ∧ (∃ G1, hw [(93, -1), (94, -1), (130, 0)] G G1 = G') ∧ ∃ z : Int, r = some (0, z) ∧ ∃ c2 : Int, c2 = G' 130 this 0 ∧ 0 ≤ z ∧ z ≤ 19 ∧ z = cnt ∧ c2 = cnt + 1) := by
  refine calls_by [(0, (2, this)), (1, (0, hand)), (2, (0, lead)), (3, (0, delay))] rfl rfl (Nat.le_of_ble_eq_true rfl) (fun X hX => ?_)
  have hP := hPX0_hang
  refine r_peekI hX (tl_130 0 rfl (by decide)) hS (fun cnt_o cnt_oe cnt_oa cnt_ob => ?_)
  obtain rfl : cnt = cnt_o := cnt_e.trans cnt_oe.symm
  refine r_ex hX hP 1 (pc' := 1) (st' := [(2, this)]) (lo' := [(0, (2, this)), (1, (0, hand)), (2, (0, lead)), (3, (0, delay))]) rfl ?_
  refine r_getKI hX hP rfl fl_X0_66_130 hS (x := cnt) cnt_e ?_
  refine r_ex hX hP 3 (pc' := 8) (st' := [(0, (-1)), (0, hand)]) (lo' := [(0, (2, this)), (1, (0, hand)), (2, (0, lead)), (3, (0, delay)), (4, (0, cnt))]) rfl ?_
  refine r_ic_ne hX hP rfl (tgt := 15) rfl (by omega) (by omega) (by omega) (by omega) (fun c1 => ?_) (fun c1 => ?_)
  · skip
    refine r_ex hX hP 3 (pc' := 19) (st' := [(2, this)]) (lo' := [(0, (2, this)), (1, (0, hand)), (2, (0, lead)), (3, (0, delay)), (4, (0, cnt)), (5, (0, 0))]) rfl ?_
    refine r_getR hX hP rfl fl_X0_9_130 hS (fun uf2 uf2e uf2s => ?_)
    refine r_ex hX hP 2 (pc' := 25) (st' := [(0, hand), (0, cnt), (2, uf2)]) (lo' := [(0, (2, this)), (1, (0, hand)), (2, (0, lead)), (3, (0, delay)), (4, (0, cnt)), (5, (0, 0))]) rfl ?_
    refine r_iastK hX hP rfl al_93 uf2s (by omega) (by omega) (by omega) (by omega) (fun h3 => ?_)
    refine r_ex hX hP 1 (pc' := 27) (st' := [(2, this)]) (lo' := [(0, (2, this)), (1, (0, hand)), (2, (0, lead)), (3, (0, delay)), (4, (0, cnt)), (5, (0, 0))]) rfl ?_
    refine r_getR hX hP rfl fl_X0_15_130 hS (fun lf4 lf4e lf4s => ?_)
    refine r_ex hX hP 2 (pc' := 33) (st' := [(0, lead), (0, cnt), (2, lf4)]) (lo' := [(0, (2, this)), (1, (0, hand)), (2, (0, lead)), (3, (0, delay)), (4, (0, cnt)), (5, (0, 0))]) rfl ?_
    refine r_iastK hX hP rfl al_94 lf4s (by omega) (by omega) (by omega) (by omega) (fun h5 => ?_)
    refine r_ex hX hP 1 (pc' := 35) (st' := [(2, this)]) (lo' := [(0, (2, this)), (1, (0, hand)), (2, (0, lead)), (3, (0, delay)), (4, (0, cnt)), (5, (0, 0))]) rfl ?_
    refine r_getR hX hP rfl fl_X0_18_130 hS (fun df6 df6e df6s => ?_)
    refine r_ex hX hP 2 (pc' := 41) (st' := [(0, delay), (0, cnt), (2, df6)]) (lo' := [(0, (2, this)), (1, (0, hand)), (2, (0, lead)), (3, (0, delay)), (4, (0, cnt)), (5, (0, 0))]) rfl ?_
    refine r_iastK hX hP rfl al_94 df6s (by omega) (by omega) (by omega) (by omega) (fun h7 => ?_)
    refine r_ex hX hP 1 (pc' := 43) (st' := [(2, this)]) (lo' := [(0, (2, this)), (1, (0, hand)), (2, (0, lead)), (3, (0, delay)), (4, (0, cnt)), (5, (0, 0))]) rfl ?_
    refine r_getR hX hP rfl fl_X0_21_130 hS (fun tf8 tf8e tf8s => ?_)
    refine r_ex hX hP 2 (pc' := 50) (st' := [(0, 0), (0, cnt), (2, tf8)]) (lo' := [(0, (2, this)), (1, (0, hand)), (2, (0, lead)), (3, (0, delay)), (4, (0, cnt)), (5, (0, 0))]) rfl ?_
    refine r_if_eq hX hP rfl (tgt := 58) rfl (by omega) (by omega) (fun c9 => ?_) (fun c9 => ?_)
    · skip
      refine r_ex hX hP 1 (pc' := 59) (st' := [(2, this), (0, cnt), (2, tf8)]) (lo' := [(0, (2, this)), (1, (0, hand)), (2, (0, lead)), (3, (0, delay)), (4, (0, cnt)), (5, (0, 0))]) rfl ?_
      refine r_getKR hX hP rfl fl_X0_21_130 hS (x := tf8) tf8e ?_
      refine r_ex hX hP 1 (pc' := 63) (st' := [(0, hand), (2, tf8), (0, cnt), (2, tf8)]) (lo' := [(0, (2, this)), (1, (0, hand)), (2, (0, lead)), (3, (0, delay)), (4, (0, cnt)), (5, (0, 0))]) rfl ?_
      refine r_iald hX hP rfl al_94 tf8s (by omega) (by omega) (fun x10 x10e x10a x10b => ?_)
      refine r_iastK hX hP rfl al_94 tf8s (by omega) (by omega) (by omega) (by omega) (fun h11 => ?_)
      refine r_ex hX hP 1 (pc' := 66) (st' := [(2, this)]) (lo' := [(0, (2, this)), (1, (0, hand)), (2, (0, lead)), (3, (0, delay)), (4, (0, cnt)), (5, (0, 0))]) rfl ?_
      refine r_getR hX hP rfl fl_X0_24_130 hS (fun lf12 lf12e lf12s => ?_)
      refine r_ex hX hP 3 (pc' := 74) (st' := [(0, 0), (0, lead), (0, cnt), (2, lf12)]) (lo' := [(0, (2, this)), (1, (0, hand)), (2, (0, lead)), (3, (0, delay)), (4, (0, cnt)), (5, (0, 0))]) rfl ?_
      refine r_if_eq hX hP rfl (tgt := 81) rfl (by omega) (by omega) (fun c13 => ?_) (fun c13 => ?_)
      · skip
        refine r_ex hX hP 1 (pc' := 82) (st' := [(2, this), (0, lead), (0, cnt), (2, lf12)]) (lo' := [(0, (2, this)), (1, (0, hand)), (2, (0, lead)), (3, (0, delay)), (4, (0, cnt)), (5, (0, 0))]) rfl ?_
        refine r_getKR hX hP rfl fl_X0_24_130 hS (x := lf12) lf12e ?_
        refine r_ex hX hP 1 (pc' := 86) (st' := [(0, hand), (2, lf12), (0, lead), (0, cnt), (2, lf12)]) (lo' := [(0, (2, this)), (1, (0, hand)), (2, (0, lead)), (3, (0, delay)), (4, (0, cnt)), (5, (0, 0))]) rfl ?_
        refine r_iald hX hP rfl al_94 lf12s (by omega) (by omega) (fun x14 x14e x14a x14b => ?_)
        refine r_ex hX hP 1 (pc' := 88) (st' := [(0, (lead + x14)), (0, cnt), (2, lf12)]) (lo' := [(0, (2, this)), (1, (0, hand)), (2, (0, lead)), (3, (0, delay)), (4, (0, cnt)), (5, (0, 0))]) rfl ?_
        refine r_hvI hX (fun w15 w15a w15b w15e => ?_)
        refine r_iastK hX hP rfl al_94 lf12s (by omega) (by omega) (by omega) (by omega) (fun h16 => ?_)
        refine r_ex hX hP 1 (pc' := 90) (st' := [(2, this)]) (lo' := [(0, (2, this)), (1, (0, hand)), (2, (0, lead)), (3, (0, delay)), (4, (0, cnt)), (5, (0, 0))]) rfl ?_
        refine r_getR hX hP rfl fl_X0_27_130 hS (fun df17 df17e df17s => ?_)
        refine r_ex hX hP 3 (pc' := 98) (st' := [(0, 0), (0, delay), (0, cnt), (2, df17)]) (lo' := [(0, (2, this)), (1, (0, hand)), (2, (0, lead)), (3, (0, delay)), (4, (0, cnt)), (5, (0, 0))]) rfl ?_
        refine r_if_eq hX hP rfl (tgt := 105) rfl (by omega) (by omega) (fun c18 => ?_) (fun c18 => ?_)
        · skip
          refine r_ex hX hP 1 (pc' := 106) (st' := [(2, this), (0, delay), (0, cnt), (2, df17)]) (lo' := [(0, (2, this)), (1, (0, hand)), (2, (0, lead)), (3, (0, delay)), (4, (0, cnt)), (5, (0, 0))]) rfl ?_
          refine r_getKR hX hP rfl fl_X0_27_130 hS (x := df17) df17e ?_
          refine r_ex hX hP 1 (pc' := 110) (st' := [(0, hand), (2, df17), (0, delay), (0, cnt), (2, df17)]) (lo' := [(0, (2, this)), (1, (0, hand)), (2, (0, lead)), (3, (0, delay)), (4, (0, cnt)), (5, (0, 0))]) rfl ?_
          refine r_iald hX hP rfl al_94 df17s (by omega) (by omega) (fun x19 x19e x19a x19b => ?_)
          refine r_ex hX hP 1 (pc' := 112) (st' := [(0, (delay + x19)), (0, cnt), (2, df17)]) (lo' := [(0, (2, this)), (1, (0, hand)), (2, (0, lead)), (3, (0, delay)), (4, (0, cnt)), (5, (0, 0))]) rfl ?_
          refine r_hvI hX (fun w20 w20a w20b w20e => ?_)
          refine r_iastK hX hP rfl al_94 df17s (by omega) (by omega) (by omega) (by omega) (fun h21 => ?_)
          refine r_ex hX hP 1 (pc' := 114) (st' := [(2, this)]) (lo' := [(0, (2, this)), (1, (0, hand)), (2, (0, lead)), (3, (0, delay)), (4, (0, cnt)), (5, (0, 0))]) rfl ?_
          refine r_getR hX hP rfl fl_X0_30_130 hS (fun ff22 ff22e ff22s => ?_)
          refine r_ex hX hP 2 (pc' := 120) (st' := [(0, (-1)), (0, cnt), (2, ff22)]) (lo' := [(0, (2, this)), (1, (0, hand)), (2, (0, lead)), (3, (0, delay)), (4, (0, cnt)), (5, (0, 0))]) rfl ?_
          refine r_iastK hX hP rfl al_93 ff22s (by omega) (by omega) (by omega) (by omega) (fun h23 => ?_)
          refine r_ex hX hP 1 (pc' := 122) (st' := [(2, this)]) (lo' := [(0, (2, this)), (1, (0, hand)), (2, (0, lead)), (3, (0, delay)), (4, (0, cnt)), (5, (0, 0))]) rfl ?_
          refine r_getR hX hP rfl fl_X0_33_130 hS (fun lf24 lf24e lf24s => ?_)
          refine r_ex hX hP 2 (pc' := 128) (st' := [(0, (-1)), (0, cnt), (2, lf24)]) (lo' := [(0, (2, this)), (1, (0, hand)), (2, (0, lead)), (3, (0, delay)), (4, (0, cnt)), (5, (0, 0))]) rfl ?_
          refine r_iastK hX hP rfl al_93 lf24s (by omega) (by omega) (by omega) (by omega) (fun h25 => ?_)
          refine r_ex hX hP 1 (pc' := 130) (st' := [(2, this)]) (lo' := [(0, (2, this)), (1, (0, hand)), (2, (0, lead)), (3, (0, delay)), (4, (0, cnt)), (5, (0, 0))]) rfl ?_
          refine r_getR hX hP rfl fl_X0_36_130 hS (fun nf26 nf26e nf26s => ?_)
          refine r_ex hX hP 2 (pc' := 136) (st' := [(0, (-1)), (0, cnt), (2, nf26)]) (lo' := [(0, (2, this)), (1, (0, hand)), (2, (0, lead)), (3, (0, delay)), (4, (0, cnt)), (5, (0, 0))]) rfl ?_
          refine r_iastK hX hP rfl al_93 nf26s (by omega) (by omega) (by omega) (by omega) (fun h27 => ?_)
          refine r_ex hX hP 1 (pc' := 139) (st' := [(0, 0)]) (lo' := [(0, (2, this)), (1, (0, hand)), (2, (0, lead)), (3, (0, delay)), (4, (0, cnt)), (5, (0, 0))]) rfl ?_
          refine r_if_ne hX hP rfl (tgt := 184) rfl (by omega) (by omega) (fun c28 => ?_) (fun c28 => ?_)
          · skip
            exfalso; omega
          · skip
            refine r_ex hX hP 1 (pc' := 143) (st' := [(2, this)]) (lo' := [(0, (2, this)), (1, (0, hand)), (2, (0, lead)), (3, (0, delay)), (4, (0, cnt)), (5, (0, 0))]) rfl ?_
            refine r_getKR hX hP rfl fl_X0_33_130 hS (x := lf24) lf24e ?_
            refine r_ex hX hP 1 (pc' := 147) (st' := [(0, hand), (2, lf24)]) (lo' := [(0, (2, this)), (1, (0, hand)), (2, (0, lead)), (3, (0, delay)), (4, (0, cnt)), (5, (0, 0))]) rfl ?_
            refine r_iald hX hP rfl al_93 lf24s (by omega) (by omega) (fun x29 x29e x29a x29b => ?_)
            refine r_ex hX hP 1 (pc' := 149) (st' := [(0, (-1)), (0, x29)]) (lo' := [(0, (2, this)), (1, (0, hand)), (2, (0, lead)), (3, (0, delay)), (4, (0, cnt)), (5, (0, 0))]) rfl ?_
            refine r_ic_ne hX hP rfl (tgt := 163) rfl (by omega) (by omega) (by omega) (by omega) (fun c30 => ?_) (fun c30 => ?_)
            · skip
              refine r_ex hX hP 1 (pc' := 164) (st' := [(2, this)]) (lo' := [(0, (2, this)), (1, (0, hand)), (2, (0, lead)), (3, (0, delay)), (4, (0, cnt)), (5, (0, 0))]) rfl ?_
              refine r_getKR hX hP rfl fl_X0_36_130 hS (x := nf26) nf26e ?_
              refine r_ex hX hP 1 (pc' := 168) (st' := [(2, this), (2, nf26)]) (lo' := [(0, (2, this)), (1, (0, hand)), (2, (0, lead)), (3, (0, delay)), (4, (0, cnt)), (5, (0, 0))]) rfl ?_
              refine r_getKR hX hP rfl fl_X0_33_130 hS (x := lf24) lf24e ?_
              refine r_ex hX hP 1 (pc' := 172) (st' := [(0, hand), (2, lf24), (2, nf26)]) (lo' := [(0, (2, this)), (1, (0, hand)), (2, (0, lead)), (3, (0, delay)), (4, (0, cnt)), (5, (0, 0))]) rfl ?_
              refine r_ialdK hX hP rfl al_93 lf24s (by omega) (by omega) (x := x29) x29e ?_
              refine r_ex hX hP 1 (pc' := 175) (st' := [(0, cnt), (0, x29), (2, nf26)]) (lo' := [(0, (2, this)), (1, (0, hand)), (2, (0, lead)), (3, (0, delay)), (4, (0, cnt)), (5, (0, 0))]) rfl ?_
              refine r_iastK hX hP rfl al_93 nf26s (by omega) (by omega) (by omega) (by omega) (fun h31 => ?_)
              refine r_ex hX hP 1 (pc' := 177) (st' := [(2, this)]) (lo' := [(0, (2, this)), (1, (0, hand)), (2, (0, lead)), (3, (0, delay)), (4, (0, cnt)), (5, (0, 0))]) rfl ?_
              refine r_getKR hX hP rfl fl_X0_33_130 hS (x := lf24) lf24e ?_
              refine r_ex hX hP 2 (pc' := 183) (st' := [(0, cnt), (0, hand), (2, lf24)]) (lo' := [(0, (2, this)), (1, (0, hand)), (2, (0, lead)), (3, (0, delay)), (4, (0, cnt)), (5, (0, 0))]) rfl ?_
              refine r_iastK hX hP rfl al_93 lf24s (by omega) (by omega) (by omega) (by omega) (fun h32 => ?_)
              refine r_ex hX hP 2 (pc' := 186) (st' := [(2, this), (2, this)]) (lo' := [(0, (2, this)), (1, (0, hand)), (2, (0, lead)), (3, (0, delay)), (4, (0, cnt)), (5, (0, 0))]) rfl ?_
              refine r_getKI hX hP rfl fl_X0_66_130 hS (x := cnt) cnt_e ?_
              refine r_ex hX hP 2 (pc' := 191) (st' := [(0, (cnt + 1)), (2, this)]) (lo' := [(0, (2, this)), (1, (0, hand)), (2, (0, lead)), (3, (0, delay)), (4, (0, cnt)), (5, (0, 0))]) rfl ?_
              refine r_putIK hX hP rfl fp_X0_66_130 hS (by omega) (by omega) (fun h33 => ?_)
              refine r_ex hX hP 1 (pc' := 196) (st' := [(0, cnt)]) (lo' := [(0, (2, this)), (1, (0, hand)), (2, (0, lead)), (3, (0, delay)), (4, (0, cnt)), (5, (0, 0))]) rfl ?_
              exact r_retI hX hP rfl rfl (by omega) (by omega) ⟨rfl, ⟨_, (hw_up (hw_up (hw_up (hw_up (hw_up (hw_up (hw_up (hw_up (hw_up (hw_up (hw_up (hw_up (hw_refl _ _) rfl) rfl) rfl) rfl) rfl) rfl) rfl) rfl) rfl) rfl) rfl) rfl).symm⟩, cnt, rfl, (cnt + 1), h33, (by omega), (by omega), (by omega), (by omega)⟩
            · skip
              refine r_ex hX hP 1 (pc' := 153) (st' := [(2, this)]) (lo' := [(0, (2, this)), (1, (0, hand)), (2, (0, lead)), (3, (0, delay)), (4, (0, cnt)), (5, (0, 0))]) rfl ?_
              refine r_getKR hX hP rfl fl_X0_30_130 hS (x := ff22) ff22e ?_
              refine r_ex hX hP 2 (pc' := 159) (st' := [(0, cnt), (0, hand), (2, ff22)]) (lo' := [(0, (2, this)), (1, (0, hand)), (2, (0, lead)), (3, (0, delay)), (4, (0, cnt)), (5, (0, 0))]) rfl ?_
              refine r_iastK hX hP rfl al_93 ff22s (by omega) (by omega) (by omega) (by omega) (fun h34 => ?_)
              refine r_ex hX hP 2 (pc' := 177) (st' := [(2, this)]) (lo' := [(0, (2, this)), (1, (0, hand)), (2, (0, lead)), (3, (0, delay)), (4, (0, cnt)), (5, (0, 0))]) rfl ?_
              refine r_getKR hX hP rfl fl_X0_33_130 hS (x := lf24) lf24e ?_
              refine r_ex hX hP 2 (pc' := 183) (st' := [(0, cnt), (0, hand), (2, lf24)]) (lo' := [(0, (2, this)), (1, (0, hand)), (2, (0, lead)), (3, (0, delay)), (4, (0, cnt)), (5, (0, 0))]) rfl ?_
              refine r_iastK hX hP rfl al_93 lf24s (by omega) (by omega) (by omega) (by omega) (fun h35 => ?_)
              refine r_ex hX hP 2 (pc' := 186) (st' := [(2, this), (2, this)]) (lo' := [(0, (2, this)), (1, (0, hand)), (2, (0, lead)), (3, (0, delay)), (4, (0, cnt)), (5, (0, 0))]) rfl ?_
              refine r_getKI hX hP rfl fl_X0_66_130 hS (x := cnt) cnt_e ?_
              refine r_ex hX hP 2 (pc' := 191) (st' := [(0, (cnt + 1)), (2, this)]) (lo' := [(0, (2, this)), (1, (0, hand)), (2, (0, lead)), (3, (0, delay)), (4, (0, cnt)), (5, (0, 0))]) rfl ?_
              refine r_putIK hX hP rfl fp_X0_66_130 hS (by omega) (by omega) (fun h36 => ?_)
              refine r_ex hX hP 1 (pc' := 196) (st' := [(0, cnt)]) (lo' := [(0, (2, this)), (1, (0, hand)), (2, (0, lead)), (3, (0, delay)), (4, (0, cnt)), (5, (0, 0))]) rfl ?_
              exact r_retI hX hP rfl rfl (by omega) (by omega) ⟨rfl, ⟨_, (hw_up (hw_up (hw_up (hw_up (hw_up (hw_up (hw_up (hw_up (hw_up (hw_up (hw_up (hw_up (hw_refl _ _) rfl) rfl) rfl) rfl) rfl) rfl) rfl) rfl) rfl) rfl) rfl) rfl).symm⟩, cnt, rfl, (cnt + 1), h36, (by omega), (by omega), (by omega), (by omega)⟩
        · skip
          exfalso; omega
      · skip
        exfalso; omega
    · skip
      exfalso; omega
  · skip
    refine r_ex hX hP 4 (pc' := 19) (st' := [(2, this)]) (lo' := [(0, (2, this)), (1, (0, hand)), (2, (0, lead)), (3, (0, delay)), (4, (0, cnt)), (5, (0, 1))]) rfl ?_
    refine r_getR hX hP rfl fl_X0_9_130 hS (fun uf37 uf37e uf37s => ?_)
    refine r_ex hX hP 2 (pc' := 25) (st' := [(0, hand), (0, cnt), (2, uf37)]) (lo' := [(0, (2, this)), (1, (0, hand)), (2, (0, lead)), (3, (0, delay)), (4, (0, cnt)), (5, (0, 1))]) rfl ?_
    refine r_iastK hX hP rfl al_93 uf37s (by omega) (by omega) (by omega) (by omega) (fun h38 => ?_)
    refine r_ex hX hP 1 (pc' := 27) (st' := [(2, this)]) (lo' := [(0, (2, this)), (1, (0, hand)), (2, (0, lead)), (3, (0, delay)), (4, (0, cnt)), (5, (0, 1))]) rfl ?_
    refine r_getR hX hP rfl fl_X0_15_130 hS (fun lf39 lf39e lf39s => ?_)
    refine r_ex hX hP 2 (pc' := 33) (st' := [(0, lead), (0, cnt), (2, lf39)]) (lo' := [(0, (2, this)), (1, (0, hand)), (2, (0, lead)), (3, (0, delay)), (4, (0, cnt)), (5, (0, 1))]) rfl ?_
    refine r_iastK hX hP rfl al_94 lf39s (by omega) (by omega) (by omega) (by omega) (fun h40 => ?_)
    refine r_ex hX hP 1 (pc' := 35) (st' := [(2, this)]) (lo' := [(0, (2, this)), (1, (0, hand)), (2, (0, lead)), (3, (0, delay)), (4, (0, cnt)), (5, (0, 1))]) rfl ?_
    refine r_getR hX hP rfl fl_X0_18_130 hS (fun df41 df41e df41s => ?_)
    refine r_ex hX hP 2 (pc' := 41) (st' := [(0, delay), (0, cnt), (2, df41)]) (lo' := [(0, (2, this)), (1, (0, hand)), (2, (0, lead)), (3, (0, delay)), (4, (0, cnt)), (5, (0, 1))]) rfl ?_
    refine r_iastK hX hP rfl al_94 df41s (by omega) (by omega) (by omega) (by omega) (fun h42 => ?_)
    refine r_ex hX hP 1 (pc' := 43) (st' := [(2, this)]) (lo' := [(0, (2, this)), (1, (0, hand)), (2, (0, lead)), (3, (0, delay)), (4, (0, cnt)), (5, (0, 1))]) rfl ?_
    refine r_getR hX hP rfl fl_X0_21_130 hS (fun tf43 tf43e tf43s => ?_)
    refine r_ex hX hP 2 (pc' := 50) (st' := [(0, 1), (0, cnt), (2, tf43)]) (lo' := [(0, (2, this)), (1, (0, hand)), (2, (0, lead)), (3, (0, delay)), (4, (0, cnt)), (5, (0, 1))]) rfl ?_
    refine r_if_eq hX hP rfl (tgt := 58) rfl (by omega) (by omega) (fun c44 => ?_) (fun c44 => ?_)
    · skip
      exfalso; omega
    · skip
      refine r_ex hX hP 2 (pc' := 64) (st' := [(0, cnt), (0, cnt), (2, tf43)]) (lo' := [(0, (2, this)), (1, (0, hand)), (2, (0, lead)), (3, (0, delay)), (4, (0, cnt)), (5, (0, 1))]) rfl ?_
      refine r_iastK hX hP rfl al_94 tf43s (by omega) (by omega) (by omega) (by omega) (fun h45 => ?_)
      refine r_ex hX hP 1 (pc' := 66) (st' := [(2, this)]) (lo' := [(0, (2, this)), (1, (0, hand)), (2, (0, lead)), (3, (0, delay)), (4, (0, cnt)), (5, (0, 1))]) rfl ?_
      refine r_getR hX hP rfl fl_X0_24_130 hS (fun lf46 lf46e lf46s => ?_)
      refine r_ex hX hP 3 (pc' := 74) (st' := [(0, 1), (0, lead), (0, cnt), (2, lf46)]) (lo' := [(0, (2, this)), (1, (0, hand)), (2, (0, lead)), (3, (0, delay)), (4, (0, cnt)), (5, (0, 1))]) rfl ?_
      refine r_if_eq hX hP rfl (tgt := 81) rfl (by omega) (by omega) (fun c47 => ?_) (fun c47 => ?_)
      · skip
        exfalso; omega
      · skip
        refine r_ex hX hP 3 (pc' := 88) (st' := [(0, (lead + 0)), (0, cnt), (2, lf46)]) (lo' := [(0, (2, this)), (1, (0, hand)), (2, (0, lead)), (3, (0, delay)), (4, (0, cnt)), (5, (0, 1))]) rfl ?_
        refine r_iastK hX hP rfl al_94 lf46s (by omega) (by omega) (by omega) (by omega) (fun h48 => ?_)
        refine r_ex hX hP 1 (pc' := 90) (st' := [(2, this)]) (lo' := [(0, (2, this)), (1, (0, hand)), (2, (0, lead)), (3, (0, delay)), (4, (0, cnt)), (5, (0, 1))]) rfl ?_
        refine r_getR hX hP rfl fl_X0_27_130 hS (fun df49 df49e df49s => ?_)
        refine r_ex hX hP 3 (pc' := 98) (st' := [(0, 1), (0, delay), (0, cnt), (2, df49)]) (lo' := [(0, (2, this)), (1, (0, hand)), (2, (0, lead)), (3, (0, delay)), (4, (0, cnt)), (5, (0, 1))]) rfl ?_
        refine r_if_eq hX hP rfl (tgt := 105) rfl (by omega) (by omega) (fun c50 => ?_) (fun c50 => ?_)
        · skip
          exfalso; omega
        · skip
          refine r_ex hX hP 3 (pc' := 112) (st' := [(0, (delay + 0)), (0, cnt), (2, df49)]) (lo' := [(0, (2, this)), (1, (0, hand)), (2, (0, lead)), (3, (0, delay)), (4, (0, cnt)), (5, (0, 1))]) rfl ?_
          refine r_iastK hX hP rfl al_94 df49s (by omega) (by omega) (by omega) (by omega) (fun h51 => ?_)
          refine r_ex hX hP 1 (pc' := 114) (st' := [(2, this)]) (lo' := [(0, (2, this)), (1, (0, hand)), (2, (0, lead)), (3, (0, delay)), (4, (0, cnt)), (5, (0, 1))]) rfl ?_
          refine r_getR hX hP rfl fl_X0_30_130 hS (fun ff52 ff52e ff52s => ?_)
          refine r_ex hX hP 2 (pc' := 120) (st' := [(0, (-1)), (0, cnt), (2, ff52)]) (lo' := [(0, (2, this)), (1, (0, hand)), (2, (0, lead)), (3, (0, delay)), (4, (0, cnt)), (5, (0, 1))]) rfl ?_
          refine r_iastK hX hP rfl al_93 ff52s (by omega) (by omega) (by omega) (by omega) (fun h53 => ?_)
          refine r_ex hX hP 1 (pc' := 122) (st' := [(2, this)]) (lo' := [(0, (2, this)), (1, (0, hand)), (2, (0, lead)), (3, (0, delay)), (4, (0, cnt)), (5, (0, 1))]) rfl ?_
          refine r_getR hX hP rfl fl_X0_33_130 hS (fun lf54 lf54e lf54s => ?_)
          refine r_ex hX hP 2 (pc' := 128) (st' := [(0, (-1)), (0, cnt), (2, lf54)]) (lo' := [(0, (2, this)), (1, (0, hand)), (2, (0, lead)), (3, (0, delay)), (4, (0, cnt)), (5, (0, 1))]) rfl ?_
          refine r_iastK hX hP rfl al_93 lf54s (by omega) (by omega) (by omega) (by omega) (fun h55 => ?_)
          refine r_ex hX hP 1 (pc' := 130) (st' := [(2, this)]) (lo' := [(0, (2, this)), (1, (0, hand)), (2, (0, lead)), (3, (0, delay)), (4, (0, cnt)), (5, (0, 1))]) rfl ?_
          refine r_getR hX hP rfl fl_X0_36_130 hS (fun nf56 nf56e nf56s => ?_)
          refine r_ex hX hP 2 (pc' := 136) (st' := [(0, (-1)), (0, cnt), (2, nf56)]) (lo' := [(0, (2, this)), (1, (0, hand)), (2, (0, lead)), (3, (0, delay)), (4, (0, cnt)), (5, (0, 1))]) rfl ?_
          refine r_iastK hX hP rfl al_93 nf56s (by omega) (by omega) (by omega) (by omega) (fun h57 => ?_)
          refine r_ex hX hP 1 (pc' := 139) (st' := [(0, 1)]) (lo' := [(0, (2, this)), (1, (0, hand)), (2, (0, lead)), (3, (0, delay)), (4, (0, cnt)), (5, (0, 1))]) rfl ?_
          refine r_if_ne hX hP rfl (tgt := 184) rfl (by omega) (by omega) (fun c58 => ?_) (fun c58 => ?_)
          · skip
            refine r_ex hX hP 2 (pc' := 186) (st' := [(2, this), (2, this)]) (lo' := [(0, (2, this)), (1, (0, hand)), (2, (0, lead)), (3, (0, delay)), (4, (0, cnt)), (5, (0, 1))]) rfl ?_
            refine r_getKI hX hP rfl fl_X0_66_130 hS (x := cnt) cnt_e ?_
            refine r_ex hX hP 2 (pc' := 191) (st' := [(0, (cnt + 1)), (2, this)]) (lo' := [(0, (2, this)), (1, (0, hand)), (2, (0, lead)), (3, (0, delay)), (4, (0, cnt)), (5, (0, 1))]) rfl ?_
            refine r_putIK hX hP rfl fp_X0_66_130 hS (by omega) (by omega) (fun h59 => ?_)
            refine r_ex hX hP 1 (pc' := 196) (st' := [(0, cnt)]) (lo' := [(0, (2, this)), (1, (0, hand)), (2, (0, lead)), (3, (0, delay)), (4, (0, cnt)), (5, (0, 1))]) rfl ?_
            exact r_retI hX hP rfl rfl (by omega) (by omega) ⟨rfl, ⟨_, (hw_up (hw_up (hw_up (hw_up (hw_up (hw_up (hw_up (hw_up (hw_up (hw_up (hw_refl _ _) rfl) rfl) rfl) rfl) rfl) rfl) rfl) rfl) rfl) rfl).symm⟩, cnt, rfl, (cnt + 1), h59, (by omega), (by omega), (by omega), (by omega)⟩
          · skip
            exfalso; omega
set_option maxRecDepth 100000 in
set_option maxHeartbeats 4000000 in
theorem c_accountX (E : En) (S : Sg) (G : Gh) (this : Int) (under : Int) (lead : Int) (delay : Int) (hS : S this = 128) (acc : Int) (acc_e : acc = G 128 this 5) (acc_s : S acc = 130) (cnt : Int) (cnt_e : cnt = G 130 acc 0) (under_a : (-2147483648) ≤ under) (under_b : under ≤ 2147483647) (lead_a : (-2147483648) ≤ lead) (lead_b : lead ≤ 2147483647) (delay_a : (-2147483648) ≤ delay) (delay_b : delay ≤ 2147483647) (ci : CI E S G) : Calls E mX11_account [(2, this), (0, under), (0, lead), (0, delay)] S G 2 0 0 (fun r S' G' => S = S' ∧ (∃ G1, hw [(93, -1), (94, -1), (128, 0), (129, 1), (130, 0)] G G1 = G') ∧ ∃ z : Int, r = some (0, z) ∧ ∃ c2 : Int, c2 = G' 130 acc 0 ∧ ((z = (-1) ∧ c2 = cnt ∧ ((under ≠ -1 ∧ (under < 0 ∨ cnt ≤ under)) ∨ lead < 0 ∨ 30 < lead ∨ delay < 0 ∨ 30 < delay ∨ 20 ≤ cnt)) ∨ (0 ≤ z ∧ z ≤ 19 ∧ z = cnt ∧ c2 = cnt + 1 ∧ (under = -1 ∨ (0 ≤ under ∧ under + 1 ≤ cnt)) ∧ 0 ≤ lead ∧ lead ≤ 30 ∧ 0 ≤ delay ∧ delay ≤ 30 ∧ cnt + 1 ≤ 20))) := by
  refine calls_by [(0, (2, this)), (1, (0, under)), (2, (0, lead)), (3, (0, delay))] rfl rfl (Nat.le_of_ble_eq_true rfl) (fun X hX => ?_)
  have hP := hPX11_account
  refine r_peekI hX (tl_130 0 rfl (by decide)) acc_s (fun cnt_o cnt_oe cnt_oa cnt_ob => ?_)
  obtain rfl : cnt = cnt_o := cnt_e.trans cnt_oe.symm
  refine r_ex hX hP 2 (pc' := 2) (st' := [(0, (-1)), (0, under)]) (lo' := [(0, (2, this)), (1, (0, under)), (2, (0, lead)), (3, (0, delay))]) rfl ?_
  refine r_ic_eq hX hP rfl (tgt := 17) rfl (by omega) (by omega) (by omega) (by omega) (fun c1 => ?_) (fun c1 => ?_)
  · skip
    refine r_ex hX hP 5 (pc' := 24) (st' := [(0, 30), (0, 0), (0, lead)]) (lo' := [(0, (2, this)), (1, (0, under)), (2, (0, lead)), (3, (0, delay)), (4, (0, 0))]) rfl ?_
    refine r_callS gd hX hP rfl cs_X11_103 (d' := 0) (mc' := 0) (ms' := 0) (as' := [(0, lead), (0, 0), (0, 30)]) (st := []) (by omega) (by omega) (by omega) rfl rfl (Nat.le_of_ble_eq_true rfl) (c_X11_within E S G lead 0 30 (by omega) (by omega) (by omega) (by omega) (by omega) (by omega)) ?_
    rintro _ _ _ ⟨rfl, rfl, z2, rfl, (⟨rfl, f3, f4⟩ | ⟨rfl, f5⟩)⟩
    · skip
      refine r_if_eq hX hP rfl (tgt := 40) rfl (by omega) (by omega) (fun c6 => ?_) (fun c6 => ?_)
      · skip
        exfalso; omega
      · skip
        refine r_ex hX hP 3 (pc' := 34) (st' := [(0, 30), (0, 0), (0, delay)]) (lo' := [(0, (2, this)), (1, (0, under)), (2, (0, lead)), (3, (0, delay)), (4, (0, 0))]) rfl ?_
        refine r_callS gd hX hP rfl cs_X11_103 (d' := 0) (mc' := 0) (ms' := 0) (as' := [(0, delay), (0, 0), (0, 30)]) (st := []) (by omega) (by omega) (by omega) rfl rfl (Nat.le_of_ble_eq_true rfl) (c_X11_within E S G delay 0 30 (by omega) (by omega) (by omega) (by omega) (by omega) (by omega)) ?_
        rintro _ _ _ ⟨rfl, rfl, z7, rfl, (⟨rfl, f8, f9⟩ | ⟨rfl, f10⟩)⟩
        · skip
          refine r_if_ne hX hP rfl (tgt := 44) rfl (by omega) (by omega) (fun c11 => ?_) (fun c11 => ?_)
          · skip
            refine r_ex hX hP 6 (pc' := 53) (st' := [(2, this), (0, 0), (0, 0), (2, this)]) (lo' := [(0, (2, this)), (1, (0, under)), (2, (0, lead)), (3, (0, delay)), (4, (0, 0)), (5, (0, 0))]) rfl ?_
            refine r_getKR hX hP rfl fl_X11_24_128 hS (x := acc) acc_e ?_
            refine r_getKI hX hP rfl fl_X11_107_130 acc_s (x := cnt) cnt_e ?_
            refine r_ex hX hP 1 (pc' := 61) (st' := [(0, 20), (0, cnt), (0, 0), (0, 0), (2, this)]) (lo' := [(0, (2, this)), (1, (0, under)), (2, (0, lead)), (3, (0, delay)), (4, (0, 0)), (5, (0, 0))]) rfl ?_
            refine r_ic_lt hX hP rfl (tgt := 68) rfl (by omega) (by omega) (by omega) (by omega) (fun c12 => ?_) (fun c12 => ?_)
            · skip
              refine r_ex hX hP 2 (pc' := 70) (st' := [(0, 0), (0, 0), (0, 0), (0, 0), (2, this)]) (lo' := [(0, (2, this)), (1, (0, under)), (2, (0, lead)), (3, (0, delay)), (4, (0, 0)), (5, (0, 0))]) rfl ?_
              refine r_callS gd hX hP rfl cs_X11_112 (d' := 0) (mc' := 0) (ms' := 0) (as' := [(0, 0), (0, 0), (0, 0), (0, 0)]) (st := [(2, this)]) (by omega) (by omega) (by omega) rfl rfl (Nat.le_of_ble_eq_true rfl) (c_X11_first E S G 0 0 0 0 (by omega) (by omega) (by omega) (by omega) (by omega) (by omega) (by omega) (by omega)) ?_
              rintro _ _ _ ⟨rfl, rfl, z13, rfl, (⟨rfl, f14⟩ | ⟨rfl, f15, f16⟩ | ⟨rfl, f17, f18, f19⟩ | ⟨rfl, f20, f21, f22, f23⟩ | ⟨rfl, f24, f25, f26, f27⟩)⟩
              · skip
                exfalso; omega
              · skip
                exfalso; omega
              · skip
                exfalso; omega
              · skip
                exfalso; omega
              · skip
                refine r_callV gd hX hP rfl cv_X11_90_128 hS (d' := 0) (mc' := 0) (ms' := 0) (as' := [(0, 0)]) (st := []) (by omega) (by omega) (by omega) rfl rfl (Nat.le_of_ble_eq_true rfl) (c_X11_refused E S G this 0 hS (by omega) (by omega)) ?_
                rintro _ _ _ ⟨rfl, ⟨G28, rfl⟩, z29, rfl, (⟨rfl, f30⟩ | ⟨rfl, f31⟩)⟩
                · skip
                  exfalso; omega
                · skip
                  refine r_if_eq hX hP rfl (tgt := 81) rfl (by omega) (by omega) (fun c32 => ?_) (fun c32 => ?_)
                  · skip
                    refine r_ex hX hP 1 (pc' := 82) (st' := [(2, this)]) (lo' := [(0, (2, this)), (1, (0, under)), (2, (0, lead)), (3, (0, delay)), (4, (0, 0)), (5, (0, 0))]) rfl ?_
                    refine r_getR hX hP rfl fl_X11_16_128 hS (fun rf33 rf33e rf33s => ?_)
                    refine r_ex hX hP 1 (pc' := 86) (st' := [(0, 1), (2, rf33)]) (lo' := [(0, (2, this)), (1, (0, under)), (2, (0, lead)), (3, (0, delay)), (4, (0, 0)), (5, (0, 0))]) rfl ?_
                    refine r_putIK hX hP rfl fp_X11_96_129 rf33s (by omega) (by omega) (fun h34 => ?_)
                    refine r_ex hX hP 1 (pc' := 90) (st' := [(2, this)]) (lo' := [(0, (2, this)), (1, (0, under)), (2, (0, lead)), (3, (0, delay)), (4, (0, 0)), (5, (0, 0))]) rfl ?_
                    refine r_getKR hX hP rfl fl_X11_24_128 hS (x := acc) acc_e ?_
                    refine r_ex hX hP 3 (pc' := 96) (st' := [(0, delay), (0, lead), (0, under), (2, acc)]) (lo' := [(0, (2, this)), (1, (0, under)), (2, (0, lead)), (3, (0, delay)), (4, (0, 0)), (5, (0, 0))]) rfl ?_
                    refine r_callV gd hX hP rfl cv_X11_116_130 acc_s (d' := 0) (mc' := 0) (ms' := 0) (as' := [(0, under), (0, lead), (0, delay)]) (st := []) (by omega) (by omega) (by omega) rfl rfl (Nat.le_of_ble_eq_true rfl) (c_hangX E S (up (hw [(128, 0)] G G28) 129 rf33 1 1) acc under lead delay acc_s cnt cnt_e (by omega) (by omega) (by omega) (by omega) (by omega) (by omega) (by omega)) ?_
                    rintro _ _ _ ⟨rfl, ⟨G35, rfl⟩, z36, rfl, coh37, coh37e, z36a, z36b, f38, f39⟩
                    refine r_peekI hX (tl_130 0 rfl (by decide)) acc_s (fun o40 o40e o40a o40b => ?_)
                    obtain rfl : coh37 = o40 := coh37e.trans o40e.symm
                    exact r_retI hX hP rfl rfl (by omega) (by omega) ⟨rfl, ⟨_, (hw_sub (hw_up (hw_sub (hw_refl _ _) rfl) rfl) rfl).symm⟩, z36, rfl, coh37, coh37e, (by omega)⟩
                  · skip
                    exfalso; omega
            · skip
              refine r_ex hX hP 3 (pc' := 70) (st' := [(0, 0), (0, 1), (0, 0), (0, 0), (2, this)]) (lo' := [(0, (2, this)), (1, (0, under)), (2, (0, lead)), (3, (0, delay)), (4, (0, 0)), (5, (0, 0))]) rfl ?_
              refine r_callS gd hX hP rfl cs_X11_112 (d' := 0) (mc' := 0) (ms' := 0) (as' := [(0, 0), (0, 0), (0, 1), (0, 0)]) (st := [(2, this)]) (by omega) (by omega) (by omega) rfl rfl (Nat.le_of_ble_eq_true rfl) (c_X11_first E S G 0 0 1 0 (by omega) (by omega) (by omega) (by omega) (by omega) (by omega) (by omega) (by omega)) ?_
              rintro _ _ _ ⟨rfl, rfl, z41, rfl, (⟨rfl, f42⟩ | ⟨rfl, f43, f44⟩ | ⟨rfl, f45, f46, f47⟩ | ⟨rfl, f48, f49, f50, f51⟩ | ⟨rfl, f52, f53, f54, f55⟩)⟩
              · skip
                exfalso; omega
              · skip
                exfalso; omega
              · skip
                refine r_callV gd hX hP rfl cv_X11_90_128 hS (d' := 0) (mc' := 0) (ms' := 0) (as' := [(0, 3)]) (st := []) (by omega) (by omega) (by omega) rfl rfl (Nat.le_of_ble_eq_true rfl) (c_X11_refused E S G this 3 hS (by omega) (by omega)) ?_
                rintro _ _ _ ⟨rfl, ⟨G56, rfl⟩, z57, rfl, (⟨rfl, f58⟩ | ⟨rfl, f59⟩)⟩
                · skip
                  refine r_if_eq hX hP rfl (tgt := 81) rfl (by omega) (by omega) (fun c60 => ?_) (fun c60 => ?_)
                  · skip
                    exfalso; omega
                  · skip
                    refine r_ex hX hP 1 (pc' := 80) (st' := [(0, (-1))]) (lo' := [(0, (2, this)), (1, (0, under)), (2, (0, lead)), (3, (0, delay)), (4, (0, 0)), (5, (0, 0))]) rfl ?_
                    exact r_retI hX hP rfl rfl (by omega) (by omega) ⟨rfl, ⟨_, (hw_sub (hw_refl _ _) rfl).symm⟩, (-1), rfl, cnt, cnt_e, (by omega)⟩
                · skip
                  exfalso; omega
              · skip
                exfalso; omega
              · skip
                exfalso; omega
          · skip
            exfalso; omega
        · skip
          refine r_if_ne hX hP rfl (tgt := 44) rfl (by omega) (by omega) (fun c61 => ?_) (fun c61 => ?_)
          · skip
            exfalso; omega
          · skip
            refine r_ex hX hP 7 (pc' := 53) (st' := [(2, this), (0, 1), (0, 0), (2, this)]) (lo' := [(0, (2, this)), (1, (0, under)), (2, (0, lead)), (3, (0, delay)), (4, (0, 0)), (5, (0, 1))]) rfl ?_
            refine r_getKR hX hP rfl fl_X11_24_128 hS (x := acc) acc_e ?_
            refine r_getKI hX hP rfl fl_X11_107_130 acc_s (x := cnt) cnt_e ?_
            refine r_ex hX hP 1 (pc' := 61) (st' := [(0, 20), (0, cnt), (0, 1), (0, 0), (2, this)]) (lo' := [(0, (2, this)), (1, (0, under)), (2, (0, lead)), (3, (0, delay)), (4, (0, 0)), (5, (0, 1))]) rfl ?_
            refine r_ic_lt hX hP rfl (tgt := 68) rfl (by omega) (by omega) (by omega) (by omega) (fun c62 => ?_) (fun c62 => ?_)
            · skip
              refine r_ex hX hP 2 (pc' := 70) (st' := [(0, 0), (0, 0), (0, 1), (0, 0), (2, this)]) (lo' := [(0, (2, this)), (1, (0, under)), (2, (0, lead)), (3, (0, delay)), (4, (0, 0)), (5, (0, 1))]) rfl ?_
              refine r_callS gd hX hP rfl cs_X11_112 (d' := 0) (mc' := 0) (ms' := 0) (as' := [(0, 0), (0, 1), (0, 0), (0, 0)]) (st := [(2, this)]) (by omega) (by omega) (by omega) rfl rfl (Nat.le_of_ble_eq_true rfl) (c_X11_first E S G 0 1 0 0 (by omega) (by omega) (by omega) (by omega) (by omega) (by omega) (by omega) (by omega)) ?_
              rintro _ _ _ ⟨rfl, rfl, z63, rfl, (⟨rfl, f64⟩ | ⟨rfl, f65, f66⟩ | ⟨rfl, f67, f68, f69⟩ | ⟨rfl, f70, f71, f72, f73⟩ | ⟨rfl, f74, f75, f76, f77⟩)⟩
              · skip
                exfalso; omega
              · skip
                refine r_callV gd hX hP rfl cv_X11_90_128 hS (d' := 0) (mc' := 0) (ms' := 0) (as' := [(0, 2)]) (st := []) (by omega) (by omega) (by omega) rfl rfl (Nat.le_of_ble_eq_true rfl) (c_X11_refused E S G this 2 hS (by omega) (by omega)) ?_
                rintro _ _ _ ⟨rfl, ⟨G78, rfl⟩, z79, rfl, (⟨rfl, f80⟩ | ⟨rfl, f81⟩)⟩
                · skip
                  refine r_if_eq hX hP rfl (tgt := 81) rfl (by omega) (by omega) (fun c82 => ?_) (fun c82 => ?_)
                  · skip
                    exfalso; omega
                  · skip
                    refine r_ex hX hP 1 (pc' := 80) (st' := [(0, (-1))]) (lo' := [(0, (2, this)), (1, (0, under)), (2, (0, lead)), (3, (0, delay)), (4, (0, 0)), (5, (0, 1))]) rfl ?_
                    exact r_retI hX hP rfl rfl (by omega) (by omega) ⟨rfl, ⟨_, (hw_sub (hw_refl _ _) rfl).symm⟩, (-1), rfl, cnt, cnt_e, (by omega)⟩
                · skip
                  exfalso; omega
              · skip
                exfalso; omega
              · skip
                exfalso; omega
              · skip
                exfalso; omega
            · skip
              refine r_ex hX hP 3 (pc' := 70) (st' := [(0, 0), (0, 1), (0, 1), (0, 0), (2, this)]) (lo' := [(0, (2, this)), (1, (0, under)), (2, (0, lead)), (3, (0, delay)), (4, (0, 0)), (5, (0, 1))]) rfl ?_
              refine r_callS gd hX hP rfl cs_X11_112 (d' := 0) (mc' := 0) (ms' := 0) (as' := [(0, 0), (0, 1), (0, 1), (0, 0)]) (st := [(2, this)]) (by omega) (by omega) (by omega) rfl rfl (Nat.le_of_ble_eq_true rfl) (c_X11_first E S G 0 1 1 0 (by omega) (by omega) (by omega) (by omega) (by omega) (by omega) (by omega) (by omega)) ?_
              rintro _ _ _ ⟨rfl, rfl, z83, rfl, (⟨rfl, f84⟩ | ⟨rfl, f85, f86⟩ | ⟨rfl, f87, f88, f89⟩ | ⟨rfl, f90, f91, f92, f93⟩ | ⟨rfl, f94, f95, f96, f97⟩)⟩
              · skip
                exfalso; omega
              · skip
                refine r_callV gd hX hP rfl cv_X11_90_128 hS (d' := 0) (mc' := 0) (ms' := 0) (as' := [(0, 2)]) (st := []) (by omega) (by omega) (by omega) rfl rfl (Nat.le_of_ble_eq_true rfl) (c_X11_refused E S G this 2 hS (by omega) (by omega)) ?_
                rintro _ _ _ ⟨rfl, ⟨G98, rfl⟩, z99, rfl, (⟨rfl, f100⟩ | ⟨rfl, f101⟩)⟩
                · skip
                  refine r_if_eq hX hP rfl (tgt := 81) rfl (by omega) (by omega) (fun c102 => ?_) (fun c102 => ?_)
                  · skip
                    exfalso; omega
                  · skip
                    refine r_ex hX hP 1 (pc' := 80) (st' := [(0, (-1))]) (lo' := [(0, (2, this)), (1, (0, under)), (2, (0, lead)), (3, (0, delay)), (4, (0, 0)), (5, (0, 1))]) rfl ?_
                    exact r_retI hX hP rfl rfl (by omega) (by omega) ⟨rfl, ⟨_, (hw_sub (hw_refl _ _) rfl).symm⟩, (-1), rfl, cnt, cnt_e, (by omega)⟩
                · skip
                  exfalso; omega
              · skip
                exfalso; omega
              · skip
                exfalso; omega
              · skip
                exfalso; omega
    · skip
      refine r_if_eq hX hP rfl (tgt := 40) rfl (by omega) (by omega) (fun c103 => ?_) (fun c103 => ?_)
      · skip
        refine r_ex hX hP 7 (pc' := 53) (st' := [(2, this), (0, 1), (0, 0), (2, this)]) (lo' := [(0, (2, this)), (1, (0, under)), (2, (0, lead)), (3, (0, delay)), (4, (0, 0)), (5, (0, 1))]) rfl ?_
        refine r_getKR hX hP rfl fl_X11_24_128 hS (x := acc) acc_e ?_
        refine r_getKI hX hP rfl fl_X11_107_130 acc_s (x := cnt) cnt_e ?_
        refine r_ex hX hP 1 (pc' := 61) (st' := [(0, 20), (0, cnt), (0, 1), (0, 0), (2, this)]) (lo' := [(0, (2, this)), (1, (0, under)), (2, (0, lead)), (3, (0, delay)), (4, (0, 0)), (5, (0, 1))]) rfl ?_
        refine r_ic_lt hX hP rfl (tgt := 68) rfl (by omega) (by omega) (by omega) (by omega) (fun c104 => ?_) (fun c104 => ?_)
        · skip
          refine r_ex hX hP 2 (pc' := 70) (st' := [(0, 0), (0, 0), (0, 1), (0, 0), (2, this)]) (lo' := [(0, (2, this)), (1, (0, under)), (2, (0, lead)), (3, (0, delay)), (4, (0, 0)), (5, (0, 1))]) rfl ?_
          refine r_callS gd hX hP rfl cs_X11_112 (d' := 0) (mc' := 0) (ms' := 0) (as' := [(0, 0), (0, 1), (0, 0), (0, 0)]) (st := [(2, this)]) (by omega) (by omega) (by omega) rfl rfl (Nat.le_of_ble_eq_true rfl) (c_X11_first E S G 0 1 0 0 (by omega) (by omega) (by omega) (by omega) (by omega) (by omega) (by omega) (by omega)) ?_
          rintro _ _ _ ⟨rfl, rfl, z105, rfl, (⟨rfl, f106⟩ | ⟨rfl, f107, f108⟩ | ⟨rfl, f109, f110, f111⟩ | ⟨rfl, f112, f113, f114, f115⟩ | ⟨rfl, f116, f117, f118, f119⟩)⟩
          · skip
            exfalso; omega
          · skip
            refine r_callV gd hX hP rfl cv_X11_90_128 hS (d' := 0) (mc' := 0) (ms' := 0) (as' := [(0, 2)]) (st := []) (by omega) (by omega) (by omega) rfl rfl (Nat.le_of_ble_eq_true rfl) (c_X11_refused E S G this 2 hS (by omega) (by omega)) ?_
            rintro _ _ _ ⟨rfl, ⟨G120, rfl⟩, z121, rfl, (⟨rfl, f122⟩ | ⟨rfl, f123⟩)⟩
            · skip
              refine r_if_eq hX hP rfl (tgt := 81) rfl (by omega) (by omega) (fun c124 => ?_) (fun c124 => ?_)
              · skip
                exfalso; omega
              · skip
                refine r_ex hX hP 1 (pc' := 80) (st' := [(0, (-1))]) (lo' := [(0, (2, this)), (1, (0, under)), (2, (0, lead)), (3, (0, delay)), (4, (0, 0)), (5, (0, 1))]) rfl ?_
                exact r_retI hX hP rfl rfl (by omega) (by omega) ⟨rfl, ⟨_, (hw_sub (hw_refl _ _) rfl).symm⟩, (-1), rfl, cnt, cnt_e, (by omega)⟩
            · skip
              exfalso; omega
          · skip
            exfalso; omega
          · skip
            exfalso; omega
          · skip
            exfalso; omega
        · skip
          refine r_ex hX hP 3 (pc' := 70) (st' := [(0, 0), (0, 1), (0, 1), (0, 0), (2, this)]) (lo' := [(0, (2, this)), (1, (0, under)), (2, (0, lead)), (3, (0, delay)), (4, (0, 0)), (5, (0, 1))]) rfl ?_
          refine r_callS gd hX hP rfl cs_X11_112 (d' := 0) (mc' := 0) (ms' := 0) (as' := [(0, 0), (0, 1), (0, 1), (0, 0)]) (st := [(2, this)]) (by omega) (by omega) (by omega) rfl rfl (Nat.le_of_ble_eq_true rfl) (c_X11_first E S G 0 1 1 0 (by omega) (by omega) (by omega) (by omega) (by omega) (by omega) (by omega) (by omega)) ?_
          rintro _ _ _ ⟨rfl, rfl, z125, rfl, (⟨rfl, f126⟩ | ⟨rfl, f127, f128⟩ | ⟨rfl, f129, f130, f131⟩ | ⟨rfl, f132, f133, f134, f135⟩ | ⟨rfl, f136, f137, f138, f139⟩)⟩
          · skip
            exfalso; omega
          · skip
            refine r_callV gd hX hP rfl cv_X11_90_128 hS (d' := 0) (mc' := 0) (ms' := 0) (as' := [(0, 2)]) (st := []) (by omega) (by omega) (by omega) rfl rfl (Nat.le_of_ble_eq_true rfl) (c_X11_refused E S G this 2 hS (by omega) (by omega)) ?_
            rintro _ _ _ ⟨rfl, ⟨G140, rfl⟩, z141, rfl, (⟨rfl, f142⟩ | ⟨rfl, f143⟩)⟩
            · skip
              refine r_if_eq hX hP rfl (tgt := 81) rfl (by omega) (by omega) (fun c144 => ?_) (fun c144 => ?_)
              · skip
                exfalso; omega
              · skip
                refine r_ex hX hP 1 (pc' := 80) (st' := [(0, (-1))]) (lo' := [(0, (2, this)), (1, (0, under)), (2, (0, lead)), (3, (0, delay)), (4, (0, 0)), (5, (0, 1))]) rfl ?_
                exact r_retI hX hP rfl rfl (by omega) (by omega) ⟨rfl, ⟨_, (hw_sub (hw_refl _ _) rfl).symm⟩, (-1), rfl, cnt, cnt_e, (by omega)⟩
            · skip
              exfalso; omega
          · skip
            exfalso; omega
          · skip
            exfalso; omega
          · skip
            exfalso; omega
      · skip
        exfalso; omega
  · skip
    refine r_ex hX hP 2 (pc' := 7) (st' := [(0, under), (2, this)]) (lo' := [(0, (2, this)), (1, (0, under)), (2, (0, lead)), (3, (0, delay))]) rfl ?_
    refine r_callV gd hX hP rfl cv_X11_100_128 hS (d' := 1) (mc' := 0) (ms' := 0) (as' := [(0, under)]) (st := []) (by omega) (by omega) (by omega) rfl rfl (Nat.le_of_ble_eq_true rfl) (c_hasAccX E S G this under hS acc acc_e acc_s cnt cnt_e (by omega) (by omega)) ?_
    rintro _ _ _ ⟨rfl, rfl, z145, rfl, (⟨rfl, f146, f147⟩ | ⟨rfl, f148⟩)⟩
    · skip
      refine r_if_ne hX hP rfl (tgt := 17) rfl (by omega) (by omega) (fun c149 => ?_) (fun c149 => ?_)
      · skip
        refine r_ex hX hP 5 (pc' := 24) (st' := [(0, 30), (0, 0), (0, lead)]) (lo' := [(0, (2, this)), (1, (0, under)), (2, (0, lead)), (3, (0, delay)), (4, (0, 0))]) rfl ?_
        refine r_callS gd hX hP rfl cs_X11_103 (d' := 0) (mc' := 0) (ms' := 0) (as' := [(0, lead), (0, 0), (0, 30)]) (st := []) (by omega) (by omega) (by omega) rfl rfl (Nat.le_of_ble_eq_true rfl) (c_X11_within E S G lead 0 30 (by omega) (by omega) (by omega) (by omega) (by omega) (by omega)) ?_
        rintro _ _ _ ⟨rfl, rfl, z150, rfl, (⟨rfl, f151, f152⟩ | ⟨rfl, f153⟩)⟩
        · skip
          refine r_if_eq hX hP rfl (tgt := 40) rfl (by omega) (by omega) (fun c154 => ?_) (fun c154 => ?_)
          · skip
            exfalso; omega
          · skip
            refine r_ex hX hP 3 (pc' := 34) (st' := [(0, 30), (0, 0), (0, delay)]) (lo' := [(0, (2, this)), (1, (0, under)), (2, (0, lead)), (3, (0, delay)), (4, (0, 0))]) rfl ?_
            refine r_callS gd hX hP rfl cs_X11_103 (d' := 0) (mc' := 0) (ms' := 0) (as' := [(0, delay), (0, 0), (0, 30)]) (st := []) (by omega) (by omega) (by omega) rfl rfl (Nat.le_of_ble_eq_true rfl) (c_X11_within E S G delay 0 30 (by omega) (by omega) (by omega) (by omega) (by omega) (by omega)) ?_
            rintro _ _ _ ⟨rfl, rfl, z155, rfl, (⟨rfl, f156, f157⟩ | ⟨rfl, f158⟩)⟩
            · skip
              refine r_if_ne hX hP rfl (tgt := 44) rfl (by omega) (by omega) (fun c159 => ?_) (fun c159 => ?_)
              · skip
                refine r_ex hX hP 6 (pc' := 53) (st' := [(2, this), (0, 0), (0, 0), (2, this)]) (lo' := [(0, (2, this)), (1, (0, under)), (2, (0, lead)), (3, (0, delay)), (4, (0, 0)), (5, (0, 0))]) rfl ?_
                refine r_getKR hX hP rfl fl_X11_24_128 hS (x := acc) acc_e ?_
                refine r_getKI hX hP rfl fl_X11_107_130 acc_s (x := cnt) cnt_e ?_
                refine r_ex hX hP 1 (pc' := 61) (st' := [(0, 20), (0, cnt), (0, 0), (0, 0), (2, this)]) (lo' := [(0, (2, this)), (1, (0, under)), (2, (0, lead)), (3, (0, delay)), (4, (0, 0)), (5, (0, 0))]) rfl ?_
                refine r_ic_lt hX hP rfl (tgt := 68) rfl (by omega) (by omega) (by omega) (by omega) (fun c160 => ?_) (fun c160 => ?_)
                · skip
                  refine r_ex hX hP 2 (pc' := 70) (st' := [(0, 0), (0, 0), (0, 0), (0, 0), (2, this)]) (lo' := [(0, (2, this)), (1, (0, under)), (2, (0, lead)), (3, (0, delay)), (4, (0, 0)), (5, (0, 0))]) rfl ?_
                  refine r_callS gd hX hP rfl cs_X11_112 (d' := 0) (mc' := 0) (ms' := 0) (as' := [(0, 0), (0, 0), (0, 0), (0, 0)]) (st := [(2, this)]) (by omega) (by omega) (by omega) rfl rfl (Nat.le_of_ble_eq_true rfl) (c_X11_first E S G 0 0 0 0 (by omega) (by omega) (by omega) (by omega) (by omega) (by omega) (by omega) (by omega)) ?_
                  rintro _ _ _ ⟨rfl, rfl, z161, rfl, (⟨rfl, f162⟩ | ⟨rfl, f163, f164⟩ | ⟨rfl, f165, f166, f167⟩ | ⟨rfl, f168, f169, f170, f171⟩ | ⟨rfl, f172, f173, f174, f175⟩)⟩
                  · skip
                    exfalso; omega
                  · skip
                    exfalso; omega
                  · skip
                    exfalso; omega
                  · skip
                    exfalso; omega
                  · skip
                    refine r_callV gd hX hP rfl cv_X11_90_128 hS (d' := 0) (mc' := 0) (ms' := 0) (as' := [(0, 0)]) (st := []) (by omega) (by omega) (by omega) rfl rfl (Nat.le_of_ble_eq_true rfl) (c_X11_refused E S G this 0 hS (by omega) (by omega)) ?_
                    rintro _ _ _ ⟨rfl, ⟨G176, rfl⟩, z177, rfl, (⟨rfl, f178⟩ | ⟨rfl, f179⟩)⟩
                    · skip
                      exfalso; omega
                    · skip
                      refine r_if_eq hX hP rfl (tgt := 81) rfl (by omega) (by omega) (fun c180 => ?_) (fun c180 => ?_)
                      · skip
                        refine r_ex hX hP 1 (pc' := 82) (st' := [(2, this)]) (lo' := [(0, (2, this)), (1, (0, under)), (2, (0, lead)), (3, (0, delay)), (4, (0, 0)), (5, (0, 0))]) rfl ?_
                        refine r_getR hX hP rfl fl_X11_16_128 hS (fun rf181 rf181e rf181s => ?_)
                        refine r_ex hX hP 1 (pc' := 86) (st' := [(0, 1), (2, rf181)]) (lo' := [(0, (2, this)), (1, (0, under)), (2, (0, lead)), (3, (0, delay)), (4, (0, 0)), (5, (0, 0))]) rfl ?_
                        refine r_putIK hX hP rfl fp_X11_96_129 rf181s (by omega) (by omega) (fun h182 => ?_)
                        refine r_ex hX hP 1 (pc' := 90) (st' := [(2, this)]) (lo' := [(0, (2, this)), (1, (0, under)), (2, (0, lead)), (3, (0, delay)), (4, (0, 0)), (5, (0, 0))]) rfl ?_
                        refine r_getKR hX hP rfl fl_X11_24_128 hS (x := acc) acc_e ?_
                        refine r_ex hX hP 3 (pc' := 96) (st' := [(0, delay), (0, lead), (0, under), (2, acc)]) (lo' := [(0, (2, this)), (1, (0, under)), (2, (0, lead)), (3, (0, delay)), (4, (0, 0)), (5, (0, 0))]) rfl ?_
                        refine r_callV gd hX hP rfl cv_X11_116_130 acc_s (d' := 0) (mc' := 0) (ms' := 0) (as' := [(0, under), (0, lead), (0, delay)]) (st := []) (by omega) (by omega) (by omega) rfl rfl (Nat.le_of_ble_eq_true rfl) (c_hangX E S (up (hw [(128, 0)] G G176) 129 rf181 1 1) acc under lead delay acc_s cnt cnt_e (by omega) (by omega) (by omega) (by omega) (by omega) (by omega) (by omega)) ?_
                        rintro _ _ _ ⟨rfl, ⟨G183, rfl⟩, z184, rfl, coh185, coh185e, z184a, z184b, f186, f187⟩
                        refine r_peekI hX (tl_130 0 rfl (by decide)) acc_s (fun o188 o188e o188a o188b => ?_)
                        obtain rfl : coh185 = o188 := coh185e.trans o188e.symm
                        exact r_retI hX hP rfl rfl (by omega) (by omega) ⟨rfl, ⟨_, (hw_sub (hw_up (hw_sub (hw_refl _ _) rfl) rfl) rfl).symm⟩, z184, rfl, coh185, coh185e, (by omega)⟩
                      · skip
                        exfalso; omega
                · skip
                  refine r_ex hX hP 3 (pc' := 70) (st' := [(0, 0), (0, 1), (0, 0), (0, 0), (2, this)]) (lo' := [(0, (2, this)), (1, (0, under)), (2, (0, lead)), (3, (0, delay)), (4, (0, 0)), (5, (0, 0))]) rfl ?_
                  refine r_callS gd hX hP rfl cs_X11_112 (d' := 0) (mc' := 0) (ms' := 0) (as' := [(0, 0), (0, 0), (0, 1), (0, 0)]) (st := [(2, this)]) (by omega) (by omega) (by omega) rfl rfl (Nat.le_of_ble_eq_true rfl) (c_X11_first E S G 0 0 1 0 (by omega) (by omega) (by omega) (by omega) (by omega) (by omega) (by omega) (by omega)) ?_
                  rintro _ _ _ ⟨rfl, rfl, z189, rfl, (⟨rfl, f190⟩ | ⟨rfl, f191, f192⟩ | ⟨rfl, f193, f194, f195⟩ | ⟨rfl, f196, f197, f198, f199⟩ | ⟨rfl, f200, f201, f202, f203⟩)⟩
                  · skip
                    exfalso; omega
                  · skip
                    exfalso; omega
                  · skip
                    refine r_callV gd hX hP rfl cv_X11_90_128 hS (d' := 0) (mc' := 0) (ms' := 0) (as' := [(0, 3)]) (st := []) (by omega) (by omega) (by omega) rfl rfl (Nat.le_of_ble_eq_true rfl) (c_X11_refused E S G this 3 hS (by omega) (by omega)) ?_
                    rintro _ _ _ ⟨rfl, ⟨G204, rfl⟩, z205, rfl, (⟨rfl, f206⟩ | ⟨rfl, f207⟩)⟩
                    · skip
                      refine r_if_eq hX hP rfl (tgt := 81) rfl (by omega) (by omega) (fun c208 => ?_) (fun c208 => ?_)
                      · skip
                        exfalso; omega
                      · skip
                        refine r_ex hX hP 1 (pc' := 80) (st' := [(0, (-1))]) (lo' := [(0, (2, this)), (1, (0, under)), (2, (0, lead)), (3, (0, delay)), (4, (0, 0)), (5, (0, 0))]) rfl ?_
                        exact r_retI hX hP rfl rfl (by omega) (by omega) ⟨rfl, ⟨_, (hw_sub (hw_refl _ _) rfl).symm⟩, (-1), rfl, cnt, cnt_e, (by omega)⟩
                    · skip
                      exfalso; omega
                  · skip
                    exfalso; omega
                  · skip
                    exfalso; omega
              · skip
                exfalso; omega
            · skip
              refine r_if_ne hX hP rfl (tgt := 44) rfl (by omega) (by omega) (fun c209 => ?_) (fun c209 => ?_)
              · skip
                exfalso; omega
              · skip
                refine r_ex hX hP 7 (pc' := 53) (st' := [(2, this), (0, 1), (0, 0), (2, this)]) (lo' := [(0, (2, this)), (1, (0, under)), (2, (0, lead)), (3, (0, delay)), (4, (0, 0)), (5, (0, 1))]) rfl ?_
                refine r_getKR hX hP rfl fl_X11_24_128 hS (x := acc) acc_e ?_
                refine r_getKI hX hP rfl fl_X11_107_130 acc_s (x := cnt) cnt_e ?_
                refine r_ex hX hP 1 (pc' := 61) (st' := [(0, 20), (0, cnt), (0, 1), (0, 0), (2, this)]) (lo' := [(0, (2, this)), (1, (0, under)), (2, (0, lead)), (3, (0, delay)), (4, (0, 0)), (5, (0, 1))]) rfl ?_
                refine r_ic_lt hX hP rfl (tgt := 68) rfl (by omega) (by omega) (by omega) (by omega) (fun c210 => ?_) (fun c210 => ?_)
                · skip
                  refine r_ex hX hP 2 (pc' := 70) (st' := [(0, 0), (0, 0), (0, 1), (0, 0), (2, this)]) (lo' := [(0, (2, this)), (1, (0, under)), (2, (0, lead)), (3, (0, delay)), (4, (0, 0)), (5, (0, 1))]) rfl ?_
                  refine r_callS gd hX hP rfl cs_X11_112 (d' := 0) (mc' := 0) (ms' := 0) (as' := [(0, 0), (0, 1), (0, 0), (0, 0)]) (st := [(2, this)]) (by omega) (by omega) (by omega) rfl rfl (Nat.le_of_ble_eq_true rfl) (c_X11_first E S G 0 1 0 0 (by omega) (by omega) (by omega) (by omega) (by omega) (by omega) (by omega) (by omega)) ?_
                  rintro _ _ _ ⟨rfl, rfl, z211, rfl, (⟨rfl, f212⟩ | ⟨rfl, f213, f214⟩ | ⟨rfl, f215, f216, f217⟩ | ⟨rfl, f218, f219, f220, f221⟩ | ⟨rfl, f222, f223, f224, f225⟩)⟩
                  · skip
                    exfalso; omega
                  · skip
                    refine r_callV gd hX hP rfl cv_X11_90_128 hS (d' := 0) (mc' := 0) (ms' := 0) (as' := [(0, 2)]) (st := []) (by omega) (by omega) (by omega) rfl rfl (Nat.le_of_ble_eq_true rfl) (c_X11_refused E S G this 2 hS (by omega) (by omega)) ?_
                    rintro _ _ _ ⟨rfl, ⟨G226, rfl⟩, z227, rfl, (⟨rfl, f228⟩ | ⟨rfl, f229⟩)⟩
                    · skip
                      refine r_if_eq hX hP rfl (tgt := 81) rfl (by omega) (by omega) (fun c230 => ?_) (fun c230 => ?_)
                      · skip
                        exfalso; omega
                      · skip
                        refine r_ex hX hP 1 (pc' := 80) (st' := [(0, (-1))]) (lo' := [(0, (2, this)), (1, (0, under)), (2, (0, lead)), (3, (0, delay)), (4, (0, 0)), (5, (0, 1))]) rfl ?_
                        exact r_retI hX hP rfl rfl (by omega) (by omega) ⟨rfl, ⟨_, (hw_sub (hw_refl _ _) rfl).symm⟩, (-1), rfl, cnt, cnt_e, (by omega)⟩
                    · skip
                      exfalso; omega
                  · skip
                    exfalso; omega
                  · skip
                    exfalso; omega
                  · skip
                    exfalso; omega
                · skip
                  refine r_ex hX hP 3 (pc' := 70) (st' := [(0, 0), (0, 1), (0, 1), (0, 0), (2, this)]) (lo' := [(0, (2, this)), (1, (0, under)), (2, (0, lead)), (3, (0, delay)), (4, (0, 0)), (5, (0, 1))]) rfl ?_
                  refine r_callS gd hX hP rfl cs_X11_112 (d' := 0) (mc' := 0) (ms' := 0) (as' := [(0, 0), (0, 1), (0, 1), (0, 0)]) (st := [(2, this)]) (by omega) (by omega) (by omega) rfl rfl (Nat.le_of_ble_eq_true rfl) (c_X11_first E S G 0 1 1 0 (by omega) (by omega) (by omega) (by omega) (by omega) (by omega) (by omega) (by omega)) ?_
                  rintro _ _ _ ⟨rfl, rfl, z231, rfl, (⟨rfl, f232⟩ | ⟨rfl, f233, f234⟩ | ⟨rfl, f235, f236, f237⟩ | ⟨rfl, f238, f239, f240, f241⟩ | ⟨rfl, f242, f243, f244, f245⟩)⟩
                  · skip
                    exfalso; omega
                  · skip
                    refine r_callV gd hX hP rfl cv_X11_90_128 hS (d' := 0) (mc' := 0) (ms' := 0) (as' := [(0, 2)]) (st := []) (by omega) (by omega) (by omega) rfl rfl (Nat.le_of_ble_eq_true rfl) (c_X11_refused E S G this 2 hS (by omega) (by omega)) ?_
                    rintro _ _ _ ⟨rfl, ⟨G246, rfl⟩, z247, rfl, (⟨rfl, f248⟩ | ⟨rfl, f249⟩)⟩
                    · skip
                      refine r_if_eq hX hP rfl (tgt := 81) rfl (by omega) (by omega) (fun c250 => ?_) (fun c250 => ?_)
                      · skip
                        exfalso; omega
                      · skip
                        refine r_ex hX hP 1 (pc' := 80) (st' := [(0, (-1))]) (lo' := [(0, (2, this)), (1, (0, under)), (2, (0, lead)), (3, (0, delay)), (4, (0, 0)), (5, (0, 1))]) rfl ?_
                        exact r_retI hX hP rfl rfl (by omega) (by omega) ⟨rfl, ⟨_, (hw_sub (hw_refl _ _) rfl).symm⟩, (-1), rfl, cnt, cnt_e, (by omega)⟩
                    · skip
                      exfalso; omega
                  · skip
                    exfalso; omega
                  · skip
                    exfalso; omega
                  · skip
                    exfalso; omega
        · skip
          refine r_if_eq hX hP rfl (tgt := 40) rfl (by omega) (by omega) (fun c251 => ?_) (fun c251 => ?_)
          · skip
            refine r_ex hX hP 7 (pc' := 53) (st' := [(2, this), (0, 1), (0, 0), (2, this)]) (lo' := [(0, (2, this)), (1, (0, under)), (2, (0, lead)), (3, (0, delay)), (4, (0, 0)), (5, (0, 1))]) rfl ?_
            refine r_getKR hX hP rfl fl_X11_24_128 hS (x := acc) acc_e ?_
            refine r_getKI hX hP rfl fl_X11_107_130 acc_s (x := cnt) cnt_e ?_
            refine r_ex hX hP 1 (pc' := 61) (st' := [(0, 20), (0, cnt), (0, 1), (0, 0), (2, this)]) (lo' := [(0, (2, this)), (1, (0, under)), (2, (0, lead)), (3, (0, delay)), (4, (0, 0)), (5, (0, 1))]) rfl ?_
            refine r_ic_lt hX hP rfl (tgt := 68) rfl (by omega) (by omega) (by omega) (by omega) (fun c252 => ?_) (fun c252 => ?_)
            · skip
              refine r_ex hX hP 2 (pc' := 70) (st' := [(0, 0), (0, 0), (0, 1), (0, 0), (2, this)]) (lo' := [(0, (2, this)), (1, (0, under)), (2, (0, lead)), (3, (0, delay)), (4, (0, 0)), (5, (0, 1))]) rfl ?_
              refine r_callS gd hX hP rfl cs_X11_112 (d' := 0) (mc' := 0) (ms' := 0) (as' := [(0, 0), (0, 1), (0, 0), (0, 0)]) (st := [(2, this)]) (by omega) (by omega) (by omega) rfl rfl (Nat.le_of_ble_eq_true rfl) (c_X11_first E S G 0 1 0 0 (by omega) (by omega) (by omega) (by omega) (by omega) (by omega) (by omega) (by omega)) ?_
              rintro _ _ _ ⟨rfl, rfl, z253, rfl, (⟨rfl, f254⟩ | ⟨rfl, f255, f256⟩ | ⟨rfl, f257, f258, f259⟩ | ⟨rfl, f260, f261, f262, f263⟩ | ⟨rfl, f264, f265, f266, f267⟩)⟩
              · skip
                exfalso; omega
              · skip
                refine r_callV gd hX hP rfl cv_X11_90_128 hS (d' := 0) (mc' := 0) (ms' := 0) (as' := [(0, 2)]) (st := []) (by omega) (by omega) (by omega) rfl rfl (Nat.le_of_ble_eq_true rfl) (c_X11_refused E S G this 2 hS (by omega) (by omega)) ?_
                rintro _ _ _ ⟨rfl, ⟨G268, rfl⟩, z269, rfl, (⟨rfl, f270⟩ | ⟨rfl, f271⟩)⟩
                · skip
                  refine r_if_eq hX hP rfl (tgt := 81) rfl (by omega) (by omega) (fun c272 => ?_) (fun c272 => ?_)
                  · skip
                    exfalso; omega
                  · skip
                    refine r_ex hX hP 1 (pc' := 80) (st' := [(0, (-1))]) (lo' := [(0, (2, this)), (1, (0, under)), (2, (0, lead)), (3, (0, delay)), (4, (0, 0)), (5, (0, 1))]) rfl ?_
                    exact r_retI hX hP rfl rfl (by omega) (by omega) ⟨rfl, ⟨_, (hw_sub (hw_refl _ _) rfl).symm⟩, (-1), rfl, cnt, cnt_e, (by omega)⟩
                · skip
                  exfalso; omega
              · skip
                exfalso; omega
              · skip
                exfalso; omega
              · skip
                exfalso; omega
            · skip
              refine r_ex hX hP 3 (pc' := 70) (st' := [(0, 0), (0, 1), (0, 1), (0, 0), (2, this)]) (lo' := [(0, (2, this)), (1, (0, under)), (2, (0, lead)), (3, (0, delay)), (4, (0, 0)), (5, (0, 1))]) rfl ?_
              refine r_callS gd hX hP rfl cs_X11_112 (d' := 0) (mc' := 0) (ms' := 0) (as' := [(0, 0), (0, 1), (0, 1), (0, 0)]) (st := [(2, this)]) (by omega) (by omega) (by omega) rfl rfl (Nat.le_of_ble_eq_true rfl) (c_X11_first E S G 0 1 1 0 (by omega) (by omega) (by omega) (by omega) (by omega) (by omega) (by omega) (by omega)) ?_
              rintro _ _ _ ⟨rfl, rfl, z273, rfl, (⟨rfl, f274⟩ | ⟨rfl, f275, f276⟩ | ⟨rfl, f277, f278, f279⟩ | ⟨rfl, f280, f281, f282, f283⟩ | ⟨rfl, f284, f285, f286, f287⟩)⟩
              · skip
                exfalso; omega
              · skip
                refine r_callV gd hX hP rfl cv_X11_90_128 hS (d' := 0) (mc' := 0) (ms' := 0) (as' := [(0, 2)]) (st := []) (by omega) (by omega) (by omega) rfl rfl (Nat.le_of_ble_eq_true rfl) (c_X11_refused E S G this 2 hS (by omega) (by omega)) ?_
                rintro _ _ _ ⟨rfl, ⟨G288, rfl⟩, z289, rfl, (⟨rfl, f290⟩ | ⟨rfl, f291⟩)⟩
                · skip
                  refine r_if_eq hX hP rfl (tgt := 81) rfl (by omega) (by omega) (fun c292 => ?_) (fun c292 => ?_)
                  · skip
                    exfalso; omega
                  · skip
                    refine r_ex hX hP 1 (pc' := 80) (st' := [(0, (-1))]) (lo' := [(0, (2, this)), (1, (0, under)), (2, (0, lead)), (3, (0, delay)), (4, (0, 0)), (5, (0, 1))]) rfl ?_
                    exact r_retI hX hP rfl rfl (by omega) (by omega) ⟨rfl, ⟨_, (hw_sub (hw_refl _ _) rfl).symm⟩, (-1), rfl, cnt, cnt_e, (by omega)⟩
                · skip
                  exfalso; omega
              · skip
                exfalso; omega
              · skip
                exfalso; omega
              · skip
                exfalso; omega
          · skip
            exfalso; omega
      · skip
        exfalso; omega
    · skip
      refine r_if_ne hX hP rfl (tgt := 17) rfl (by omega) (by omega) (fun c293 => ?_) (fun c293 => ?_)
      · skip
        exfalso; omega
      · skip
        refine r_ex hX hP 6 (pc' := 24) (st' := [(0, 30), (0, 0), (0, lead)]) (lo' := [(0, (2, this)), (1, (0, under)), (2, (0, lead)), (3, (0, delay)), (4, (0, 1))]) rfl ?_
        refine r_callS gd hX hP rfl cs_X11_103 (d' := 0) (mc' := 0) (ms' := 0) (as' := [(0, lead), (0, 0), (0, 30)]) (st := []) (by omega) (by omega) (by omega) rfl rfl (Nat.le_of_ble_eq_true rfl) (c_X11_within E S G lead 0 30 (by omega) (by omega) (by omega) (by omega) (by omega) (by omega)) ?_
        rintro _ _ _ ⟨rfl, rfl, z294, rfl, (⟨rfl, f295, f296⟩ | ⟨rfl, f297⟩)⟩
        · skip
          refine r_if_eq hX hP rfl (tgt := 40) rfl (by omega) (by omega) (fun c298 => ?_) (fun c298 => ?_)
          · skip
            exfalso; omega
          · skip
            refine r_ex hX hP 3 (pc' := 34) (st' := [(0, 30), (0, 0), (0, delay)]) (lo' := [(0, (2, this)), (1, (0, under)), (2, (0, lead)), (3, (0, delay)), (4, (0, 1))]) rfl ?_
            refine r_callS gd hX hP rfl cs_X11_103 (d' := 0) (mc' := 0) (ms' := 0) (as' := [(0, delay), (0, 0), (0, 30)]) (st := []) (by omega) (by omega) (by omega) rfl rfl (Nat.le_of_ble_eq_true rfl) (c_X11_within E S G delay 0 30 (by omega) (by omega) (by omega) (by omega) (by omega) (by omega)) ?_
            rintro _ _ _ ⟨rfl, rfl, z299, rfl, (⟨rfl, f300, f301⟩ | ⟨rfl, f302⟩)⟩
            · skip
              refine r_if_ne hX hP rfl (tgt := 44) rfl (by omega) (by omega) (fun c303 => ?_) (fun c303 => ?_)
              · skip
                refine r_ex hX hP 6 (pc' := 53) (st' := [(2, this), (0, 0), (0, 1), (2, this)]) (lo' := [(0, (2, this)), (1, (0, under)), (2, (0, lead)), (3, (0, delay)), (4, (0, 1)), (5, (0, 0))]) rfl ?_
                refine r_getKR hX hP rfl fl_X11_24_128 hS (x := acc) acc_e ?_
                refine r_getKI hX hP rfl fl_X11_107_130 acc_s (x := cnt) cnt_e ?_
                refine r_ex hX hP 1 (pc' := 61) (st' := [(0, 20), (0, cnt), (0, 0), (0, 1), (2, this)]) (lo' := [(0, (2, this)), (1, (0, under)), (2, (0, lead)), (3, (0, delay)), (4, (0, 1)), (5, (0, 0))]) rfl ?_
                refine r_ic_lt hX hP rfl (tgt := 68) rfl (by omega) (by omega) (by omega) (by omega) (fun c304 => ?_) (fun c304 => ?_)
                · skip
                  refine r_ex hX hP 2 (pc' := 70) (st' := [(0, 0), (0, 0), (0, 0), (0, 1), (2, this)]) (lo' := [(0, (2, this)), (1, (0, under)), (2, (0, lead)), (3, (0, delay)), (4, (0, 1)), (5, (0, 0))]) rfl ?_
                  refine r_callS gd hX hP rfl cs_X11_112 (d' := 0) (mc' := 0) (ms' := 0) (as' := [(0, 1), (0, 0), (0, 0), (0, 0)]) (st := [(2, this)]) (by omega) (by omega) (by omega) rfl rfl (Nat.le_of_ble_eq_true rfl) (c_X11_first E S G 1 0 0 0 (by omega) (by omega) (by omega) (by omega) (by omega) (by omega) (by omega) (by omega)) ?_
                  rintro _ _ _ ⟨rfl, rfl, z305, rfl, (⟨rfl, f306⟩ | ⟨rfl, f307, f308⟩ | ⟨rfl, f309, f310, f311⟩ | ⟨rfl, f312, f313, f314, f315⟩ | ⟨rfl, f316, f317, f318, f319⟩)⟩
                  · skip
                    refine r_callV gd hX hP rfl cv_X11_90_128 hS (d' := 0) (mc' := 0) (ms' := 0) (as' := [(0, 1)]) (st := []) (by omega) (by omega) (by omega) rfl rfl (Nat.le_of_ble_eq_true rfl) (c_X11_refused E S G this 1 hS (by omega) (by omega)) ?_
                    rintro _ _ _ ⟨rfl, ⟨G320, rfl⟩, z321, rfl, (⟨rfl, f322⟩ | ⟨rfl, f323⟩)⟩
                    · skip
                      refine r_if_eq hX hP rfl (tgt := 81) rfl (by omega) (by omega) (fun c324 => ?_) (fun c324 => ?_)
                      · skip
                        exfalso; omega
                      · skip
                        refine r_ex hX hP 1 (pc' := 80) (st' := [(0, (-1))]) (lo' := [(0, (2, this)), (1, (0, under)), (2, (0, lead)), (3, (0, delay)), (4, (0, 1)), (5, (0, 0))]) rfl ?_
                        exact r_retI hX hP rfl rfl (by omega) (by omega) ⟨rfl, ⟨_, (hw_sub (hw_refl _ _) rfl).symm⟩, (-1), rfl, cnt, cnt_e, (by omega)⟩
                    · skip
                      exfalso; omega
                  · skip
                    exfalso; omega
                  · skip
                    exfalso; omega
                  · skip
                    exfalso; omega
                  · skip
                    exfalso; omega
                · skip
                  refine r_ex hX hP 3 (pc' := 70) (st' := [(0, 0), (0, 1), (0, 0), (0, 1), (2, this)]) (lo' := [(0, (2, this)), (1, (0, under)), (2, (0, lead)), (3, (0, delay)), (4, (0, 1)), (5, (0, 0))]) rfl ?_
                  refine r_callS gd hX hP rfl cs_X11_112 (d' := 0) (mc' := 0) (ms' := 0) (as' := [(0, 1), (0, 0), (0, 1), (0, 0)]) (st := [(2, this)]) (by omega) (by omega) (by omega) rfl rfl (Nat.le_of_ble_eq_true rfl) (c_X11_first E S G 1 0 1 0 (by omega) (by omega) (by omega) (by omega) (by omega) (by omega) (by omega) (by omega)) ?_
                  rintro _ _ _ ⟨rfl, rfl, z325, rfl, (⟨rfl, f326⟩ | ⟨rfl, f327, f328⟩ | ⟨rfl, f329, f330, f331⟩ | ⟨rfl, f332, f333, f334, f335⟩ | ⟨rfl, f336, f337, f338, f339⟩)⟩
                  · skip
                    refine r_callV gd hX hP rfl cv_X11_90_128 hS (d' := 0) (mc' := 0) (ms' := 0) (as' := [(0, 1)]) (st := []) (by omega) (by omega) (by omega) rfl rfl (Nat.le_of_ble_eq_true rfl) (c_X11_refused E S G this 1 hS (by omega) (by omega)) ?_
                    rintro _ _ _ ⟨rfl, ⟨G340, rfl⟩, z341, rfl, (⟨rfl, f342⟩ | ⟨rfl, f343⟩)⟩
                    · skip
                      refine r_if_eq hX hP rfl (tgt := 81) rfl (by omega) (by omega) (fun c344 => ?_) (fun c344 => ?_)
                      · skip
                        exfalso; omega
                      · skip
                        refine r_ex hX hP 1 (pc' := 80) (st' := [(0, (-1))]) (lo' := [(0, (2, this)), (1, (0, under)), (2, (0, lead)), (3, (0, delay)), (4, (0, 1)), (5, (0, 0))]) rfl ?_
                        exact r_retI hX hP rfl rfl (by omega) (by omega) ⟨rfl, ⟨_, (hw_sub (hw_refl _ _) rfl).symm⟩, (-1), rfl, cnt, cnt_e, (by omega)⟩
                    · skip
                      exfalso; omega
                  · skip
                    exfalso; omega
                  · skip
                    exfalso; omega
                  · skip
                    exfalso; omega
                  · skip
                    exfalso; omega
              · skip
                exfalso; omega
            · skip
              refine r_if_ne hX hP rfl (tgt := 44) rfl (by omega) (by omega) (fun c345 => ?_) (fun c345 => ?_)
              · skip
                exfalso; omega
              · skip
                refine r_ex hX hP 7 (pc' := 53) (st' := [(2, this), (0, 1), (0, 1), (2, this)]) (lo' := [(0, (2, this)), (1, (0, under)), (2, (0, lead)), (3, (0, delay)), (4, (0, 1)), (5, (0, 1))]) rfl ?_
                refine r_getKR hX hP rfl fl_X11_24_128 hS (x := acc) acc_e ?_
                refine r_getKI hX hP rfl fl_X11_107_130 acc_s (x := cnt) cnt_e ?_
                refine r_ex hX hP 1 (pc' := 61) (st' := [(0, 20), (0, cnt), (0, 1), (0, 1), (2, this)]) (lo' := [(0, (2, this)), (1, (0, under)), (2, (0, lead)), (3, (0, delay)), (4, (0, 1)), (5, (0, 1))]) rfl ?_
                refine r_ic_lt hX hP rfl (tgt := 68) rfl (by omega) (by omega) (by omega) (by omega) (fun c346 => ?_) (fun c346 => ?_)
                · skip
                  refine r_ex hX hP 2 (pc' := 70) (st' := [(0, 0), (0, 0), (0, 1), (0, 1), (2, this)]) (lo' := [(0, (2, this)), (1, (0, under)), (2, (0, lead)), (3, (0, delay)), (4, (0, 1)), (5, (0, 1))]) rfl ?_
                  refine r_callS gd hX hP rfl cs_X11_112 (d' := 0) (mc' := 0) (ms' := 0) (as' := [(0, 1), (0, 1), (0, 0), (0, 0)]) (st := [(2, this)]) (by omega) (by omega) (by omega) rfl rfl (Nat.le_of_ble_eq_true rfl) (c_X11_first E S G 1 1 0 0 (by omega) (by omega) (by omega) (by omega) (by omega) (by omega) (by omega) (by omega)) ?_
                  rintro _ _ _ ⟨rfl, rfl, z347, rfl, (⟨rfl, f348⟩ | ⟨rfl, f349, f350⟩ | ⟨rfl, f351, f352, f353⟩ | ⟨rfl, f354, f355, f356, f357⟩ | ⟨rfl, f358, f359, f360, f361⟩)⟩
                  · skip
                    refine r_callV gd hX hP rfl cv_X11_90_128 hS (d' := 0) (mc' := 0) (ms' := 0) (as' := [(0, 1)]) (st := []) (by omega) (by omega) (by omega) rfl rfl (Nat.le_of_ble_eq_true rfl) (c_X11_refused E S G this 1 hS (by omega) (by omega)) ?_
                    rintro _ _ _ ⟨rfl, ⟨G362, rfl⟩, z363, rfl, (⟨rfl, f364⟩ | ⟨rfl, f365⟩)⟩
                    · skip
                      refine r_if_eq hX hP rfl (tgt := 81) rfl (by omega) (by omega) (fun c366 => ?_) (fun c366 => ?_)
                      · skip
                        exfalso; omega
                      · skip
                        refine r_ex hX hP 1 (pc' := 80) (st' := [(0, (-1))]) (lo' := [(0, (2, this)), (1, (0, under)), (2, (0, lead)), (3, (0, delay)), (4, (0, 1)), (5, (0, 1))]) rfl ?_
                        exact r_retI hX hP rfl rfl (by omega) (by omega) ⟨rfl, ⟨_, (hw_sub (hw_refl _ _) rfl).symm⟩, (-1), rfl, cnt, cnt_e, (by omega)⟩
                    · skip
                      exfalso; omega
                  · skip
                    exfalso; omega
                  · skip
                    exfalso; omega
                  · skip
                    exfalso; omega
                  · skip
                    exfalso; omega
                · skip
                  refine r_ex hX hP 3 (pc' := 70) (st' := [(0, 0), (0, 1), (0, 1), (0, 1), (2, this)]) (lo' := [(0, (2, this)), (1, (0, under)), (2, (0, lead)), (3, (0, delay)), (4, (0, 1)), (5, (0, 1))]) rfl ?_
                  refine r_callS gd hX hP rfl cs_X11_112 (d' := 0) (mc' := 0) (ms' := 0) (as' := [(0, 1), (0, 1), (0, 1), (0, 0)]) (st := [(2, this)]) (by omega) (by omega) (by omega) rfl rfl (Nat.le_of_ble_eq_true rfl) (c_X11_first E S G 1 1 1 0 (by omega) (by omega) (by omega) (by omega) (by omega) (by omega) (by omega) (by omega)) ?_
                  rintro _ _ _ ⟨rfl, rfl, z367, rfl, (⟨rfl, f368⟩ | ⟨rfl, f369, f370⟩ | ⟨rfl, f371, f372, f373⟩ | ⟨rfl, f374, f375, f376, f377⟩ | ⟨rfl, f378, f379, f380, f381⟩)⟩
                  · skip
                    refine r_callV gd hX hP rfl cv_X11_90_128 hS (d' := 0) (mc' := 0) (ms' := 0) (as' := [(0, 1)]) (st := []) (by omega) (by omega) (by omega) rfl rfl (Nat.le_of_ble_eq_true rfl) (c_X11_refused E S G this 1 hS (by omega) (by omega)) ?_
                    rintro _ _ _ ⟨rfl, ⟨G382, rfl⟩, z383, rfl, (⟨rfl, f384⟩ | ⟨rfl, f385⟩)⟩
                    · skip
                      refine r_if_eq hX hP rfl (tgt := 81) rfl (by omega) (by omega) (fun c386 => ?_) (fun c386 => ?_)
                      · skip
                        exfalso; omega
                      · skip
                        refine r_ex hX hP 1 (pc' := 80) (st' := [(0, (-1))]) (lo' := [(0, (2, this)), (1, (0, under)), (2, (0, lead)), (3, (0, delay)), (4, (0, 1)), (5, (0, 1))]) rfl ?_
                        exact r_retI hX hP rfl rfl (by omega) (by omega) ⟨rfl, ⟨_, (hw_sub (hw_refl _ _) rfl).symm⟩, (-1), rfl, cnt, cnt_e, (by omega)⟩
                    · skip
                      exfalso; omega
                  · skip
                    exfalso; omega
                  · skip
                    exfalso; omega
                  · skip
                    exfalso; omega
                  · skip
                    exfalso; omega
        · skip
          refine r_if_eq hX hP rfl (tgt := 40) rfl (by omega) (by omega) (fun c387 => ?_) (fun c387 => ?_)
          · skip
            refine r_ex hX hP 7 (pc' := 53) (st' := [(2, this), (0, 1), (0, 1), (2, this)]) (lo' := [(0, (2, this)), (1, (0, under)), (2, (0, lead)), (3, (0, delay)), (4, (0, 1)), (5, (0, 1))]) rfl ?_
            refine r_getKR hX hP rfl fl_X11_24_128 hS (x := acc) acc_e ?_
            refine r_getKI hX hP rfl fl_X11_107_130 acc_s (x := cnt) cnt_e ?_
            refine r_ex hX hP 1 (pc' := 61) (st' := [(0, 20), (0, cnt), (0, 1), (0, 1), (2, this)]) (lo' := [(0, (2, this)), (1, (0, under)), (2, (0, lead)), (3, (0, delay)), (4, (0, 1)), (5, (0, 1))]) rfl ?_
            refine r_ic_lt hX hP rfl (tgt := 68) rfl (by omega) (by omega) (by omega) (by omega) (fun c388 => ?_) (fun c388 => ?_)
            · skip
              refine r_ex hX hP 2 (pc' := 70) (st' := [(0, 0), (0, 0), (0, 1), (0, 1), (2, this)]) (lo' := [(0, (2, this)), (1, (0, under)), (2, (0, lead)), (3, (0, delay)), (4, (0, 1)), (5, (0, 1))]) rfl ?_
              refine r_callS gd hX hP rfl cs_X11_112 (d' := 0) (mc' := 0) (ms' := 0) (as' := [(0, 1), (0, 1), (0, 0), (0, 0)]) (st := [(2, this)]) (by omega) (by omega) (by omega) rfl rfl (Nat.le_of_ble_eq_true rfl) (c_X11_first E S G 1 1 0 0 (by omega) (by omega) (by omega) (by omega) (by omega) (by omega) (by omega) (by omega)) ?_
              rintro _ _ _ ⟨rfl, rfl, z389, rfl, (⟨rfl, f390⟩ | ⟨rfl, f391, f392⟩ | ⟨rfl, f393, f394, f395⟩ | ⟨rfl, f396, f397, f398, f399⟩ | ⟨rfl, f400, f401, f402, f403⟩)⟩
              · skip
                refine r_callV gd hX hP rfl cv_X11_90_128 hS (d' := 0) (mc' := 0) (ms' := 0) (as' := [(0, 1)]) (st := []) (by omega) (by omega) (by omega) rfl rfl (Nat.le_of_ble_eq_true rfl) (c_X11_refused E S G this 1 hS (by omega) (by omega)) ?_
                rintro _ _ _ ⟨rfl, ⟨G404, rfl⟩, z405, rfl, (⟨rfl, f406⟩ | ⟨rfl, f407⟩)⟩
                · skip
                  refine r_if_eq hX hP rfl (tgt := 81) rfl (by omega) (by omega) (fun c408 => ?_) (fun c408 => ?_)
                  · skip
                    exfalso; omega
                  · skip
                    refine r_ex hX hP 1 (pc' := 80) (st' := [(0, (-1))]) (lo' := [(0, (2, this)), (1, (0, under)), (2, (0, lead)), (3, (0, delay)), (4, (0, 1)), (5, (0, 1))]) rfl ?_
                    exact r_retI hX hP rfl rfl (by omega) (by omega) ⟨rfl, ⟨_, (hw_sub (hw_refl _ _) rfl).symm⟩, (-1), rfl, cnt, cnt_e, (by omega)⟩
                · skip
                  exfalso; omega
              · skip
                exfalso; omega
              · skip
                exfalso; omega
              · skip
                exfalso; omega
              · skip
                exfalso; omega
            · skip
              refine r_ex hX hP 3 (pc' := 70) (st' := [(0, 0), (0, 1), (0, 1), (0, 1), (2, this)]) (lo' := [(0, (2, this)), (1, (0, under)), (2, (0, lead)), (3, (0, delay)), (4, (0, 1)), (5, (0, 1))]) rfl ?_
              refine r_callS gd hX hP rfl cs_X11_112 (d' := 0) (mc' := 0) (ms' := 0) (as' := [(0, 1), (0, 1), (0, 1), (0, 0)]) (st := [(2, this)]) (by omega) (by omega) (by omega) rfl rfl (Nat.le_of_ble_eq_true rfl) (c_X11_first E S G 1 1 1 0 (by omega) (by omega) (by omega) (by omega) (by omega) (by omega) (by omega) (by omega)) ?_
              rintro _ _ _ ⟨rfl, rfl, z409, rfl, (⟨rfl, f410⟩ | ⟨rfl, f411, f412⟩ | ⟨rfl, f413, f414, f415⟩ | ⟨rfl, f416, f417, f418, f419⟩ | ⟨rfl, f420, f421, f422, f423⟩)⟩
              · skip
                refine r_callV gd hX hP rfl cv_X11_90_128 hS (d' := 0) (mc' := 0) (ms' := 0) (as' := [(0, 1)]) (st := []) (by omega) (by omega) (by omega) rfl rfl (Nat.le_of_ble_eq_true rfl) (c_X11_refused E S G this 1 hS (by omega) (by omega)) ?_
                rintro _ _ _ ⟨rfl, ⟨G424, rfl⟩, z425, rfl, (⟨rfl, f426⟩ | ⟨rfl, f427⟩)⟩
                · skip
                  refine r_if_eq hX hP rfl (tgt := 81) rfl (by omega) (by omega) (fun c428 => ?_) (fun c428 => ?_)
                  · skip
                    exfalso; omega
                  · skip
                    refine r_ex hX hP 1 (pc' := 80) (st' := [(0, (-1))]) (lo' := [(0, (2, this)), (1, (0, under)), (2, (0, lead)), (3, (0, delay)), (4, (0, 1)), (5, (0, 1))]) rfl ?_
                    exact r_retI hX hP rfl rfl (by omega) (by omega) ⟨rfl, ⟨_, (hw_sub (hw_refl _ _) rfl).symm⟩, (-1), rfl, cnt, cnt_e, (by omega)⟩
                · skip
                  exfalso; omega
              · skip
                exfalso; omega
              · skip
                exfalso; omega
              · skip
                exfalso; omega
              · skip
                exfalso; omega
          · skip
            exfalso; omega
set_option maxRecDepth 100000 in
set_option maxHeartbeats 4000000 in
theorem c_addX (E : En) (S : Sg) (G : Gh) (this : Int) (fromPaper : Int) (toPaper : Int) (onDay : Int) (by_ : Int) (per : Int) (isSure : Int) (hS : S this = 132) (cnt : Int) (cnt_e : cnt = G 132 this 0) (fromPaper_a : (-2147483648) ≤ fromPaper) (fromPaper_b : fromPaper ≤ 2147483647) (toPaper_a : (-2147483648) ≤ toPaper) (toPaper_b : toPaper ≤ 2147483647) (onDay_a : (-2147483648) ≤ onDay) (onDay_b : onDay ≤ 2147483647) (by__a : (-2147483648) ≤ by_) (by__b : by_ ≤ 2147483647) (per_a : (-2147483648) ≤ per) (per_b : per ≤ 2147483647) (isSure_a : 0 ≤ isSure) (isSure_b : isSure ≤ 1) (pre0 : cnt ≤ 11) : Calls E mX7_add [(2, this), (0, fromPaper), (0, toPaper), (0, onDay), (0, by_), (0, per), (0, isSure)] S G 0 0 0 (fun r S' G' => S = S' ∧ (∃ G1, hw [(108, -1), (109, -1), (110, -1), (132, 0)] G G1 = G') ∧ ∃ z : Int, r = some (0, z) ∧ ∃ c2 : Int, c2 = G' 132 this 0 ∧ 0 ≤ z ∧ z ≤ 11 ∧ z = cnt ∧ c2 = cnt + 1) := by
  refine calls_by [(0, (2, this)), (1, (0, fromPaper)), (2, (0, toPaper)), (3, (0, onDay)), (4, (0, by_)), (5, (0, per)), (6, (0, isSure))] rfl rfl (Nat.le_of_ble_eq_true rfl) (fun X hX => ?_)
  have hP := hPX7_add
  refine r_peekI hX (tl_132 0 rfl (by decide)) hS (fun cnt_o cnt_oe cnt_oa cnt_ob => ?_)
  obtain rfl : cnt = cnt_o := cnt_e.trans cnt_oe.symm
  refine r_ex hX hP 1 (pc' := 1) (st' := [(2, this)]) (lo' := [(0, (2, this)), (1, (0, fromPaper)), (2, (0, toPaper)), (3, (0, onDay)), (4, (0, by_)), (5, (0, per)), (6, (0, isSure))]) rfl ?_
  refine r_getKI hX hP rfl fl_X7_47_132 hS (x := cnt) cnt_e ?_
  refine r_ex hX hP 2 (pc' := 7) (st' := [(2, this)]) (lo' := [(0, (2, this)), (1, (0, fromPaper)), (2, (0, toPaper)), (3, (0, onDay)), (4, (0, by_)), (5, (0, per)), (6, (0, isSure)), (7, (0, cnt))]) rfl ?_
  refine r_getR hX hP rfl fl_X7_9_132 hS (fun ff1 ff1e ff1s => ?_)
  refine r_ex hX hP 2 (pc' := 13) (st' := [(0, fromPaper), (0, cnt), (2, ff1)]) (lo' := [(0, (2, this)), (1, (0, fromPaper)), (2, (0, toPaper)), (3, (0, onDay)), (4, (0, by_)), (5, (0, per)), (6, (0, isSure)), (7, (0, cnt))]) rfl ?_
  refine r_iastK hX hP rfl al_108 ff1s (by omega) (by omega) (by omega) (by omega) (fun h2 => ?_)
  refine r_ex hX hP 1 (pc' := 15) (st' := [(2, this)]) (lo' := [(0, (2, this)), (1, (0, fromPaper)), (2, (0, toPaper)), (3, (0, onDay)), (4, (0, by_)), (5, (0, per)), (6, (0, isSure)), (7, (0, cnt))]) rfl ?_
  refine r_getR hX hP rfl fl_X7_15_132 hS (fun tf3 tf3e tf3s => ?_)
  refine r_ex hX hP 2 (pc' := 21) (st' := [(0, toPaper), (0, cnt), (2, tf3)]) (lo' := [(0, (2, this)), (1, (0, fromPaper)), (2, (0, toPaper)), (3, (0, onDay)), (4, (0, by_)), (5, (0, per)), (6, (0, isSure)), (7, (0, cnt))]) rfl ?_
  refine r_iastK hX hP rfl al_108 tf3s (by omega) (by omega) (by omega) (by omega) (fun h4 => ?_)
  refine r_ex hX hP 1 (pc' := 23) (st' := [(2, this)]) (lo' := [(0, (2, this)), (1, (0, fromPaper)), (2, (0, toPaper)), (3, (0, onDay)), (4, (0, by_)), (5, (0, per)), (6, (0, isSure)), (7, (0, cnt))]) rfl ?_
  refine r_getR hX hP rfl fl_X7_18_132 hS (fun df5 df5e df5s => ?_)
  refine r_ex hX hP 2 (pc' := 29) (st' := [(0, onDay), (0, cnt), (2, df5)]) (lo' := [(0, (2, this)), (1, (0, fromPaper)), (2, (0, toPaper)), (3, (0, onDay)), (4, (0, by_)), (5, (0, per)), (6, (0, isSure)), (7, (0, cnt))]) rfl ?_
  refine r_iastK hX hP rfl al_108 df5s (by omega) (by omega) (by omega) (by omega) (fun h6 => ?_)
  refine r_ex hX hP 1 (pc' := 31) (st' := [(2, this)]) (lo' := [(0, (2, this)), (1, (0, fromPaper)), (2, (0, toPaper)), (3, (0, onDay)), (4, (0, by_)), (5, (0, per)), (6, (0, isSure)), (7, (0, cnt))]) rfl ?_
  refine r_getR hX hP rfl fl_X7_21_132 hS (fun mf7 mf7e mf7s => ?_)
  refine r_ex hX hP 2 (pc' := 38) (st' := [(0, by_), (0, cnt), (2, mf7)]) (lo' := [(0, (2, this)), (1, (0, fromPaper)), (2, (0, toPaper)), (3, (0, onDay)), (4, (0, by_)), (5, (0, per)), (6, (0, isSure)), (7, (0, cnt))]) rfl ?_
  refine r_iastK hX hP rfl al_108 mf7s (by omega) (by omega) (by omega) (by omega) (fun h8 => ?_)
  refine r_ex hX hP 1 (pc' := 40) (st' := [(2, this)]) (lo' := [(0, (2, this)), (1, (0, fromPaper)), (2, (0, toPaper)), (3, (0, onDay)), (4, (0, by_)), (5, (0, per)), (6, (0, isSure)), (7, (0, cnt))]) rfl ?_
  refine r_getR hX hP rfl fl_X7_24_132 hS (fun nf9 nf9e nf9s => ?_)
  refine r_ex hX hP 2 (pc' := 47) (st' := [(0, per), (0, cnt), (2, nf9)]) (lo' := [(0, (2, this)), (1, (0, fromPaper)), (2, (0, toPaper)), (3, (0, onDay)), (4, (0, by_)), (5, (0, per)), (6, (0, isSure)), (7, (0, cnt))]) rfl ?_
  refine r_iastK hX hP rfl al_108 nf9s (by omega) (by omega) (by omega) (by omega) (fun h10 => ?_)
  refine r_ex hX hP 1 (pc' := 49) (st' := [(2, this)]) (lo' := [(0, (2, this)), (1, (0, fromPaper)), (2, (0, toPaper)), (3, (0, onDay)), (4, (0, by_)), (5, (0, per)), (6, (0, isSure)), (7, (0, cnt))]) rfl ?_
  refine r_getR hX hP rfl fl_X7_27_132 hS (fun sf11 sf11e sf11s => ?_)
  refine r_ex hX hP 2 (pc' := 56) (st' := [(0, isSure), (0, cnt), (2, sf11)]) (lo' := [(0, (2, this)), (1, (0, fromPaper)), (2, (0, toPaper)), (3, (0, onDay)), (4, (0, by_)), (5, (0, per)), (6, (0, isSure)), (7, (0, cnt))]) rfl ?_
  refine r_zastK hX hP rfl al_110 sf11s (by omega) (by omega) (by omega) (by omega) (by omega) (by omega) (fun h12 => ?_)
  refine r_ex hX hP 1 (pc' := 58) (st' := [(2, this)]) (lo' := [(0, (2, this)), (1, (0, fromPaper)), (2, (0, toPaper)), (3, (0, onDay)), (4, (0, by_)), (5, (0, per)), (6, (0, isSure)), (7, (0, cnt))]) rfl ?_
  refine r_getKI hX hP rfl fl_X7_47_132 hS (x := cnt) cnt_e ?_
  refine r_ex hX hP 1 (pc' := 63) (st' := []) (lo' := [(0, (2, this)), (1, (0, fromPaper)), (2, (0, toPaper)), (3, (0, onDay)), (4, (0, by_)), (5, (0, per)), (6, (0, isSure)), (7, (0, cnt)), (8, (0, cnt))]) rfl ?_
  have x108 : ∀ (l8_x108 : Int) (Gx108 : Gh), 0 ≤ l8_x108 → l8_x108 ≤ 11 → X 0 0 108 [] [(0, (2, this)), (1, (0, fromPaper)), (2, (0, toPaper)), (3, (0, onDay)), (4, (0, by_)), (5, (0, per)), (6, (0, isSure)), (7, (0, cnt)), (8, (0, l8_x108))] S (hw [(109, -1)] (up (up (up (up (up (up G 108 ff1 cnt fromPaper) 108 tf3 cnt toPaper) 108 df5 cnt onDay) 108 mf7 cnt by_) 108 nf9 cnt per) 110 sf11 cnt isSure) Gx108) := by
    intro l8_x108 Gx108 yx108_0 yx108_1
    refine r_ex hX hP 1 (pc' := 109) (st' := [(2, this)]) (lo' := [(0, (2, this)), (1, (0, fromPaper)), (2, (0, toPaper)), (3, (0, onDay)), (4, (0, by_)), (5, (0, per)), (6, (0, isSure)), (7, (0, cnt)), (8, (0, l8_x108))]) rfl ?_
    refine r_getR hX hP rfl fl_X7_31_132 hS (fun of13 of13e of13s => ?_)
    refine r_ex hX hP 2 (pc' := 116) (st' := [(0, cnt), (0, l8_x108), (2, of13)]) (lo' := [(0, (2, this)), (1, (0, fromPaper)), (2, (0, toPaper)), (3, (0, onDay)), (4, (0, by_)), (5, (0, per)), (6, (0, isSure)), (7, (0, cnt)), (8, (0, l8_x108))]) rfl ?_
    refine r_iastK hX hP rfl al_109 of13s (by omega) (by omega) (by omega) (by omega) (fun h14 => ?_)
    refine r_ex hX hP 2 (pc' := 119) (st' := [(2, this), (2, this)]) (lo' := [(0, (2, this)), (1, (0, fromPaper)), (2, (0, toPaper)), (3, (0, onDay)), (4, (0, by_)), (5, (0, per)), (6, (0, isSure)), (7, (0, cnt)), (8, (0, l8_x108))]) rfl ?_
    refine r_getKI hX hP rfl fl_X7_47_132 hS (x := cnt) cnt_e ?_
    refine r_ex hX hP 2 (pc' := 124) (st' := [(0, (cnt + 1)), (2, this)]) (lo' := [(0, (2, this)), (1, (0, fromPaper)), (2, (0, toPaper)), (3, (0, onDay)), (4, (0, by_)), (5, (0, per)), (6, (0, isSure)), (7, (0, cnt)), (8, (0, l8_x108))]) rfl ?_
    refine r_putIK hX hP rfl fp_X7_47_132 hS (by omega) (by omega) (fun h15 => ?_)
    refine r_ex hX hP 1 (pc' := 129) (st' := [(0, cnt)]) (lo' := [(0, (2, this)), (1, (0, fromPaper)), (2, (0, toPaper)), (3, (0, onDay)), (4, (0, by_)), (5, (0, per)), (6, (0, isSure)), (7, (0, cnt)), (8, (0, l8_x108))]) rfl ?_
    exact r_retI hX hP rfl rfl (by omega) (by omega) ⟨rfl, ⟨_, (hw_up (hw_up (hw_sub (hw_up (hw_up (hw_up (hw_up (hw_up (hw_up (hw_refl _ _) rfl) rfl) rfl) rfl) rfl) rfl) rfl) rfl) rfl).symm⟩, cnt, rfl, (cnt + 1), h15, (by omega), (by omega), (by omega), (by omega)⟩
  have loop63 : ∀ (nF : Nat) (l8_h63 : Int) (Gh63 : Gh), 0 ≤ l8_h63 → l8_h63 ≤ 11 → l8_h63 - 0 < (nF : Int) → X 0 0 63 [] [(0, (2, this)), (1, (0, fromPaper)), (2, (0, toPaper)), (3, (0, onDay)), (4, (0, by_)), (5, (0, per)), (6, (0, isSure)), (7, (0, cnt)), (8, (0, l8_h63))] S (hw [(109, -1)] (up (up (up (up (up (up G 108 ff1 cnt fromPaper) 108 tf3 cnt toPaper) 108 df5 cnt onDay) 108 mf7 cnt by_) 108 nf9 cnt per) 110 sf11 cnt isSure) Gh63) := by
    intro nF
    induction nF with
    | zero => intro l8_h63 Gh63 yh63_0 yh63_1 ym63; exfalso; omega
    | succ nF ih63 =>
      intro l8_h63 Gh63 yh63_0 yh63_1 ym63
      refine r_ex hX hP 1 (pc' := 65) (st' := [(0, l8_h63)]) (lo' := [(0, (2, this)), (1, (0, fromPaper)), (2, (0, toPaper)), (3, (0, onDay)), (4, (0, by_)), (5, (0, per)), (6, (0, isSure)), (7, (0, cnt)), (8, (0, l8_h63))]) rfl ?_
      refine r_if_le hX hP rfl (tgt := 108) rfl (by omega) (by omega) (fun c16 => ?_) (fun c16 => ?_)
      · skip
        refine r_eqG (X := X) (hw_sub (hw_refl [(109, -1)] _) rfl) ?_
        exact x108 l8_h63 _ (by omega) (by omega)
      · skip
        refine r_ex hX hP 1 (pc' := 69) (st' := [(2, this)]) (lo' := [(0, (2, this)), (1, (0, fromPaper)), (2, (0, toPaper)), (3, (0, onDay)), (4, (0, by_)), (5, (0, per)), (6, (0, isSure)), (7, (0, cnt)), (8, (0, l8_h63))]) rfl ?_
        refine r_getKR hX hP rfl fl_X7_18_132 hS (x := df5) df5e ?_
        refine r_ex hX hP 1 (pc' := 73) (st' := [(2, this), (2, df5)]) (lo' := [(0, (2, this)), (1, (0, fromPaper)), (2, (0, toPaper)), (3, (0, onDay)), (4, (0, by_)), (5, (0, per)), (6, (0, isSure)), (7, (0, cnt)), (8, (0, l8_h63))]) rfl ?_
        refine r_getR hX hP rfl fl_X7_31_132 hS (fun of17 of17e of17s => ?_)
        refine r_ex hX hP 3 (pc' := 80) (st' := [(0, (l8_h63 - 1)), (2, of17), (2, df5)]) (lo' := [(0, (2, this)), (1, (0, fromPaper)), (2, (0, toPaper)), (3, (0, onDay)), (4, (0, by_)), (5, (0, per)), (6, (0, isSure)), (7, (0, cnt)), (8, (0, l8_h63))]) rfl ?_
        refine r_iald hX hP rfl al_109 of17s (by omega) (by omega) (fun x18 x18e x18a x18b => ?_)
        refine r_iald hX hP rfl al_108 df5s (by omega) (by omega) (fun x19 x19e x19a x19b => ?_)
        refine r_ex hX hP 1 (pc' := 83) (st' := [(0, onDay), (0, x19)]) (lo' := [(0, (2, this)), (1, (0, fromPaper)), (2, (0, toPaper)), (3, (0, onDay)), (4, (0, by_)), (5, (0, per)), (6, (0, isSure)), (7, (0, cnt)), (8, (0, l8_h63))]) rfl ?_
        refine r_ic_le hX hP rfl (tgt := 108) rfl (by omega) (by omega) (by omega) (by omega) (fun c20 => ?_) (fun c20 => ?_)
        · skip
          refine r_eqG (X := X) (hw_sub (hw_refl [(109, -1)] _) rfl) ?_
          exact x108 l8_h63 _ (by omega) (by omega)
        · skip
          refine r_ex hX hP 1 (pc' := 87) (st' := [(2, this)]) (lo' := [(0, (2, this)), (1, (0, fromPaper)), (2, (0, toPaper)), (3, (0, onDay)), (4, (0, by_)), (5, (0, per)), (6, (0, isSure)), (7, (0, cnt)), (8, (0, l8_h63))]) rfl ?_
          refine r_getKR hX hP rfl fl_X7_31_132 hS (x := of17) of17e ?_
          refine r_ex hX hP 2 (pc' := 93) (st' := [(2, this), (0, l8_h63), (2, of17)]) (lo' := [(0, (2, this)), (1, (0, fromPaper)), (2, (0, toPaper)), (3, (0, onDay)), (4, (0, by_)), (5, (0, per)), (6, (0, isSure)), (7, (0, cnt)), (8, (0, l8_h63))]) rfl ?_
          refine r_getKR hX hP rfl fl_X7_31_132 hS (x := of17) of17e ?_
          refine r_ex hX hP 3 (pc' := 100) (st' := [(0, (l8_h63 - 1)), (2, of17), (0, l8_h63), (2, of17)]) (lo' := [(0, (2, this)), (1, (0, fromPaper)), (2, (0, toPaper)), (3, (0, onDay)), (4, (0, by_)), (5, (0, per)), (6, (0, isSure)), (7, (0, cnt)), (8, (0, l8_h63))]) rfl ?_
          refine r_ialdK hX hP rfl al_109 of17s (by omega) (by omega) (x := x18) x18e ?_
          refine r_iastK hX hP rfl al_109 of17s (by omega) (by omega) (by omega) (by omega) (fun h21 => ?_)
          refine r_ex hX hP 2 (pc' := 63) (st' := []) (lo' := [(0, (2, this)), (1, (0, fromPaper)), (2, (0, toPaper)), (3, (0, onDay)), (4, (0, by_)), (5, (0, per)), (6, (0, isSure)), (7, (0, cnt)), (8, (0, (l8_h63 + (-1))))]) rfl ?_
          refine r_eqG (X := X) (hw_up (hw_base _ _ _) rfl) ?_
          exact ih63 (l8_h63 + (-1)) _ (by omega) (by omega) (by omega)
  refine r_eqG (X := X) (hw_refl [(109, -1)] _) ?_
  exact loop63 ((cnt - 0) + 1 : Int).toNat cnt _ (by omega) (by omega) (by omega)
set_option maxRecDepth 100000 in
set_option maxHeartbeats 4000000 in
theorem c_hintX (E : En) (S : Sg) (G : Gh) (this : Int) (frm : Int) (to_ : Int) (day : Int) (m : Int) (n : Int) (sure : Int) (hS : S this = 128) (rid : Int) (rid_e : rid = G 128 this 18) (rid_s : S rid = 132) (cnt : Int) (cnt_e : cnt = G 132 rid 0) (frm_a : (-2147483648) ≤ frm) (frm_b : frm ≤ 2147483647) (to__a : (-2147483648) ≤ to_) (to__b : to_ ≤ 2147483647) (day_a : (-2147483648) ≤ day) (day_b : day ≤ 2147483647) (m_a : (-2147483648) ≤ m) (m_b : m ≤ 2147483647) (n_a : (-2147483648) ≤ n) (n_b : n ≤ 2147483647) (sure_a : 0 ≤ sure) (sure_b : sure ≤ 1) : Calls E mX11_hint [(2, this), (0, frm), (0, to_), (0, day), (0, m), (0, n), (0, sure)] S G 2 0 0 (fun r S' G' => S = S' ∧ (∃ G1, hw [(108, -1), (109, -1), (110, -1), (128, 0), (132, 0)] G G1 = G') ∧ ∃ z : Int, r = some (0, z) ∧ ∃ c2 : Int, c2 = G' 132 rid 0 ∧ ((z = (-1) ∧ c2 = cnt ∧ (frm < 0 ∨ 19 < frm ∨ to_ < 0 ∨ 19 < to_ ∨ day < 0 ∨ 40000 < day ∨ m < 1 ∨ 1000 < m ∨ n < 1 ∨ 1000 < n ∨ 12 ≤ cnt)) ∨ (0 ≤ z ∧ z ≤ 11 ∧ z = cnt ∧ c2 = cnt + 1 ∧ 0 ≤ frm ∧ frm ≤ 19 ∧ 0 ≤ to_ ∧ to_ ≤ 19 ∧ 0 ≤ day ∧ day ≤ 40000 ∧ 1 ≤ m ∧ m ≤ 1000 ∧ 1 ≤ n ∧ n ≤ 1000 ∧ cnt + 1 ≤ 12))) := by
  refine calls_by [(0, (2, this)), (1, (0, frm)), (2, (0, to_)), (3, (0, day)), (4, (0, m)), (5, (0, n)), (6, (0, sure))] rfl rfl (Nat.le_of_ble_eq_true rfl) (fun X hX => ?_)
  have hP := hPX11_hint
  refine r_peekI hX (tl_132 0 rfl (by decide)) rid_s (fun cnt_o cnt_oe cnt_oa cnt_ob => ?_)
  obtain rfl : cnt = cnt_o := cnt_e.trans cnt_oe.symm
  refine r_ex hX hP 1 (pc' := 1) (st' := [(0, day)]) (lo' := [(0, (2, this)), (1, (0, frm)), (2, (0, to_)), (3, (0, day)), (4, (0, m)), (5, (0, n)), (6, (0, sure))]) rfl ?_
  refine r_callS gd hX hP rfl cs_X11_86 (d' := 1) (mc' := 0) (ms' := 0) (as' := [(0, day)]) (st := []) (by omega) (by omega) (by omega) rfl rfl (Nat.le_of_ble_eq_true rfl) (c_X11_isDay E S G day (by omega) (by omega)) ?_
  rintro _ _ _ ⟨rfl, rfl, z1, rfl, (⟨rfl, f2, f3⟩ | ⟨rfl, f4⟩)⟩
  · skip
    refine r_if_eq hX hP rfl (tgt := 31) rfl (by omega) (by omega) (fun c5 => ?_) (fun c5 => ?_)
    · skip
      exfalso; omega
    · skip
      refine r_ex hX hP 3 (pc' := 13) (st' := [(0, 1000), (0, 1), (0, m)]) (lo' := [(0, (2, this)), (1, (0, frm)), (2, (0, to_)), (3, (0, day)), (4, (0, m)), (5, (0, n)), (6, (0, sure))]) rfl ?_
      refine r_callS gd hX hP rfl cs_X11_103 (d' := 0) (mc' := 0) (ms' := 0) (as' := [(0, m), (0, 1), (0, 1000)]) (st := []) (by omega) (by omega) (by omega) rfl rfl (Nat.le_of_ble_eq_true rfl) (c_X11_within E S G m 1 1000 (by omega) (by omega) (by omega) (by omega) (by omega) (by omega)) ?_
      rintro _ _ _ ⟨rfl, rfl, z6, rfl, (⟨rfl, f7, f8⟩ | ⟨rfl, f9⟩)⟩
      · skip
        refine r_if_eq hX hP rfl (tgt := 31) rfl (by omega) (by omega) (fun c10 => ?_) (fun c10 => ?_)
        · skip
          exfalso; omega
        · skip
          refine r_ex hX hP 3 (pc' := 25) (st' := [(0, 1000), (0, 1), (0, n)]) (lo' := [(0, (2, this)), (1, (0, frm)), (2, (0, to_)), (3, (0, day)), (4, (0, m)), (5, (0, n)), (6, (0, sure))]) rfl ?_
          refine r_callS gd hX hP rfl cs_X11_103 (d' := 0) (mc' := 0) (ms' := 0) (as' := [(0, n), (0, 1), (0, 1000)]) (st := []) (by omega) (by omega) (by omega) rfl rfl (Nat.le_of_ble_eq_true rfl) (c_X11_within E S G n 1 1000 (by omega) (by omega) (by omega) (by omega) (by omega) (by omega)) ?_
          rintro _ _ _ ⟨rfl, rfl, z11, rfl, (⟨rfl, f12, f13⟩ | ⟨rfl, f14⟩)⟩
          · skip
            refine r_if_ne hX hP rfl (tgt := 35) rfl (by omega) (by omega) (fun c15 => ?_) (fun c15 => ?_)
            · skip
              refine r_ex hX hP 4 (pc' := 40) (st' := [(0, frm), (2, this)]) (lo' := [(0, (2, this)), (1, (0, frm)), (2, (0, to_)), (3, (0, day)), (4, (0, m)), (5, (0, n)), (6, (0, sure)), (7, (0, 0))]) rfl ?_
              refine r_callS gd hX hP rfl cs_X11_120 (d' := 1) (mc' := 0) (ms' := 0) (as' := [(0, frm)]) (st := [(2, this)]) (by omega) (by omega) (by omega) rfl rfl (Nat.le_of_ble_eq_true rfl) (c_isPaperX E S G frm (by omega) (by omega)) ?_
              rintro _ _ _ ⟨rfl, rfl, z16, rfl, (⟨rfl, f17, f18⟩ | ⟨rfl, f19⟩)⟩
              · skip
                refine r_if_eq hX hP rfl (tgt := 53) rfl (by omega) (by omega) (fun c20 => ?_) (fun c20 => ?_)
                · skip
                  exfalso; omega
                · skip
                  refine r_ex hX hP 1 (pc' := 47) (st' := [(0, to_), (2, this)]) (lo' := [(0, (2, this)), (1, (0, frm)), (2, (0, to_)), (3, (0, day)), (4, (0, m)), (5, (0, n)), (6, (0, sure)), (7, (0, 0))]) rfl ?_
                  refine r_callS gd hX hP rfl cs_X11_120 (d' := 1) (mc' := 0) (ms' := 0) (as' := [(0, to_)]) (st := [(2, this)]) (by omega) (by omega) (by omega) rfl rfl (Nat.le_of_ble_eq_true rfl) (c_isPaperX E S G to_ (by omega) (by omega)) ?_
                  rintro _ _ _ ⟨rfl, rfl, z21, rfl, (⟨rfl, f22, f23⟩ | ⟨rfl, f24⟩)⟩
                  · skip
                    refine r_if_ne hX hP rfl (tgt := 57) rfl (by omega) (by omega) (fun c25 => ?_) (fun c25 => ?_)
                    · skip
                      refine r_ex hX hP 3 (pc' := 61) (st' := [(2, this), (0, 0), (0, 0), (2, this)]) (lo' := [(0, (2, this)), (1, (0, frm)), (2, (0, to_)), (3, (0, day)), (4, (0, m)), (5, (0, n)), (6, (0, sure)), (7, (0, 0))]) rfl ?_
                      refine r_getKR hX hP rfl fl_X11_78_128 hS (x := rid) rid_e ?_
                      refine r_getKI hX hP rfl fl_X11_420_132 rid_s (x := cnt) cnt_e ?_
                      refine r_ex hX hP 1 (pc' := 69) (st' := [(0, 12), (0, cnt), (0, 0), (0, 0), (2, this)]) (lo' := [(0, (2, this)), (1, (0, frm)), (2, (0, to_)), (3, (0, day)), (4, (0, m)), (5, (0, n)), (6, (0, sure)), (7, (0, 0))]) rfl ?_
                      refine r_ic_lt hX hP rfl (tgt := 76) rfl (by omega) (by omega) (by omega) (by omega) (fun c26 => ?_) (fun c26 => ?_)
                      · skip
                        refine r_ex hX hP 2 (pc' := 78) (st' := [(0, 0), (0, 0), (0, 0), (0, 0), (2, this)]) (lo' := [(0, (2, this)), (1, (0, frm)), (2, (0, to_)), (3, (0, day)), (4, (0, m)), (5, (0, n)), (6, (0, sure)), (7, (0, 0))]) rfl ?_
                        refine r_callS gd hX hP rfl cs_X11_112 (d' := 0) (mc' := 0) (ms' := 0) (as' := [(0, 0), (0, 0), (0, 0), (0, 0)]) (st := [(2, this)]) (by omega) (by omega) (by omega) rfl rfl (Nat.le_of_ble_eq_true rfl) (c_X11_first E S G 0 0 0 0 (by omega) (by omega) (by omega) (by omega) (by omega) (by omega) (by omega) (by omega)) ?_
                        rintro _ _ _ ⟨rfl, rfl, z27, rfl, (⟨rfl, f28⟩ | ⟨rfl, f29, f30⟩ | ⟨rfl, f31, f32, f33⟩ | ⟨rfl, f34, f35, f36, f37⟩ | ⟨rfl, f38, f39, f40, f41⟩)⟩
                        · skip
                          exfalso; omega
                        · skip
                          exfalso; omega
                        · skip
                          exfalso; omega
                        · skip
                          exfalso; omega
                        · skip
                          refine r_callV gd hX hP rfl cv_X11_90_128 hS (d' := 0) (mc' := 0) (ms' := 0) (as' := [(0, 0)]) (st := []) (by omega) (by omega) (by omega) rfl rfl (Nat.le_of_ble_eq_true rfl) (c_X11_refused E S G this 0 hS (by omega) (by omega)) ?_
                          rintro _ _ _ ⟨rfl, ⟨G42, rfl⟩, z43, rfl, (⟨rfl, f44⟩ | ⟨rfl, f45⟩)⟩
                          · skip
                            exfalso; omega
                          · skip
                            refine r_if_eq hX hP rfl (tgt := 89) rfl (by omega) (by omega) (fun c46 => ?_) (fun c46 => ?_)
                            · skip
                              refine r_ex hX hP 1 (pc' := 90) (st' := [(2, this)]) (lo' := [(0, (2, this)), (1, (0, frm)), (2, (0, to_)), (3, (0, day)), (4, (0, m)), (5, (0, n)), (6, (0, sure)), (7, (0, 0))]) rfl ?_
                              refine r_getKR hX hP rfl fl_X11_78_128 hS (x := rid) rid_e ?_
                              refine r_ex hX hP 6 (pc' := 102) (st' := [(0, sure), (0, n), (0, m), (0, day), (0, to_), (0, frm), (2, rid)]) (lo' := [(0, (2, this)), (1, (0, frm)), (2, (0, to_)), (3, (0, day)), (4, (0, m)), (5, (0, n)), (6, (0, sure)), (7, (0, 0))]) rfl ?_
                              refine r_callV gd hX hP rfl cv_X11_421_132 rid_s (d' := 0) (mc' := 0) (ms' := 0) (as' := [(0, frm), (0, to_), (0, day), (0, m), (0, n), (0, sure)]) (st := []) (by omega) (by omega) (by omega) rfl rfl (Nat.le_of_ble_eq_true rfl) (c_addX E S (hw [(128, 0)] G G42) rid frm to_ day m n sure rid_s cnt cnt_e (by omega) (by omega) (by omega) (by omega) (by omega) (by omega) (by omega) (by omega) (by omega) (by omega) (by omega) (by omega) (by omega)) ?_
                              rintro _ _ _ ⟨rfl, ⟨G47, rfl⟩, z48, rfl, coh49, coh49e, z48a, z48b, f50, f51⟩
                              refine r_peekI hX (tl_132 0 rfl (by decide)) rid_s (fun o52 o52e o52a o52b => ?_)
                              obtain rfl : coh49 = o52 := coh49e.trans o52e.symm
                              exact r_retI hX hP rfl rfl (by omega) (by omega) ⟨rfl, ⟨_, (hw_sub (hw_sub (hw_refl _ _) rfl) rfl).symm⟩, z48, rfl, coh49, coh49e, (by omega)⟩
                            · skip
                              exfalso; omega
                      · skip
                        refine r_ex hX hP 3 (pc' := 78) (st' := [(0, 0), (0, 1), (0, 0), (0, 0), (2, this)]) (lo' := [(0, (2, this)), (1, (0, frm)), (2, (0, to_)), (3, (0, day)), (4, (0, m)), (5, (0, n)), (6, (0, sure)), (7, (0, 0))]) rfl ?_
                        refine r_callS gd hX hP rfl cs_X11_112 (d' := 0) (mc' := 0) (ms' := 0) (as' := [(0, 0), (0, 0), (0, 1), (0, 0)]) (st := [(2, this)]) (by omega) (by omega) (by omega) rfl rfl (Nat.le_of_ble_eq_true rfl) (c_X11_first E S G 0 0 1 0 (by omega) (by omega) (by omega) (by omega) (by omega) (by omega) (by omega) (by omega)) ?_
                        rintro _ _ _ ⟨rfl, rfl, z53, rfl, (⟨rfl, f54⟩ | ⟨rfl, f55, f56⟩ | ⟨rfl, f57, f58, f59⟩ | ⟨rfl, f60, f61, f62, f63⟩ | ⟨rfl, f64, f65, f66, f67⟩)⟩
                        · skip
                          exfalso; omega
                        · skip
                          exfalso; omega
                        · skip
                          refine r_callV gd hX hP rfl cv_X11_90_128 hS (d' := 0) (mc' := 0) (ms' := 0) (as' := [(0, 3)]) (st := []) (by omega) (by omega) (by omega) rfl rfl (Nat.le_of_ble_eq_true rfl) (c_X11_refused E S G this 3 hS (by omega) (by omega)) ?_
                          rintro _ _ _ ⟨rfl, ⟨G68, rfl⟩, z69, rfl, (⟨rfl, f70⟩ | ⟨rfl, f71⟩)⟩
                          · skip
                            refine r_if_eq hX hP rfl (tgt := 89) rfl (by omega) (by omega) (fun c72 => ?_) (fun c72 => ?_)
                            · skip
                              exfalso; omega
                            · skip
                              refine r_ex hX hP 1 (pc' := 88) (st' := [(0, (-1))]) (lo' := [(0, (2, this)), (1, (0, frm)), (2, (0, to_)), (3, (0, day)), (4, (0, m)), (5, (0, n)), (6, (0, sure)), (7, (0, 0))]) rfl ?_
                              exact r_retI hX hP rfl rfl (by omega) (by omega) ⟨rfl, ⟨_, (hw_sub (hw_refl _ _) rfl).symm⟩, (-1), rfl, cnt, cnt_e, (by omega)⟩
                          · skip
                            exfalso; omega
                        · skip
                          exfalso; omega
                        · skip
                          exfalso; omega
                    · skip
                      exfalso; omega
                  · skip
                    refine r_if_ne hX hP rfl (tgt := 57) rfl (by omega) (by omega) (fun c73 => ?_) (fun c73 => ?_)
                    · skip
                      exfalso; omega
                    · skip
                      refine r_ex hX hP 4 (pc' := 61) (st' := [(2, this), (0, 0), (0, 1), (2, this)]) (lo' := [(0, (2, this)), (1, (0, frm)), (2, (0, to_)), (3, (0, day)), (4, (0, m)), (5, (0, n)), (6, (0, sure)), (7, (0, 0))]) rfl ?_
                      refine r_getKR hX hP rfl fl_X11_78_128 hS (x := rid) rid_e ?_
                      refine r_getKI hX hP rfl fl_X11_420_132 rid_s (x := cnt) cnt_e ?_
                      refine r_ex hX hP 1 (pc' := 69) (st' := [(0, 12), (0, cnt), (0, 0), (0, 1), (2, this)]) (lo' := [(0, (2, this)), (1, (0, frm)), (2, (0, to_)), (3, (0, day)), (4, (0, m)), (5, (0, n)), (6, (0, sure)), (7, (0, 0))]) rfl ?_
                      refine r_ic_lt hX hP rfl (tgt := 76) rfl (by omega) (by omega) (by omega) (by omega) (fun c74 => ?_) (fun c74 => ?_)
                      · skip
                        refine r_ex hX hP 2 (pc' := 78) (st' := [(0, 0), (0, 0), (0, 0), (0, 1), (2, this)]) (lo' := [(0, (2, this)), (1, (0, frm)), (2, (0, to_)), (3, (0, day)), (4, (0, m)), (5, (0, n)), (6, (0, sure)), (7, (0, 0))]) rfl ?_
                        refine r_callS gd hX hP rfl cs_X11_112 (d' := 0) (mc' := 0) (ms' := 0) (as' := [(0, 1), (0, 0), (0, 0), (0, 0)]) (st := [(2, this)]) (by omega) (by omega) (by omega) rfl rfl (Nat.le_of_ble_eq_true rfl) (c_X11_first E S G 1 0 0 0 (by omega) (by omega) (by omega) (by omega) (by omega) (by omega) (by omega) (by omega)) ?_
                        rintro _ _ _ ⟨rfl, rfl, z75, rfl, (⟨rfl, f76⟩ | ⟨rfl, f77, f78⟩ | ⟨rfl, f79, f80, f81⟩ | ⟨rfl, f82, f83, f84, f85⟩ | ⟨rfl, f86, f87, f88, f89⟩)⟩
                        · skip
                          refine r_callV gd hX hP rfl cv_X11_90_128 hS (d' := 0) (mc' := 0) (ms' := 0) (as' := [(0, 1)]) (st := []) (by omega) (by omega) (by omega) rfl rfl (Nat.le_of_ble_eq_true rfl) (c_X11_refused E S G this 1 hS (by omega) (by omega)) ?_
                          rintro _ _ _ ⟨rfl, ⟨G90, rfl⟩, z91, rfl, (⟨rfl, f92⟩ | ⟨rfl, f93⟩)⟩
                          · skip
                            refine r_if_eq hX hP rfl (tgt := 89) rfl (by omega) (by omega) (fun c94 => ?_) (fun c94 => ?_)
                            · skip
                              exfalso; omega
                            · skip
                              refine r_ex hX hP 1 (pc' := 88) (st' := [(0, (-1))]) (lo' := [(0, (2, this)), (1, (0, frm)), (2, (0, to_)), (3, (0, day)), (4, (0, m)), (5, (0, n)), (6, (0, sure)), (7, (0, 0))]) rfl ?_
                              exact r_retI hX hP rfl rfl (by omega) (by omega) ⟨rfl, ⟨_, (hw_sub (hw_refl _ _) rfl).symm⟩, (-1), rfl, cnt, cnt_e, (by omega)⟩
                          · skip
                            exfalso; omega
                        · skip
                          exfalso; omega
                        · skip
                          exfalso; omega
                        · skip
                          exfalso; omega
                        · skip
                          exfalso; omega
                      · skip
                        refine r_ex hX hP 3 (pc' := 78) (st' := [(0, 0), (0, 1), (0, 0), (0, 1), (2, this)]) (lo' := [(0, (2, this)), (1, (0, frm)), (2, (0, to_)), (3, (0, day)), (4, (0, m)), (5, (0, n)), (6, (0, sure)), (7, (0, 0))]) rfl ?_
                        refine r_callS gd hX hP rfl cs_X11_112 (d' := 0) (mc' := 0) (ms' := 0) (as' := [(0, 1), (0, 0), (0, 1), (0, 0)]) (st := [(2, this)]) (by omega) (by omega) (by omega) rfl rfl (Nat.le_of_ble_eq_true rfl) (c_X11_first E S G 1 0 1 0 (by omega) (by omega) (by omega) (by omega) (by omega) (by omega) (by omega) (by omega)) ?_
                        rintro _ _ _ ⟨rfl, rfl, z95, rfl, (⟨rfl, f96⟩ | ⟨rfl, f97, f98⟩ | ⟨rfl, f99, f100, f101⟩ | ⟨rfl, f102, f103, f104, f105⟩ | ⟨rfl, f106, f107, f108, f109⟩)⟩
                        · skip
                          refine r_callV gd hX hP rfl cv_X11_90_128 hS (d' := 0) (mc' := 0) (ms' := 0) (as' := [(0, 1)]) (st := []) (by omega) (by omega) (by omega) rfl rfl (Nat.le_of_ble_eq_true rfl) (c_X11_refused E S G this 1 hS (by omega) (by omega)) ?_
                          rintro _ _ _ ⟨rfl, ⟨G110, rfl⟩, z111, rfl, (⟨rfl, f112⟩ | ⟨rfl, f113⟩)⟩
                          · skip
                            refine r_if_eq hX hP rfl (tgt := 89) rfl (by omega) (by omega) (fun c114 => ?_) (fun c114 => ?_)
                            · skip
                              exfalso; omega
                            · skip
                              refine r_ex hX hP 1 (pc' := 88) (st' := [(0, (-1))]) (lo' := [(0, (2, this)), (1, (0, frm)), (2, (0, to_)), (3, (0, day)), (4, (0, m)), (5, (0, n)), (6, (0, sure)), (7, (0, 0))]) rfl ?_
                              exact r_retI hX hP rfl rfl (by omega) (by omega) ⟨rfl, ⟨_, (hw_sub (hw_refl _ _) rfl).symm⟩, (-1), rfl, cnt, cnt_e, (by omega)⟩
                          · skip
                            exfalso; omega
                        · skip
                          exfalso; omega
                        · skip
                          exfalso; omega
                        · skip
                          exfalso; omega
                        · skip
                          exfalso; omega
              · skip
                refine r_if_eq hX hP rfl (tgt := 53) rfl (by omega) (by omega) (fun c115 => ?_) (fun c115 => ?_)
                · skip
                  refine r_ex hX hP 4 (pc' := 61) (st' := [(2, this), (0, 0), (0, 1), (2, this)]) (lo' := [(0, (2, this)), (1, (0, frm)), (2, (0, to_)), (3, (0, day)), (4, (0, m)), (5, (0, n)), (6, (0, sure)), (7, (0, 0))]) rfl ?_
                  refine r_getKR hX hP rfl fl_X11_78_128 hS (x := rid) rid_e ?_
                  refine r_getKI hX hP rfl fl_X11_420_132 rid_s (x := cnt) cnt_e ?_
                  refine r_ex hX hP 1 (pc' := 69) (st' := [(0, 12), (0, cnt), (0, 0), (0, 1), (2, this)]) (lo' := [(0, (2, this)), (1, (0, frm)), (2, (0, to_)), (3, (0, day)), (4, (0, m)), (5, (0, n)), (6, (0, sure)), (7, (0, 0))]) rfl ?_
                  refine r_ic_lt hX hP rfl (tgt := 76) rfl (by omega) (by omega) (by omega) (by omega) (fun c116 => ?_) (fun c116 => ?_)
                  · skip
                    refine r_ex hX hP 2 (pc' := 78) (st' := [(0, 0), (0, 0), (0, 0), (0, 1), (2, this)]) (lo' := [(0, (2, this)), (1, (0, frm)), (2, (0, to_)), (3, (0, day)), (4, (0, m)), (5, (0, n)), (6, (0, sure)), (7, (0, 0))]) rfl ?_
                    refine r_callS gd hX hP rfl cs_X11_112 (d' := 0) (mc' := 0) (ms' := 0) (as' := [(0, 1), (0, 0), (0, 0), (0, 0)]) (st := [(2, this)]) (by omega) (by omega) (by omega) rfl rfl (Nat.le_of_ble_eq_true rfl) (c_X11_first E S G 1 0 0 0 (by omega) (by omega) (by omega) (by omega) (by omega) (by omega) (by omega) (by omega)) ?_
                    rintro _ _ _ ⟨rfl, rfl, z117, rfl, (⟨rfl, f118⟩ | ⟨rfl, f119, f120⟩ | ⟨rfl, f121, f122, f123⟩ | ⟨rfl, f124, f125, f126, f127⟩ | ⟨rfl, f128, f129, f130, f131⟩)⟩
                    · skip
                      refine r_callV gd hX hP rfl cv_X11_90_128 hS (d' := 0) (mc' := 0) (ms' := 0) (as' := [(0, 1)]) (st := []) (by omega) (by omega) (by omega) rfl rfl (Nat.le_of_ble_eq_true rfl) (c_X11_refused E S G this 1 hS (by omega) (by omega)) ?_
                      rintro _ _ _ ⟨rfl, ⟨G132, rfl⟩, z133, rfl, (⟨rfl, f134⟩ | ⟨rfl, f135⟩)⟩
                      · skip
                        refine r_if_eq hX hP rfl (tgt := 89) rfl (by omega) (by omega) (fun c136 => ?_) (fun c136 => ?_)
                        · skip
                          exfalso; omega
                        · skip
                          refine r_ex hX hP 1 (pc' := 88) (st' := [(0, (-1))]) (lo' := [(0, (2, this)), (1, (0, frm)), (2, (0, to_)), (3, (0, day)), (4, (0, m)), (5, (0, n)), (6, (0, sure)), (7, (0, 0))]) rfl ?_
                          exact r_retI hX hP rfl rfl (by omega) (by omega) ⟨rfl, ⟨_, (hw_sub (hw_refl _ _) rfl).symm⟩, (-1), rfl, cnt, cnt_e, (by omega)⟩
                      · skip
                        exfalso; omega
                    · skip
                      exfalso; omega
                    · skip
                      exfalso; omega
                    · skip
                      exfalso; omega
                    · skip
                      exfalso; omega
                  · skip
                    refine r_ex hX hP 3 (pc' := 78) (st' := [(0, 0), (0, 1), (0, 0), (0, 1), (2, this)]) (lo' := [(0, (2, this)), (1, (0, frm)), (2, (0, to_)), (3, (0, day)), (4, (0, m)), (5, (0, n)), (6, (0, sure)), (7, (0, 0))]) rfl ?_
                    refine r_callS gd hX hP rfl cs_X11_112 (d' := 0) (mc' := 0) (ms' := 0) (as' := [(0, 1), (0, 0), (0, 1), (0, 0)]) (st := [(2, this)]) (by omega) (by omega) (by omega) rfl rfl (Nat.le_of_ble_eq_true rfl) (c_X11_first E S G 1 0 1 0 (by omega) (by omega) (by omega) (by omega) (by omega) (by omega) (by omega) (by omega)) ?_
                    rintro _ _ _ ⟨rfl, rfl, z137, rfl, (⟨rfl, f138⟩ | ⟨rfl, f139, f140⟩ | ⟨rfl, f141, f142, f143⟩ | ⟨rfl, f144, f145, f146, f147⟩ | ⟨rfl, f148, f149, f150, f151⟩)⟩
                    · skip
                      refine r_callV gd hX hP rfl cv_X11_90_128 hS (d' := 0) (mc' := 0) (ms' := 0) (as' := [(0, 1)]) (st := []) (by omega) (by omega) (by omega) rfl rfl (Nat.le_of_ble_eq_true rfl) (c_X11_refused E S G this 1 hS (by omega) (by omega)) ?_
                      rintro _ _ _ ⟨rfl, ⟨G152, rfl⟩, z153, rfl, (⟨rfl, f154⟩ | ⟨rfl, f155⟩)⟩
                      · skip
                        refine r_if_eq hX hP rfl (tgt := 89) rfl (by omega) (by omega) (fun c156 => ?_) (fun c156 => ?_)
                        · skip
                          exfalso; omega
                        · skip
                          refine r_ex hX hP 1 (pc' := 88) (st' := [(0, (-1))]) (lo' := [(0, (2, this)), (1, (0, frm)), (2, (0, to_)), (3, (0, day)), (4, (0, m)), (5, (0, n)), (6, (0, sure)), (7, (0, 0))]) rfl ?_
                          exact r_retI hX hP rfl rfl (by omega) (by omega) ⟨rfl, ⟨_, (hw_sub (hw_refl _ _) rfl).symm⟩, (-1), rfl, cnt, cnt_e, (by omega)⟩
                      · skip
                        exfalso; omega
                    · skip
                      exfalso; omega
                    · skip
                      exfalso; omega
                    · skip
                      exfalso; omega
                    · skip
                      exfalso; omega
                · skip
                  exfalso; omega
            · skip
              exfalso; omega
          · skip
            refine r_if_ne hX hP rfl (tgt := 35) rfl (by omega) (by omega) (fun c157 => ?_) (fun c157 => ?_)
            · skip
              exfalso; omega
            · skip
              refine r_ex hX hP 5 (pc' := 40) (st' := [(0, frm), (2, this)]) (lo' := [(0, (2, this)), (1, (0, frm)), (2, (0, to_)), (3, (0, day)), (4, (0, m)), (5, (0, n)), (6, (0, sure)), (7, (0, 1))]) rfl ?_
              refine r_callS gd hX hP rfl cs_X11_120 (d' := 1) (mc' := 0) (ms' := 0) (as' := [(0, frm)]) (st := [(2, this)]) (by omega) (by omega) (by omega) rfl rfl (Nat.le_of_ble_eq_true rfl) (c_isPaperX E S G frm (by omega) (by omega)) ?_
              rintro _ _ _ ⟨rfl, rfl, z158, rfl, (⟨rfl, f159, f160⟩ | ⟨rfl, f161⟩)⟩
              · skip
                refine r_if_eq hX hP rfl (tgt := 53) rfl (by omega) (by omega) (fun c162 => ?_) (fun c162 => ?_)
                · skip
                  exfalso; omega
                · skip
                  refine r_ex hX hP 1 (pc' := 47) (st' := [(0, to_), (2, this)]) (lo' := [(0, (2, this)), (1, (0, frm)), (2, (0, to_)), (3, (0, day)), (4, (0, m)), (5, (0, n)), (6, (0, sure)), (7, (0, 1))]) rfl ?_
                  refine r_callS gd hX hP rfl cs_X11_120 (d' := 1) (mc' := 0) (ms' := 0) (as' := [(0, to_)]) (st := [(2, this)]) (by omega) (by omega) (by omega) rfl rfl (Nat.le_of_ble_eq_true rfl) (c_isPaperX E S G to_ (by omega) (by omega)) ?_
                  rintro _ _ _ ⟨rfl, rfl, z163, rfl, (⟨rfl, f164, f165⟩ | ⟨rfl, f166⟩)⟩
                  · skip
                    refine r_if_ne hX hP rfl (tgt := 57) rfl (by omega) (by omega) (fun c167 => ?_) (fun c167 => ?_)
                    · skip
                      refine r_ex hX hP 3 (pc' := 61) (st' := [(2, this), (0, 1), (0, 0), (2, this)]) (lo' := [(0, (2, this)), (1, (0, frm)), (2, (0, to_)), (3, (0, day)), (4, (0, m)), (5, (0, n)), (6, (0, sure)), (7, (0, 1))]) rfl ?_
                      refine r_getKR hX hP rfl fl_X11_78_128 hS (x := rid) rid_e ?_
                      refine r_getKI hX hP rfl fl_X11_420_132 rid_s (x := cnt) cnt_e ?_
                      refine r_ex hX hP 1 (pc' := 69) (st' := [(0, 12), (0, cnt), (0, 1), (0, 0), (2, this)]) (lo' := [(0, (2, this)), (1, (0, frm)), (2, (0, to_)), (3, (0, day)), (4, (0, m)), (5, (0, n)), (6, (0, sure)), (7, (0, 1))]) rfl ?_
                      refine r_ic_lt hX hP rfl (tgt := 76) rfl (by omega) (by omega) (by omega) (by omega) (fun c168 => ?_) (fun c168 => ?_)
                      · skip
                        refine r_ex hX hP 2 (pc' := 78) (st' := [(0, 0), (0, 0), (0, 1), (0, 0), (2, this)]) (lo' := [(0, (2, this)), (1, (0, frm)), (2, (0, to_)), (3, (0, day)), (4, (0, m)), (5, (0, n)), (6, (0, sure)), (7, (0, 1))]) rfl ?_
                        refine r_callS gd hX hP rfl cs_X11_112 (d' := 0) (mc' := 0) (ms' := 0) (as' := [(0, 0), (0, 1), (0, 0), (0, 0)]) (st := [(2, this)]) (by omega) (by omega) (by omega) rfl rfl (Nat.le_of_ble_eq_true rfl) (c_X11_first E S G 0 1 0 0 (by omega) (by omega) (by omega) (by omega) (by omega) (by omega) (by omega) (by omega)) ?_
                        rintro _ _ _ ⟨rfl, rfl, z169, rfl, (⟨rfl, f170⟩ | ⟨rfl, f171, f172⟩ | ⟨rfl, f173, f174, f175⟩ | ⟨rfl, f176, f177, f178, f179⟩ | ⟨rfl, f180, f181, f182, f183⟩)⟩
                        · skip
                          exfalso; omega
                        · skip
                          refine r_callV gd hX hP rfl cv_X11_90_128 hS (d' := 0) (mc' := 0) (ms' := 0) (as' := [(0, 2)]) (st := []) (by omega) (by omega) (by omega) rfl rfl (Nat.le_of_ble_eq_true rfl) (c_X11_refused E S G this 2 hS (by omega) (by omega)) ?_
                          rintro _ _ _ ⟨rfl, ⟨G184, rfl⟩, z185, rfl, (⟨rfl, f186⟩ | ⟨rfl, f187⟩)⟩
                          · skip
                            refine r_if_eq hX hP rfl (tgt := 89) rfl (by omega) (by omega) (fun c188 => ?_) (fun c188 => ?_)
                            · skip
                              exfalso; omega
                            · skip
                              refine r_ex hX hP 1 (pc' := 88) (st' := [(0, (-1))]) (lo' := [(0, (2, this)), (1, (0, frm)), (2, (0, to_)), (3, (0, day)), (4, (0, m)), (5, (0, n)), (6, (0, sure)), (7, (0, 1))]) rfl ?_
                              exact r_retI hX hP rfl rfl (by omega) (by omega) ⟨rfl, ⟨_, (hw_sub (hw_refl _ _) rfl).symm⟩, (-1), rfl, cnt, cnt_e, (by omega)⟩
                          · skip
                            exfalso; omega
                        · skip
                          exfalso; omega
                        · skip
                          exfalso; omega
                        · skip
                          exfalso; omega
                      · skip
                        refine r_ex hX hP 3 (pc' := 78) (st' := [(0, 0), (0, 1), (0, 1), (0, 0), (2, this)]) (lo' := [(0, (2, this)), (1, (0, frm)), (2, (0, to_)), (3, (0, day)), (4, (0, m)), (5, (0, n)), (6, (0, sure)), (7, (0, 1))]) rfl ?_
                        refine r_callS gd hX hP rfl cs_X11_112 (d' := 0) (mc' := 0) (ms' := 0) (as' := [(0, 0), (0, 1), (0, 1), (0, 0)]) (st := [(2, this)]) (by omega) (by omega) (by omega) rfl rfl (Nat.le_of_ble_eq_true rfl) (c_X11_first E S G 0 1 1 0 (by omega) (by omega) (by omega) (by omega) (by omega) (by omega) (by omega) (by omega)) ?_
                        rintro _ _ _ ⟨rfl, rfl, z189, rfl, (⟨rfl, f190⟩ | ⟨rfl, f191, f192⟩ | ⟨rfl, f193, f194, f195⟩ | ⟨rfl, f196, f197, f198, f199⟩ | ⟨rfl, f200, f201, f202, f203⟩)⟩
                        · skip
                          exfalso; omega
                        · skip
                          refine r_callV gd hX hP rfl cv_X11_90_128 hS (d' := 0) (mc' := 0) (ms' := 0) (as' := [(0, 2)]) (st := []) (by omega) (by omega) (by omega) rfl rfl (Nat.le_of_ble_eq_true rfl) (c_X11_refused E S G this 2 hS (by omega) (by omega)) ?_
                          rintro _ _ _ ⟨rfl, ⟨G204, rfl⟩, z205, rfl, (⟨rfl, f206⟩ | ⟨rfl, f207⟩)⟩
                          · skip
                            refine r_if_eq hX hP rfl (tgt := 89) rfl (by omega) (by omega) (fun c208 => ?_) (fun c208 => ?_)
                            · skip
                              exfalso; omega
                            · skip
                              refine r_ex hX hP 1 (pc' := 88) (st' := [(0, (-1))]) (lo' := [(0, (2, this)), (1, (0, frm)), (2, (0, to_)), (3, (0, day)), (4, (0, m)), (5, (0, n)), (6, (0, sure)), (7, (0, 1))]) rfl ?_
                              exact r_retI hX hP rfl rfl (by omega) (by omega) ⟨rfl, ⟨_, (hw_sub (hw_refl _ _) rfl).symm⟩, (-1), rfl, cnt, cnt_e, (by omega)⟩
                          · skip
                            exfalso; omega
                        · skip
                          exfalso; omega
                        · skip
                          exfalso; omega
                        · skip
                          exfalso; omega
                    · skip
                      exfalso; omega
                  · skip
                    refine r_if_ne hX hP rfl (tgt := 57) rfl (by omega) (by omega) (fun c209 => ?_) (fun c209 => ?_)
                    · skip
                      exfalso; omega
                    · skip
                      refine r_ex hX hP 4 (pc' := 61) (st' := [(2, this), (0, 1), (0, 1), (2, this)]) (lo' := [(0, (2, this)), (1, (0, frm)), (2, (0, to_)), (3, (0, day)), (4, (0, m)), (5, (0, n)), (6, (0, sure)), (7, (0, 1))]) rfl ?_
                      refine r_getKR hX hP rfl fl_X11_78_128 hS (x := rid) rid_e ?_
                      refine r_getKI hX hP rfl fl_X11_420_132 rid_s (x := cnt) cnt_e ?_
                      refine r_ex hX hP 1 (pc' := 69) (st' := [(0, 12), (0, cnt), (0, 1), (0, 1), (2, this)]) (lo' := [(0, (2, this)), (1, (0, frm)), (2, (0, to_)), (3, (0, day)), (4, (0, m)), (5, (0, n)), (6, (0, sure)), (7, (0, 1))]) rfl ?_
                      refine r_ic_lt hX hP rfl (tgt := 76) rfl (by omega) (by omega) (by omega) (by omega) (fun c210 => ?_) (fun c210 => ?_)
                      · skip
                        refine r_ex hX hP 2 (pc' := 78) (st' := [(0, 0), (0, 0), (0, 1), (0, 1), (2, this)]) (lo' := [(0, (2, this)), (1, (0, frm)), (2, (0, to_)), (3, (0, day)), (4, (0, m)), (5, (0, n)), (6, (0, sure)), (7, (0, 1))]) rfl ?_
                        refine r_callS gd hX hP rfl cs_X11_112 (d' := 0) (mc' := 0) (ms' := 0) (as' := [(0, 1), (0, 1), (0, 0), (0, 0)]) (st := [(2, this)]) (by omega) (by omega) (by omega) rfl rfl (Nat.le_of_ble_eq_true rfl) (c_X11_first E S G 1 1 0 0 (by omega) (by omega) (by omega) (by omega) (by omega) (by omega) (by omega) (by omega)) ?_
                        rintro _ _ _ ⟨rfl, rfl, z211, rfl, (⟨rfl, f212⟩ | ⟨rfl, f213, f214⟩ | ⟨rfl, f215, f216, f217⟩ | ⟨rfl, f218, f219, f220, f221⟩ | ⟨rfl, f222, f223, f224, f225⟩)⟩
                        · skip
                          refine r_callV gd hX hP rfl cv_X11_90_128 hS (d' := 0) (mc' := 0) (ms' := 0) (as' := [(0, 1)]) (st := []) (by omega) (by omega) (by omega) rfl rfl (Nat.le_of_ble_eq_true rfl) (c_X11_refused E S G this 1 hS (by omega) (by omega)) ?_
                          rintro _ _ _ ⟨rfl, ⟨G226, rfl⟩, z227, rfl, (⟨rfl, f228⟩ | ⟨rfl, f229⟩)⟩
                          · skip
                            refine r_if_eq hX hP rfl (tgt := 89) rfl (by omega) (by omega) (fun c230 => ?_) (fun c230 => ?_)
                            · skip
                              exfalso; omega
                            · skip
                              refine r_ex hX hP 1 (pc' := 88) (st' := [(0, (-1))]) (lo' := [(0, (2, this)), (1, (0, frm)), (2, (0, to_)), (3, (0, day)), (4, (0, m)), (5, (0, n)), (6, (0, sure)), (7, (0, 1))]) rfl ?_
                              exact r_retI hX hP rfl rfl (by omega) (by omega) ⟨rfl, ⟨_, (hw_sub (hw_refl _ _) rfl).symm⟩, (-1), rfl, cnt, cnt_e, (by omega)⟩
                          · skip
                            exfalso; omega
                        · skip
                          exfalso; omega
                        · skip
                          exfalso; omega
                        · skip
                          exfalso; omega
                        · skip
                          exfalso; omega
                      · skip
                        refine r_ex hX hP 3 (pc' := 78) (st' := [(0, 0), (0, 1), (0, 1), (0, 1), (2, this)]) (lo' := [(0, (2, this)), (1, (0, frm)), (2, (0, to_)), (3, (0, day)), (4, (0, m)), (5, (0, n)), (6, (0, sure)), (7, (0, 1))]) rfl ?_
                        refine r_callS gd hX hP rfl cs_X11_112 (d' := 0) (mc' := 0) (ms' := 0) (as' := [(0, 1), (0, 1), (0, 1), (0, 0)]) (st := [(2, this)]) (by omega) (by omega) (by omega) rfl rfl (Nat.le_of_ble_eq_true rfl) (c_X11_first E S G 1 1 1 0 (by omega) (by omega) (by omega) (by omega) (by omega) (by omega) (by omega) (by omega)) ?_
                        rintro _ _ _ ⟨rfl, rfl, z231, rfl, (⟨rfl, f232⟩ | ⟨rfl, f233, f234⟩ | ⟨rfl, f235, f236, f237⟩ | ⟨rfl, f238, f239, f240, f241⟩ | ⟨rfl, f242, f243, f244, f245⟩)⟩
                        · skip
                          refine r_callV gd hX hP rfl cv_X11_90_128 hS (d' := 0) (mc' := 0) (ms' := 0) (as' := [(0, 1)]) (st := []) (by omega) (by omega) (by omega) rfl rfl (Nat.le_of_ble_eq_true rfl) (c_X11_refused E S G this 1 hS (by omega) (by omega)) ?_
                          rintro _ _ _ ⟨rfl, ⟨G246, rfl⟩, z247, rfl, (⟨rfl, f248⟩ | ⟨rfl, f249⟩)⟩
                          · skip
                            refine r_if_eq hX hP rfl (tgt := 89) rfl (by omega) (by omega) (fun c250 => ?_) (fun c250 => ?_)
                            · skip
                              exfalso; omega
                            · skip
                              refine r_ex hX hP 1 (pc' := 88) (st' := [(0, (-1))]) (lo' := [(0, (2, this)), (1, (0, frm)), (2, (0, to_)), (3, (0, day)), (4, (0, m)), (5, (0, n)), (6, (0, sure)), (7, (0, 1))]) rfl ?_
                              exact r_retI hX hP rfl rfl (by omega) (by omega) ⟨rfl, ⟨_, (hw_sub (hw_refl _ _) rfl).symm⟩, (-1), rfl, cnt, cnt_e, (by omega)⟩
                          · skip
                            exfalso; omega
                        · skip
                          exfalso; omega
                        · skip
                          exfalso; omega
                        · skip
                          exfalso; omega
                        · skip
                          exfalso; omega
              · skip
                refine r_if_eq hX hP rfl (tgt := 53) rfl (by omega) (by omega) (fun c251 => ?_) (fun c251 => ?_)
                · skip
                  refine r_ex hX hP 4 (pc' := 61) (st' := [(2, this), (0, 1), (0, 1), (2, this)]) (lo' := [(0, (2, this)), (1, (0, frm)), (2, (0, to_)), (3, (0, day)), (4, (0, m)), (5, (0, n)), (6, (0, sure)), (7, (0, 1))]) rfl ?_
                  refine r_getKR hX hP rfl fl_X11_78_128 hS (x := rid) rid_e ?_
                  refine r_getKI hX hP rfl fl_X11_420_132 rid_s (x := cnt) cnt_e ?_
                  refine r_ex hX hP 1 (pc' := 69) (st' := [(0, 12), (0, cnt), (0, 1), (0, 1), (2, this)]) (lo' := [(0, (2, this)), (1, (0, frm)), (2, (0, to_)), (3, (0, day)), (4, (0, m)), (5, (0, n)), (6, (0, sure)), (7, (0, 1))]) rfl ?_
                  refine r_ic_lt hX hP rfl (tgt := 76) rfl (by omega) (by omega) (by omega) (by omega) (fun c252 => ?_) (fun c252 => ?_)
                  · skip
                    refine r_ex hX hP 2 (pc' := 78) (st' := [(0, 0), (0, 0), (0, 1), (0, 1), (2, this)]) (lo' := [(0, (2, this)), (1, (0, frm)), (2, (0, to_)), (3, (0, day)), (4, (0, m)), (5, (0, n)), (6, (0, sure)), (7, (0, 1))]) rfl ?_
                    refine r_callS gd hX hP rfl cs_X11_112 (d' := 0) (mc' := 0) (ms' := 0) (as' := [(0, 1), (0, 1), (0, 0), (0, 0)]) (st := [(2, this)]) (by omega) (by omega) (by omega) rfl rfl (Nat.le_of_ble_eq_true rfl) (c_X11_first E S G 1 1 0 0 (by omega) (by omega) (by omega) (by omega) (by omega) (by omega) (by omega) (by omega)) ?_
                    rintro _ _ _ ⟨rfl, rfl, z253, rfl, (⟨rfl, f254⟩ | ⟨rfl, f255, f256⟩ | ⟨rfl, f257, f258, f259⟩ | ⟨rfl, f260, f261, f262, f263⟩ | ⟨rfl, f264, f265, f266, f267⟩)⟩
                    · skip
                      refine r_callV gd hX hP rfl cv_X11_90_128 hS (d' := 0) (mc' := 0) (ms' := 0) (as' := [(0, 1)]) (st := []) (by omega) (by omega) (by omega) rfl rfl (Nat.le_of_ble_eq_true rfl) (c_X11_refused E S G this 1 hS (by omega) (by omega)) ?_
                      rintro _ _ _ ⟨rfl, ⟨G268, rfl⟩, z269, rfl, (⟨rfl, f270⟩ | ⟨rfl, f271⟩)⟩
                      · skip
                        refine r_if_eq hX hP rfl (tgt := 89) rfl (by omega) (by omega) (fun c272 => ?_) (fun c272 => ?_)
                        · skip
                          exfalso; omega
                        · skip
                          refine r_ex hX hP 1 (pc' := 88) (st' := [(0, (-1))]) (lo' := [(0, (2, this)), (1, (0, frm)), (2, (0, to_)), (3, (0, day)), (4, (0, m)), (5, (0, n)), (6, (0, sure)), (7, (0, 1))]) rfl ?_
                          exact r_retI hX hP rfl rfl (by omega) (by omega) ⟨rfl, ⟨_, (hw_sub (hw_refl _ _) rfl).symm⟩, (-1), rfl, cnt, cnt_e, (by omega)⟩
                      · skip
                        exfalso; omega
                    · skip
                      exfalso; omega
                    · skip
                      exfalso; omega
                    · skip
                      exfalso; omega
                    · skip
                      exfalso; omega
                  · skip
                    refine r_ex hX hP 3 (pc' := 78) (st' := [(0, 0), (0, 1), (0, 1), (0, 1), (2, this)]) (lo' := [(0, (2, this)), (1, (0, frm)), (2, (0, to_)), (3, (0, day)), (4, (0, m)), (5, (0, n)), (6, (0, sure)), (7, (0, 1))]) rfl ?_
                    refine r_callS gd hX hP rfl cs_X11_112 (d' := 0) (mc' := 0) (ms' := 0) (as' := [(0, 1), (0, 1), (0, 1), (0, 0)]) (st := [(2, this)]) (by omega) (by omega) (by omega) rfl rfl (Nat.le_of_ble_eq_true rfl) (c_X11_first E S G 1 1 1 0 (by omega) (by omega) (by omega) (by omega) (by omega) (by omega) (by omega) (by omega)) ?_
                    rintro _ _ _ ⟨rfl, rfl, z273, rfl, (⟨rfl, f274⟩ | ⟨rfl, f275, f276⟩ | ⟨rfl, f277, f278, f279⟩ | ⟨rfl, f280, f281, f282, f283⟩ | ⟨rfl, f284, f285, f286, f287⟩)⟩
                    · skip
                      refine r_callV gd hX hP rfl cv_X11_90_128 hS (d' := 0) (mc' := 0) (ms' := 0) (as' := [(0, 1)]) (st := []) (by omega) (by omega) (by omega) rfl rfl (Nat.le_of_ble_eq_true rfl) (c_X11_refused E S G this 1 hS (by omega) (by omega)) ?_
                      rintro _ _ _ ⟨rfl, ⟨G288, rfl⟩, z289, rfl, (⟨rfl, f290⟩ | ⟨rfl, f291⟩)⟩
                      · skip
                        refine r_if_eq hX hP rfl (tgt := 89) rfl (by omega) (by omega) (fun c292 => ?_) (fun c292 => ?_)
                        · skip
                          exfalso; omega
                        · skip
                          refine r_ex hX hP 1 (pc' := 88) (st' := [(0, (-1))]) (lo' := [(0, (2, this)), (1, (0, frm)), (2, (0, to_)), (3, (0, day)), (4, (0, m)), (5, (0, n)), (6, (0, sure)), (7, (0, 1))]) rfl ?_
                          exact r_retI hX hP rfl rfl (by omega) (by omega) ⟨rfl, ⟨_, (hw_sub (hw_refl _ _) rfl).symm⟩, (-1), rfl, cnt, cnt_e, (by omega)⟩
                      · skip
                        exfalso; omega
                    · skip
                      exfalso; omega
                    · skip
                      exfalso; omega
                    · skip
                      exfalso; omega
                    · skip
                      exfalso; omega
                · skip
                  exfalso; omega
      · skip
        refine r_if_eq hX hP rfl (tgt := 31) rfl (by omega) (by omega) (fun c293 => ?_) (fun c293 => ?_)
        · skip
          refine r_ex hX hP 5 (pc' := 40) (st' := [(0, frm), (2, this)]) (lo' := [(0, (2, this)), (1, (0, frm)), (2, (0, to_)), (3, (0, day)), (4, (0, m)), (5, (0, n)), (6, (0, sure)), (7, (0, 1))]) rfl ?_
          refine r_callS gd hX hP rfl cs_X11_120 (d' := 1) (mc' := 0) (ms' := 0) (as' := [(0, frm)]) (st := [(2, this)]) (by omega) (by omega) (by omega) rfl rfl (Nat.le_of_ble_eq_true rfl) (c_isPaperX E S G frm (by omega) (by omega)) ?_
          rintro _ _ _ ⟨rfl, rfl, z294, rfl, (⟨rfl, f295, f296⟩ | ⟨rfl, f297⟩)⟩
          · skip
            refine r_if_eq hX hP rfl (tgt := 53) rfl (by omega) (by omega) (fun c298 => ?_) (fun c298 => ?_)
            · skip
              exfalso; omega
            · skip
              refine r_ex hX hP 1 (pc' := 47) (st' := [(0, to_), (2, this)]) (lo' := [(0, (2, this)), (1, (0, frm)), (2, (0, to_)), (3, (0, day)), (4, (0, m)), (5, (0, n)), (6, (0, sure)), (7, (0, 1))]) rfl ?_
              refine r_callS gd hX hP rfl cs_X11_120 (d' := 1) (mc' := 0) (ms' := 0) (as' := [(0, to_)]) (st := [(2, this)]) (by omega) (by omega) (by omega) rfl rfl (Nat.le_of_ble_eq_true rfl) (c_isPaperX E S G to_ (by omega) (by omega)) ?_
              rintro _ _ _ ⟨rfl, rfl, z299, rfl, (⟨rfl, f300, f301⟩ | ⟨rfl, f302⟩)⟩
              · skip
                refine r_if_ne hX hP rfl (tgt := 57) rfl (by omega) (by omega) (fun c303 => ?_) (fun c303 => ?_)
                · skip
                  refine r_ex hX hP 3 (pc' := 61) (st' := [(2, this), (0, 1), (0, 0), (2, this)]) (lo' := [(0, (2, this)), (1, (0, frm)), (2, (0, to_)), (3, (0, day)), (4, (0, m)), (5, (0, n)), (6, (0, sure)), (7, (0, 1))]) rfl ?_
                  refine r_getKR hX hP rfl fl_X11_78_128 hS (x := rid) rid_e ?_
                  refine r_getKI hX hP rfl fl_X11_420_132 rid_s (x := cnt) cnt_e ?_
                  refine r_ex hX hP 1 (pc' := 69) (st' := [(0, 12), (0, cnt), (0, 1), (0, 0), (2, this)]) (lo' := [(0, (2, this)), (1, (0, frm)), (2, (0, to_)), (3, (0, day)), (4, (0, m)), (5, (0, n)), (6, (0, sure)), (7, (0, 1))]) rfl ?_
                  refine r_ic_lt hX hP rfl (tgt := 76) rfl (by omega) (by omega) (by omega) (by omega) (fun c304 => ?_) (fun c304 => ?_)
                  · skip
                    refine r_ex hX hP 2 (pc' := 78) (st' := [(0, 0), (0, 0), (0, 1), (0, 0), (2, this)]) (lo' := [(0, (2, this)), (1, (0, frm)), (2, (0, to_)), (3, (0, day)), (4, (0, m)), (5, (0, n)), (6, (0, sure)), (7, (0, 1))]) rfl ?_
                    refine r_callS gd hX hP rfl cs_X11_112 (d' := 0) (mc' := 0) (ms' := 0) (as' := [(0, 0), (0, 1), (0, 0), (0, 0)]) (st := [(2, this)]) (by omega) (by omega) (by omega) rfl rfl (Nat.le_of_ble_eq_true rfl) (c_X11_first E S G 0 1 0 0 (by omega) (by omega) (by omega) (by omega) (by omega) (by omega) (by omega) (by omega)) ?_
                    rintro _ _ _ ⟨rfl, rfl, z305, rfl, (⟨rfl, f306⟩ | ⟨rfl, f307, f308⟩ | ⟨rfl, f309, f310, f311⟩ | ⟨rfl, f312, f313, f314, f315⟩ | ⟨rfl, f316, f317, f318, f319⟩)⟩
                    · skip
                      exfalso; omega
                    · skip
                      refine r_callV gd hX hP rfl cv_X11_90_128 hS (d' := 0) (mc' := 0) (ms' := 0) (as' := [(0, 2)]) (st := []) (by omega) (by omega) (by omega) rfl rfl (Nat.le_of_ble_eq_true rfl) (c_X11_refused E S G this 2 hS (by omega) (by omega)) ?_
                      rintro _ _ _ ⟨rfl, ⟨G320, rfl⟩, z321, rfl, (⟨rfl, f322⟩ | ⟨rfl, f323⟩)⟩
                      · skip
                        refine r_if_eq hX hP rfl (tgt := 89) rfl (by omega) (by omega) (fun c324 => ?_) (fun c324 => ?_)
                        · skip
                          exfalso; omega
                        · skip
                          refine r_ex hX hP 1 (pc' := 88) (st' := [(0, (-1))]) (lo' := [(0, (2, this)), (1, (0, frm)), (2, (0, to_)), (3, (0, day)), (4, (0, m)), (5, (0, n)), (6, (0, sure)), (7, (0, 1))]) rfl ?_
                          exact r_retI hX hP rfl rfl (by omega) (by omega) ⟨rfl, ⟨_, (hw_sub (hw_refl _ _) rfl).symm⟩, (-1), rfl, cnt, cnt_e, (by omega)⟩
                      · skip
                        exfalso; omega
                    · skip
                      exfalso; omega
                    · skip
                      exfalso; omega
                    · skip
                      exfalso; omega
                  · skip
                    refine r_ex hX hP 3 (pc' := 78) (st' := [(0, 0), (0, 1), (0, 1), (0, 0), (2, this)]) (lo' := [(0, (2, this)), (1, (0, frm)), (2, (0, to_)), (3, (0, day)), (4, (0, m)), (5, (0, n)), (6, (0, sure)), (7, (0, 1))]) rfl ?_
                    refine r_callS gd hX hP rfl cs_X11_112 (d' := 0) (mc' := 0) (ms' := 0) (as' := [(0, 0), (0, 1), (0, 1), (0, 0)]) (st := [(2, this)]) (by omega) (by omega) (by omega) rfl rfl (Nat.le_of_ble_eq_true rfl) (c_X11_first E S G 0 1 1 0 (by omega) (by omega) (by omega) (by omega) (by omega) (by omega) (by omega) (by omega)) ?_
                    rintro _ _ _ ⟨rfl, rfl, z325, rfl, (⟨rfl, f326⟩ | ⟨rfl, f327, f328⟩ | ⟨rfl, f329, f330, f331⟩ | ⟨rfl, f332, f333, f334, f335⟩ | ⟨rfl, f336, f337, f338, f339⟩)⟩
                    · skip
                      exfalso; omega
                    · skip
                      refine r_callV gd hX hP rfl cv_X11_90_128 hS (d' := 0) (mc' := 0) (ms' := 0) (as' := [(0, 2)]) (st := []) (by omega) (by omega) (by omega) rfl rfl (Nat.le_of_ble_eq_true rfl) (c_X11_refused E S G this 2 hS (by omega) (by omega)) ?_
                      rintro _ _ _ ⟨rfl, ⟨G340, rfl⟩, z341, rfl, (⟨rfl, f342⟩ | ⟨rfl, f343⟩)⟩
                      · skip
                        refine r_if_eq hX hP rfl (tgt := 89) rfl (by omega) (by omega) (fun c344 => ?_) (fun c344 => ?_)
                        · skip
                          exfalso; omega
                        · skip
                          refine r_ex hX hP 1 (pc' := 88) (st' := [(0, (-1))]) (lo' := [(0, (2, this)), (1, (0, frm)), (2, (0, to_)), (3, (0, day)), (4, (0, m)), (5, (0, n)), (6, (0, sure)), (7, (0, 1))]) rfl ?_
                          exact r_retI hX hP rfl rfl (by omega) (by omega) ⟨rfl, ⟨_, (hw_sub (hw_refl _ _) rfl).symm⟩, (-1), rfl, cnt, cnt_e, (by omega)⟩
                      · skip
                        exfalso; omega
                    · skip
                      exfalso; omega
                    · skip
                      exfalso; omega
                    · skip
                      exfalso; omega
                · skip
                  exfalso; omega
              · skip
                refine r_if_ne hX hP rfl (tgt := 57) rfl (by omega) (by omega) (fun c345 => ?_) (fun c345 => ?_)
                · skip
                  exfalso; omega
                · skip
                  refine r_ex hX hP 4 (pc' := 61) (st' := [(2, this), (0, 1), (0, 1), (2, this)]) (lo' := [(0, (2, this)), (1, (0, frm)), (2, (0, to_)), (3, (0, day)), (4, (0, m)), (5, (0, n)), (6, (0, sure)), (7, (0, 1))]) rfl ?_
                  refine r_getKR hX hP rfl fl_X11_78_128 hS (x := rid) rid_e ?_
                  refine r_getKI hX hP rfl fl_X11_420_132 rid_s (x := cnt) cnt_e ?_
                  refine r_ex hX hP 1 (pc' := 69) (st' := [(0, 12), (0, cnt), (0, 1), (0, 1), (2, this)]) (lo' := [(0, (2, this)), (1, (0, frm)), (2, (0, to_)), (3, (0, day)), (4, (0, m)), (5, (0, n)), (6, (0, sure)), (7, (0, 1))]) rfl ?_
                  refine r_ic_lt hX hP rfl (tgt := 76) rfl (by omega) (by omega) (by omega) (by omega) (fun c346 => ?_) (fun c346 => ?_)
                  · skip
                    refine r_ex hX hP 2 (pc' := 78) (st' := [(0, 0), (0, 0), (0, 1), (0, 1), (2, this)]) (lo' := [(0, (2, this)), (1, (0, frm)), (2, (0, to_)), (3, (0, day)), (4, (0, m)), (5, (0, n)), (6, (0, sure)), (7, (0, 1))]) rfl ?_
                    refine r_callS gd hX hP rfl cs_X11_112 (d' := 0) (mc' := 0) (ms' := 0) (as' := [(0, 1), (0, 1), (0, 0), (0, 0)]) (st := [(2, this)]) (by omega) (by omega) (by omega) rfl rfl (Nat.le_of_ble_eq_true rfl) (c_X11_first E S G 1 1 0 0 (by omega) (by omega) (by omega) (by omega) (by omega) (by omega) (by omega) (by omega)) ?_
                    rintro _ _ _ ⟨rfl, rfl, z347, rfl, (⟨rfl, f348⟩ | ⟨rfl, f349, f350⟩ | ⟨rfl, f351, f352, f353⟩ | ⟨rfl, f354, f355, f356, f357⟩ | ⟨rfl, f358, f359, f360, f361⟩)⟩
                    · skip
                      refine r_callV gd hX hP rfl cv_X11_90_128 hS (d' := 0) (mc' := 0) (ms' := 0) (as' := [(0, 1)]) (st := []) (by omega) (by omega) (by omega) rfl rfl (Nat.le_of_ble_eq_true rfl) (c_X11_refused E S G this 1 hS (by omega) (by omega)) ?_
                      rintro _ _ _ ⟨rfl, ⟨G362, rfl⟩, z363, rfl, (⟨rfl, f364⟩ | ⟨rfl, f365⟩)⟩
                      · skip
                        refine r_if_eq hX hP rfl (tgt := 89) rfl (by omega) (by omega) (fun c366 => ?_) (fun c366 => ?_)
                        · skip
                          exfalso; omega
                        · skip
                          refine r_ex hX hP 1 (pc' := 88) (st' := [(0, (-1))]) (lo' := [(0, (2, this)), (1, (0, frm)), (2, (0, to_)), (3, (0, day)), (4, (0, m)), (5, (0, n)), (6, (0, sure)), (7, (0, 1))]) rfl ?_
                          exact r_retI hX hP rfl rfl (by omega) (by omega) ⟨rfl, ⟨_, (hw_sub (hw_refl _ _) rfl).symm⟩, (-1), rfl, cnt, cnt_e, (by omega)⟩
                      · skip
                        exfalso; omega
                    · skip
                      exfalso; omega
                    · skip
                      exfalso; omega
                    · skip
                      exfalso; omega
                    · skip
                      exfalso; omega
                  · skip
                    refine r_ex hX hP 3 (pc' := 78) (st' := [(0, 0), (0, 1), (0, 1), (0, 1), (2, this)]) (lo' := [(0, (2, this)), (1, (0, frm)), (2, (0, to_)), (3, (0, day)), (4, (0, m)), (5, (0, n)), (6, (0, sure)), (7, (0, 1))]) rfl ?_
                    refine r_callS gd hX hP rfl cs_X11_112 (d' := 0) (mc' := 0) (ms' := 0) (as' := [(0, 1), (0, 1), (0, 1), (0, 0)]) (st := [(2, this)]) (by omega) (by omega) (by omega) rfl rfl (Nat.le_of_ble_eq_true rfl) (c_X11_first E S G 1 1 1 0 (by omega) (by omega) (by omega) (by omega) (by omega) (by omega) (by omega) (by omega)) ?_
                    rintro _ _ _ ⟨rfl, rfl, z367, rfl, (⟨rfl, f368⟩ | ⟨rfl, f369, f370⟩ | ⟨rfl, f371, f372, f373⟩ | ⟨rfl, f374, f375, f376, f377⟩ | ⟨rfl, f378, f379, f380, f381⟩)⟩
                    · skip
                      refine r_callV gd hX hP rfl cv_X11_90_128 hS (d' := 0) (mc' := 0) (ms' := 0) (as' := [(0, 1)]) (st := []) (by omega) (by omega) (by omega) rfl rfl (Nat.le_of_ble_eq_true rfl) (c_X11_refused E S G this 1 hS (by omega) (by omega)) ?_
                      rintro _ _ _ ⟨rfl, ⟨G382, rfl⟩, z383, rfl, (⟨rfl, f384⟩ | ⟨rfl, f385⟩)⟩
                      · skip
                        refine r_if_eq hX hP rfl (tgt := 89) rfl (by omega) (by omega) (fun c386 => ?_) (fun c386 => ?_)
                        · skip
                          exfalso; omega
                        · skip
                          refine r_ex hX hP 1 (pc' := 88) (st' := [(0, (-1))]) (lo' := [(0, (2, this)), (1, (0, frm)), (2, (0, to_)), (3, (0, day)), (4, (0, m)), (5, (0, n)), (6, (0, sure)), (7, (0, 1))]) rfl ?_
                          exact r_retI hX hP rfl rfl (by omega) (by omega) ⟨rfl, ⟨_, (hw_sub (hw_refl _ _) rfl).symm⟩, (-1), rfl, cnt, cnt_e, (by omega)⟩
                      · skip
                        exfalso; omega
                    · skip
                      exfalso; omega
                    · skip
                      exfalso; omega
                    · skip
                      exfalso; omega
                    · skip
                      exfalso; omega
          · skip
            refine r_if_eq hX hP rfl (tgt := 53) rfl (by omega) (by omega) (fun c387 => ?_) (fun c387 => ?_)
            · skip
              refine r_ex hX hP 4 (pc' := 61) (st' := [(2, this), (0, 1), (0, 1), (2, this)]) (lo' := [(0, (2, this)), (1, (0, frm)), (2, (0, to_)), (3, (0, day)), (4, (0, m)), (5, (0, n)), (6, (0, sure)), (7, (0, 1))]) rfl ?_
              refine r_getKR hX hP rfl fl_X11_78_128 hS (x := rid) rid_e ?_
              refine r_getKI hX hP rfl fl_X11_420_132 rid_s (x := cnt) cnt_e ?_
              refine r_ex hX hP 1 (pc' := 69) (st' := [(0, 12), (0, cnt), (0, 1), (0, 1), (2, this)]) (lo' := [(0, (2, this)), (1, (0, frm)), (2, (0, to_)), (3, (0, day)), (4, (0, m)), (5, (0, n)), (6, (0, sure)), (7, (0, 1))]) rfl ?_
              refine r_ic_lt hX hP rfl (tgt := 76) rfl (by omega) (by omega) (by omega) (by omega) (fun c388 => ?_) (fun c388 => ?_)
              · skip
                refine r_ex hX hP 2 (pc' := 78) (st' := [(0, 0), (0, 0), (0, 1), (0, 1), (2, this)]) (lo' := [(0, (2, this)), (1, (0, frm)), (2, (0, to_)), (3, (0, day)), (4, (0, m)), (5, (0, n)), (6, (0, sure)), (7, (0, 1))]) rfl ?_
                refine r_callS gd hX hP rfl cs_X11_112 (d' := 0) (mc' := 0) (ms' := 0) (as' := [(0, 1), (0, 1), (0, 0), (0, 0)]) (st := [(2, this)]) (by omega) (by omega) (by omega) rfl rfl (Nat.le_of_ble_eq_true rfl) (c_X11_first E S G 1 1 0 0 (by omega) (by omega) (by omega) (by omega) (by omega) (by omega) (by omega) (by omega)) ?_
                rintro _ _ _ ⟨rfl, rfl, z389, rfl, (⟨rfl, f390⟩ | ⟨rfl, f391, f392⟩ | ⟨rfl, f393, f394, f395⟩ | ⟨rfl, f396, f397, f398, f399⟩ | ⟨rfl, f400, f401, f402, f403⟩)⟩
                · skip
                  refine r_callV gd hX hP rfl cv_X11_90_128 hS (d' := 0) (mc' := 0) (ms' := 0) (as' := [(0, 1)]) (st := []) (by omega) (by omega) (by omega) rfl rfl (Nat.le_of_ble_eq_true rfl) (c_X11_refused E S G this 1 hS (by omega) (by omega)) ?_
                  rintro _ _ _ ⟨rfl, ⟨G404, rfl⟩, z405, rfl, (⟨rfl, f406⟩ | ⟨rfl, f407⟩)⟩
                  · skip
                    refine r_if_eq hX hP rfl (tgt := 89) rfl (by omega) (by omega) (fun c408 => ?_) (fun c408 => ?_)
                    · skip
                      exfalso; omega
                    · skip
                      refine r_ex hX hP 1 (pc' := 88) (st' := [(0, (-1))]) (lo' := [(0, (2, this)), (1, (0, frm)), (2, (0, to_)), (3, (0, day)), (4, (0, m)), (5, (0, n)), (6, (0, sure)), (7, (0, 1))]) rfl ?_
                      exact r_retI hX hP rfl rfl (by omega) (by omega) ⟨rfl, ⟨_, (hw_sub (hw_refl _ _) rfl).symm⟩, (-1), rfl, cnt, cnt_e, (by omega)⟩
                  · skip
                    exfalso; omega
                · skip
                  exfalso; omega
                · skip
                  exfalso; omega
                · skip
                  exfalso; omega
                · skip
                  exfalso; omega
              · skip
                refine r_ex hX hP 3 (pc' := 78) (st' := [(0, 0), (0, 1), (0, 1), (0, 1), (2, this)]) (lo' := [(0, (2, this)), (1, (0, frm)), (2, (0, to_)), (3, (0, day)), (4, (0, m)), (5, (0, n)), (6, (0, sure)), (7, (0, 1))]) rfl ?_
                refine r_callS gd hX hP rfl cs_X11_112 (d' := 0) (mc' := 0) (ms' := 0) (as' := [(0, 1), (0, 1), (0, 1), (0, 0)]) (st := [(2, this)]) (by omega) (by omega) (by omega) rfl rfl (Nat.le_of_ble_eq_true rfl) (c_X11_first E S G 1 1 1 0 (by omega) (by omega) (by omega) (by omega) (by omega) (by omega) (by omega) (by omega)) ?_
                rintro _ _ _ ⟨rfl, rfl, z409, rfl, (⟨rfl, f410⟩ | ⟨rfl, f411, f412⟩ | ⟨rfl, f413, f414, f415⟩ | ⟨rfl, f416, f417, f418, f419⟩ | ⟨rfl, f420, f421, f422, f423⟩)⟩
                · skip
                  refine r_callV gd hX hP rfl cv_X11_90_128 hS (d' := 0) (mc' := 0) (ms' := 0) (as' := [(0, 1)]) (st := []) (by omega) (by omega) (by omega) rfl rfl (Nat.le_of_ble_eq_true rfl) (c_X11_refused E S G this 1 hS (by omega) (by omega)) ?_
                  rintro _ _ _ ⟨rfl, ⟨G424, rfl⟩, z425, rfl, (⟨rfl, f426⟩ | ⟨rfl, f427⟩)⟩
                  · skip
                    refine r_if_eq hX hP rfl (tgt := 89) rfl (by omega) (by omega) (fun c428 => ?_) (fun c428 => ?_)
                    · skip
                      exfalso; omega
                    · skip
                      refine r_ex hX hP 1 (pc' := 88) (st' := [(0, (-1))]) (lo' := [(0, (2, this)), (1, (0, frm)), (2, (0, to_)), (3, (0, day)), (4, (0, m)), (5, (0, n)), (6, (0, sure)), (7, (0, 1))]) rfl ?_
                      exact r_retI hX hP rfl rfl (by omega) (by omega) ⟨rfl, ⟨_, (hw_sub (hw_refl _ _) rfl).symm⟩, (-1), rfl, cnt, cnt_e, (by omega)⟩
                  · skip
                    exfalso; omega
                · skip
                  exfalso; omega
                · skip
                  exfalso; omega
                · skip
                  exfalso; omega
                · skip
                  exfalso; omega
            · skip
              exfalso; omega
        · skip
          exfalso; omega
  · skip
    refine r_if_eq hX hP rfl (tgt := 31) rfl (by omega) (by omega) (fun c429 => ?_) (fun c429 => ?_)
    · skip
      refine r_ex hX hP 5 (pc' := 40) (st' := [(0, frm), (2, this)]) (lo' := [(0, (2, this)), (1, (0, frm)), (2, (0, to_)), (3, (0, day)), (4, (0, m)), (5, (0, n)), (6, (0, sure)), (7, (0, 1))]) rfl ?_
      refine r_callS gd hX hP rfl cs_X11_120 (d' := 1) (mc' := 0) (ms' := 0) (as' := [(0, frm)]) (st := [(2, this)]) (by omega) (by omega) (by omega) rfl rfl (Nat.le_of_ble_eq_true rfl) (c_isPaperX E S G frm (by omega) (by omega)) ?_
      rintro _ _ _ ⟨rfl, rfl, z430, rfl, (⟨rfl, f431, f432⟩ | ⟨rfl, f433⟩)⟩
      · skip
        refine r_if_eq hX hP rfl (tgt := 53) rfl (by omega) (by omega) (fun c434 => ?_) (fun c434 => ?_)
        · skip
          exfalso; omega
        · skip
          refine r_ex hX hP 1 (pc' := 47) (st' := [(0, to_), (2, this)]) (lo' := [(0, (2, this)), (1, (0, frm)), (2, (0, to_)), (3, (0, day)), (4, (0, m)), (5, (0, n)), (6, (0, sure)), (7, (0, 1))]) rfl ?_
          refine r_callS gd hX hP rfl cs_X11_120 (d' := 1) (mc' := 0) (ms' := 0) (as' := [(0, to_)]) (st := [(2, this)]) (by omega) (by omega) (by omega) rfl rfl (Nat.le_of_ble_eq_true rfl) (c_isPaperX E S G to_ (by omega) (by omega)) ?_
          rintro _ _ _ ⟨rfl, rfl, z435, rfl, (⟨rfl, f436, f437⟩ | ⟨rfl, f438⟩)⟩
          · skip
            refine r_if_ne hX hP rfl (tgt := 57) rfl (by omega) (by omega) (fun c439 => ?_) (fun c439 => ?_)
            · skip
              refine r_ex hX hP 3 (pc' := 61) (st' := [(2, this), (0, 1), (0, 0), (2, this)]) (lo' := [(0, (2, this)), (1, (0, frm)), (2, (0, to_)), (3, (0, day)), (4, (0, m)), (5, (0, n)), (6, (0, sure)), (7, (0, 1))]) rfl ?_
              refine r_getKR hX hP rfl fl_X11_78_128 hS (x := rid) rid_e ?_
              refine r_getKI hX hP rfl fl_X11_420_132 rid_s (x := cnt) cnt_e ?_
              refine r_ex hX hP 1 (pc' := 69) (st' := [(0, 12), (0, cnt), (0, 1), (0, 0), (2, this)]) (lo' := [(0, (2, this)), (1, (0, frm)), (2, (0, to_)), (3, (0, day)), (4, (0, m)), (5, (0, n)), (6, (0, sure)), (7, (0, 1))]) rfl ?_
              refine r_ic_lt hX hP rfl (tgt := 76) rfl (by omega) (by omega) (by omega) (by omega) (fun c440 => ?_) (fun c440 => ?_)
              · skip
                refine r_ex hX hP 2 (pc' := 78) (st' := [(0, 0), (0, 0), (0, 1), (0, 0), (2, this)]) (lo' := [(0, (2, this)), (1, (0, frm)), (2, (0, to_)), (3, (0, day)), (4, (0, m)), (5, (0, n)), (6, (0, sure)), (7, (0, 1))]) rfl ?_
                refine r_callS gd hX hP rfl cs_X11_112 (d' := 0) (mc' := 0) (ms' := 0) (as' := [(0, 0), (0, 1), (0, 0), (0, 0)]) (st := [(2, this)]) (by omega) (by omega) (by omega) rfl rfl (Nat.le_of_ble_eq_true rfl) (c_X11_first E S G 0 1 0 0 (by omega) (by omega) (by omega) (by omega) (by omega) (by omega) (by omega) (by omega)) ?_
                rintro _ _ _ ⟨rfl, rfl, z441, rfl, (⟨rfl, f442⟩ | ⟨rfl, f443, f444⟩ | ⟨rfl, f445, f446, f447⟩ | ⟨rfl, f448, f449, f450, f451⟩ | ⟨rfl, f452, f453, f454, f455⟩)⟩
                · skip
                  exfalso; omega
                · skip
                  refine r_callV gd hX hP rfl cv_X11_90_128 hS (d' := 0) (mc' := 0) (ms' := 0) (as' := [(0, 2)]) (st := []) (by omega) (by omega) (by omega) rfl rfl (Nat.le_of_ble_eq_true rfl) (c_X11_refused E S G this 2 hS (by omega) (by omega)) ?_
                  rintro _ _ _ ⟨rfl, ⟨G456, rfl⟩, z457, rfl, (⟨rfl, f458⟩ | ⟨rfl, f459⟩)⟩
                  · skip
                    refine r_if_eq hX hP rfl (tgt := 89) rfl (by omega) (by omega) (fun c460 => ?_) (fun c460 => ?_)
                    · skip
                      exfalso; omega
                    · skip
                      refine r_ex hX hP 1 (pc' := 88) (st' := [(0, (-1))]) (lo' := [(0, (2, this)), (1, (0, frm)), (2, (0, to_)), (3, (0, day)), (4, (0, m)), (5, (0, n)), (6, (0, sure)), (7, (0, 1))]) rfl ?_
                      exact r_retI hX hP rfl rfl (by omega) (by omega) ⟨rfl, ⟨_, (hw_sub (hw_refl _ _) rfl).symm⟩, (-1), rfl, cnt, cnt_e, (by omega)⟩
                  · skip
                    exfalso; omega
                · skip
                  exfalso; omega
                · skip
                  exfalso; omega
                · skip
                  exfalso; omega
              · skip
                refine r_ex hX hP 3 (pc' := 78) (st' := [(0, 0), (0, 1), (0, 1), (0, 0), (2, this)]) (lo' := [(0, (2, this)), (1, (0, frm)), (2, (0, to_)), (3, (0, day)), (4, (0, m)), (5, (0, n)), (6, (0, sure)), (7, (0, 1))]) rfl ?_
                refine r_callS gd hX hP rfl cs_X11_112 (d' := 0) (mc' := 0) (ms' := 0) (as' := [(0, 0), (0, 1), (0, 1), (0, 0)]) (st := [(2, this)]) (by omega) (by omega) (by omega) rfl rfl (Nat.le_of_ble_eq_true rfl) (c_X11_first E S G 0 1 1 0 (by omega) (by omega) (by omega) (by omega) (by omega) (by omega) (by omega) (by omega)) ?_
                rintro _ _ _ ⟨rfl, rfl, z461, rfl, (⟨rfl, f462⟩ | ⟨rfl, f463, f464⟩ | ⟨rfl, f465, f466, f467⟩ | ⟨rfl, f468, f469, f470, f471⟩ | ⟨rfl, f472, f473, f474, f475⟩)⟩
                · skip
                  exfalso; omega
                · skip
                  refine r_callV gd hX hP rfl cv_X11_90_128 hS (d' := 0) (mc' := 0) (ms' := 0) (as' := [(0, 2)]) (st := []) (by omega) (by omega) (by omega) rfl rfl (Nat.le_of_ble_eq_true rfl) (c_X11_refused E S G this 2 hS (by omega) (by omega)) ?_
                  rintro _ _ _ ⟨rfl, ⟨G476, rfl⟩, z477, rfl, (⟨rfl, f478⟩ | ⟨rfl, f479⟩)⟩
                  · skip
                    refine r_if_eq hX hP rfl (tgt := 89) rfl (by omega) (by omega) (fun c480 => ?_) (fun c480 => ?_)
                    · skip
                      exfalso; omega
                    · skip
                      refine r_ex hX hP 1 (pc' := 88) (st' := [(0, (-1))]) (lo' := [(0, (2, this)), (1, (0, frm)), (2, (0, to_)), (3, (0, day)), (4, (0, m)), (5, (0, n)), (6, (0, sure)), (7, (0, 1))]) rfl ?_
                      exact r_retI hX hP rfl rfl (by omega) (by omega) ⟨rfl, ⟨_, (hw_sub (hw_refl _ _) rfl).symm⟩, (-1), rfl, cnt, cnt_e, (by omega)⟩
                  · skip
                    exfalso; omega
                · skip
                  exfalso; omega
                · skip
                  exfalso; omega
                · skip
                  exfalso; omega
            · skip
              exfalso; omega
          · skip
            refine r_if_ne hX hP rfl (tgt := 57) rfl (by omega) (by omega) (fun c481 => ?_) (fun c481 => ?_)
            · skip
              exfalso; omega
            · skip
              refine r_ex hX hP 4 (pc' := 61) (st' := [(2, this), (0, 1), (0, 1), (2, this)]) (lo' := [(0, (2, this)), (1, (0, frm)), (2, (0, to_)), (3, (0, day)), (4, (0, m)), (5, (0, n)), (6, (0, sure)), (7, (0, 1))]) rfl ?_
              refine r_getKR hX hP rfl fl_X11_78_128 hS (x := rid) rid_e ?_
              refine r_getKI hX hP rfl fl_X11_420_132 rid_s (x := cnt) cnt_e ?_
              refine r_ex hX hP 1 (pc' := 69) (st' := [(0, 12), (0, cnt), (0, 1), (0, 1), (2, this)]) (lo' := [(0, (2, this)), (1, (0, frm)), (2, (0, to_)), (3, (0, day)), (4, (0, m)), (5, (0, n)), (6, (0, sure)), (7, (0, 1))]) rfl ?_
              refine r_ic_lt hX hP rfl (tgt := 76) rfl (by omega) (by omega) (by omega) (by omega) (fun c482 => ?_) (fun c482 => ?_)
              · skip
                refine r_ex hX hP 2 (pc' := 78) (st' := [(0, 0), (0, 0), (0, 1), (0, 1), (2, this)]) (lo' := [(0, (2, this)), (1, (0, frm)), (2, (0, to_)), (3, (0, day)), (4, (0, m)), (5, (0, n)), (6, (0, sure)), (7, (0, 1))]) rfl ?_
                refine r_callS gd hX hP rfl cs_X11_112 (d' := 0) (mc' := 0) (ms' := 0) (as' := [(0, 1), (0, 1), (0, 0), (0, 0)]) (st := [(2, this)]) (by omega) (by omega) (by omega) rfl rfl (Nat.le_of_ble_eq_true rfl) (c_X11_first E S G 1 1 0 0 (by omega) (by omega) (by omega) (by omega) (by omega) (by omega) (by omega) (by omega)) ?_
                rintro _ _ _ ⟨rfl, rfl, z483, rfl, (⟨rfl, f484⟩ | ⟨rfl, f485, f486⟩ | ⟨rfl, f487, f488, f489⟩ | ⟨rfl, f490, f491, f492, f493⟩ | ⟨rfl, f494, f495, f496, f497⟩)⟩
                · skip
                  refine r_callV gd hX hP rfl cv_X11_90_128 hS (d' := 0) (mc' := 0) (ms' := 0) (as' := [(0, 1)]) (st := []) (by omega) (by omega) (by omega) rfl rfl (Nat.le_of_ble_eq_true rfl) (c_X11_refused E S G this 1 hS (by omega) (by omega)) ?_
                  rintro _ _ _ ⟨rfl, ⟨G498, rfl⟩, z499, rfl, (⟨rfl, f500⟩ | ⟨rfl, f501⟩)⟩
                  · skip
                    refine r_if_eq hX hP rfl (tgt := 89) rfl (by omega) (by omega) (fun c502 => ?_) (fun c502 => ?_)
                    · skip
                      exfalso; omega
                    · skip
                      refine r_ex hX hP 1 (pc' := 88) (st' := [(0, (-1))]) (lo' := [(0, (2, this)), (1, (0, frm)), (2, (0, to_)), (3, (0, day)), (4, (0, m)), (5, (0, n)), (6, (0, sure)), (7, (0, 1))]) rfl ?_
                      exact r_retI hX hP rfl rfl (by omega) (by omega) ⟨rfl, ⟨_, (hw_sub (hw_refl _ _) rfl).symm⟩, (-1), rfl, cnt, cnt_e, (by omega)⟩
                  · skip
                    exfalso; omega
                · skip
                  exfalso; omega
                · skip
                  exfalso; omega
                · skip
                  exfalso; omega
                · skip
                  exfalso; omega
              · skip
                refine r_ex hX hP 3 (pc' := 78) (st' := [(0, 0), (0, 1), (0, 1), (0, 1), (2, this)]) (lo' := [(0, (2, this)), (1, (0, frm)), (2, (0, to_)), (3, (0, day)), (4, (0, m)), (5, (0, n)), (6, (0, sure)), (7, (0, 1))]) rfl ?_
                refine r_callS gd hX hP rfl cs_X11_112 (d' := 0) (mc' := 0) (ms' := 0) (as' := [(0, 1), (0, 1), (0, 1), (0, 0)]) (st := [(2, this)]) (by omega) (by omega) (by omega) rfl rfl (Nat.le_of_ble_eq_true rfl) (c_X11_first E S G 1 1 1 0 (by omega) (by omega) (by omega) (by omega) (by omega) (by omega) (by omega) (by omega)) ?_
                rintro _ _ _ ⟨rfl, rfl, z503, rfl, (⟨rfl, f504⟩ | ⟨rfl, f505, f506⟩ | ⟨rfl, f507, f508, f509⟩ | ⟨rfl, f510, f511, f512, f513⟩ | ⟨rfl, f514, f515, f516, f517⟩)⟩
                · skip
                  refine r_callV gd hX hP rfl cv_X11_90_128 hS (d' := 0) (mc' := 0) (ms' := 0) (as' := [(0, 1)]) (st := []) (by omega) (by omega) (by omega) rfl rfl (Nat.le_of_ble_eq_true rfl) (c_X11_refused E S G this 1 hS (by omega) (by omega)) ?_
                  rintro _ _ _ ⟨rfl, ⟨G518, rfl⟩, z519, rfl, (⟨rfl, f520⟩ | ⟨rfl, f521⟩)⟩
                  · skip
                    refine r_if_eq hX hP rfl (tgt := 89) rfl (by omega) (by omega) (fun c522 => ?_) (fun c522 => ?_)
                    · skip
                      exfalso; omega
                    · skip
                      refine r_ex hX hP 1 (pc' := 88) (st' := [(0, (-1))]) (lo' := [(0, (2, this)), (1, (0, frm)), (2, (0, to_)), (3, (0, day)), (4, (0, m)), (5, (0, n)), (6, (0, sure)), (7, (0, 1))]) rfl ?_
                      exact r_retI hX hP rfl rfl (by omega) (by omega) ⟨rfl, ⟨_, (hw_sub (hw_refl _ _) rfl).symm⟩, (-1), rfl, cnt, cnt_e, (by omega)⟩
                  · skip
                    exfalso; omega
                · skip
                  exfalso; omega
                · skip
                  exfalso; omega
                · skip
                  exfalso; omega
                · skip
                  exfalso; omega
      · skip
        refine r_if_eq hX hP rfl (tgt := 53) rfl (by omega) (by omega) (fun c523 => ?_) (fun c523 => ?_)
        · skip
          refine r_ex hX hP 4 (pc' := 61) (st' := [(2, this), (0, 1), (0, 1), (2, this)]) (lo' := [(0, (2, this)), (1, (0, frm)), (2, (0, to_)), (3, (0, day)), (4, (0, m)), (5, (0, n)), (6, (0, sure)), (7, (0, 1))]) rfl ?_
          refine r_getKR hX hP rfl fl_X11_78_128 hS (x := rid) rid_e ?_
          refine r_getKI hX hP rfl fl_X11_420_132 rid_s (x := cnt) cnt_e ?_
          refine r_ex hX hP 1 (pc' := 69) (st' := [(0, 12), (0, cnt), (0, 1), (0, 1), (2, this)]) (lo' := [(0, (2, this)), (1, (0, frm)), (2, (0, to_)), (3, (0, day)), (4, (0, m)), (5, (0, n)), (6, (0, sure)), (7, (0, 1))]) rfl ?_
          refine r_ic_lt hX hP rfl (tgt := 76) rfl (by omega) (by omega) (by omega) (by omega) (fun c524 => ?_) (fun c524 => ?_)
          · skip
            refine r_ex hX hP 2 (pc' := 78) (st' := [(0, 0), (0, 0), (0, 1), (0, 1), (2, this)]) (lo' := [(0, (2, this)), (1, (0, frm)), (2, (0, to_)), (3, (0, day)), (4, (0, m)), (5, (0, n)), (6, (0, sure)), (7, (0, 1))]) rfl ?_
            refine r_callS gd hX hP rfl cs_X11_112 (d' := 0) (mc' := 0) (ms' := 0) (as' := [(0, 1), (0, 1), (0, 0), (0, 0)]) (st := [(2, this)]) (by omega) (by omega) (by omega) rfl rfl (Nat.le_of_ble_eq_true rfl) (c_X11_first E S G 1 1 0 0 (by omega) (by omega) (by omega) (by omega) (by omega) (by omega) (by omega) (by omega)) ?_
            rintro _ _ _ ⟨rfl, rfl, z525, rfl, (⟨rfl, f526⟩ | ⟨rfl, f527, f528⟩ | ⟨rfl, f529, f530, f531⟩ | ⟨rfl, f532, f533, f534, f535⟩ | ⟨rfl, f536, f537, f538, f539⟩)⟩
            · skip
              refine r_callV gd hX hP rfl cv_X11_90_128 hS (d' := 0) (mc' := 0) (ms' := 0) (as' := [(0, 1)]) (st := []) (by omega) (by omega) (by omega) rfl rfl (Nat.le_of_ble_eq_true rfl) (c_X11_refused E S G this 1 hS (by omega) (by omega)) ?_
              rintro _ _ _ ⟨rfl, ⟨G540, rfl⟩, z541, rfl, (⟨rfl, f542⟩ | ⟨rfl, f543⟩)⟩
              · skip
                refine r_if_eq hX hP rfl (tgt := 89) rfl (by omega) (by omega) (fun c544 => ?_) (fun c544 => ?_)
                · skip
                  exfalso; omega
                · skip
                  refine r_ex hX hP 1 (pc' := 88) (st' := [(0, (-1))]) (lo' := [(0, (2, this)), (1, (0, frm)), (2, (0, to_)), (3, (0, day)), (4, (0, m)), (5, (0, n)), (6, (0, sure)), (7, (0, 1))]) rfl ?_
                  exact r_retI hX hP rfl rfl (by omega) (by omega) ⟨rfl, ⟨_, (hw_sub (hw_refl _ _) rfl).symm⟩, (-1), rfl, cnt, cnt_e, (by omega)⟩
              · skip
                exfalso; omega
            · skip
              exfalso; omega
            · skip
              exfalso; omega
            · skip
              exfalso; omega
            · skip
              exfalso; omega
          · skip
            refine r_ex hX hP 3 (pc' := 78) (st' := [(0, 0), (0, 1), (0, 1), (0, 1), (2, this)]) (lo' := [(0, (2, this)), (1, (0, frm)), (2, (0, to_)), (3, (0, day)), (4, (0, m)), (5, (0, n)), (6, (0, sure)), (7, (0, 1))]) rfl ?_
            refine r_callS gd hX hP rfl cs_X11_112 (d' := 0) (mc' := 0) (ms' := 0) (as' := [(0, 1), (0, 1), (0, 1), (0, 0)]) (st := [(2, this)]) (by omega) (by omega) (by omega) rfl rfl (Nat.le_of_ble_eq_true rfl) (c_X11_first E S G 1 1 1 0 (by omega) (by omega) (by omega) (by omega) (by omega) (by omega) (by omega) (by omega)) ?_
            rintro _ _ _ ⟨rfl, rfl, z545, rfl, (⟨rfl, f546⟩ | ⟨rfl, f547, f548⟩ | ⟨rfl, f549, f550, f551⟩ | ⟨rfl, f552, f553, f554, f555⟩ | ⟨rfl, f556, f557, f558, f559⟩)⟩
            · skip
              refine r_callV gd hX hP rfl cv_X11_90_128 hS (d' := 0) (mc' := 0) (ms' := 0) (as' := [(0, 1)]) (st := []) (by omega) (by omega) (by omega) rfl rfl (Nat.le_of_ble_eq_true rfl) (c_X11_refused E S G this 1 hS (by omega) (by omega)) ?_
              rintro _ _ _ ⟨rfl, ⟨G560, rfl⟩, z561, rfl, (⟨rfl, f562⟩ | ⟨rfl, f563⟩)⟩
              · skip
                refine r_if_eq hX hP rfl (tgt := 89) rfl (by omega) (by omega) (fun c564 => ?_) (fun c564 => ?_)
                · skip
                  exfalso; omega
                · skip
                  refine r_ex hX hP 1 (pc' := 88) (st' := [(0, (-1))]) (lo' := [(0, (2, this)), (1, (0, frm)), (2, (0, to_)), (3, (0, day)), (4, (0, m)), (5, (0, n)), (6, (0, sure)), (7, (0, 1))]) rfl ?_
                  exact r_retI hX hP rfl rfl (by omega) (by omega) ⟨rfl, ⟨_, (hw_sub (hw_refl _ _) rfl).symm⟩, (-1), rfl, cnt, cnt_e, (by omega)⟩
              · skip
                exfalso; omega
            · skip
              exfalso; omega
            · skip
              exfalso; omega
            · skip
              exfalso; omega
            · skip
              exfalso; omega
        · skip
          exfalso; omega
    · skip
      exfalso; omega
