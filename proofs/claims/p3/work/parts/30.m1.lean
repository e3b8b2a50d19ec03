set_option maxRecDepth 100000 in
set_option maxHeartbeats 4000000 in
theorem c_X12_isIn (E : En) (S : Sg) (G : Gh) (v low top : Int) (v_a : (-2147483648) ≤ v) (v_b : v ≤ 2147483647) (low_a : (-2147483648) ≤ low) (low_b : low ≤ 2147483647) (top_a : (-2147483648) ≤ top) (top_b : top ≤ 2147483647) : Calls E mX12_isIn [(0, v), (0, low), (0, top)] S G 0 0 0 (fun r S' G' => S = S' ∧ G = G' ∧ ∃ z : Int, r = some (0, z) ∧ ((z = 1 ∧ low ≤ v ∧ v ≤ top) ∨ (z = 0 ∧ (v < low ∨ top < v)))) := by
  refine calls_by [(0, (0, v)), (1, (0, low)), (2, (0, top))] rfl rfl (Nat.le_of_ble_eq_true rfl) (fun X hX => ?_)
  have hP := hPX12_isIn
  refine r_ex hX hP 2 (pc' := 2) (st' := [(0, low), (0, v)]) (lo' := [(0, (0, v)), (1, (0, low)), (2, (0, top))]) rfl ?_
  refine r_ic_lt hX hP rfl (tgt := 14) rfl (by omega) (by omega) (by omega) (by omega) (fun c1 => ?_) (fun c1 => ?_)
  · skip
    refine r_ex hX hP 1 (pc' := 15) (st' := [(0, 0)]) (lo' := [(0, (0, v)), (1, (0, low)), (2, (0, top))]) rfl ?_
    exact r_retZ hX hP rfl rfl (by omega) (by omega) (by omega) (by omega) ⟨rfl, rfl, 0, rfl, (by omega)⟩
  · skip
    refine r_ex hX hP 2 (pc' := 7) (st' := [(0, top), (0, v)]) (lo' := [(0, (0, v)), (1, (0, low)), (2, (0, top))]) rfl ?_
    refine r_ic_gt hX hP rfl (tgt := 14) rfl (by omega) (by omega) (by omega) (by omega) (fun c2 => ?_) (fun c2 => ?_)
    · skip
      refine r_ex hX hP 1 (pc' := 15) (st' := [(0, 0)]) (lo' := [(0, (0, v)), (1, (0, low)), (2, (0, top))]) rfl ?_
      exact r_retZ hX hP rfl rfl (by omega) (by omega) (by omega) (by omega) ⟨rfl, rfl, 0, rfl, (by omega)⟩
    · skip
      refine r_ex hX hP 2 (pc' := 15) (st' := [(0, 1)]) (lo' := [(0, (0, v)), (1, (0, low)), (2, (0, top))]) rfl ?_
      exact r_retZ hX hP rfl rfl (by omega) (by omega) (by omega) (by omega) ⟨rfl, rfl, 1, rfl, (by omega)⟩
set_option maxRecDepth 100000 in
set_option maxHeartbeats 4000000 in
theorem c_X12_isDay (E : En) (S : Sg) (G : Gh) (v : Int) (v_a : (-2147483648) ≤ v) (v_b : v ≤ 2147483647) : Calls E mX12_isDay [(0, v)] S G 1 0 0 (fun r S' G' => S = S' ∧ G = G' ∧ ∃ z : Int, r = some (0, z) ∧ ((z = 1 ∧ 0 ≤ v ∧ v ≤ 40000) ∨ (z = 0 ∧ (v < 0 ∨ 40000 < v)))) := by
  refine calls_by [(0, (0, v))] rfl rfl (Nat.le_of_ble_eq_true rfl) (fun X hX => ?_)
  have hP := hPX12_isDay
  refine r_ex hX hP 2 (pc' := 2) (st' := [(0, 0), (0, v)]) (lo' := [(0, (0, v))]) rfl ?_
  refine r_ldc hX hP rfl (v := 40000) (tbg sg7 130 rfl rfl) ?_
  refine r_callS gd hX hP rfl cs_12_310 (d' := 0) (mc' := 0) (ms' := 0) (as' := [(0, v), (0, 0), (0, 40000)]) (st := []) (by decide) (by decide) (by decide) rfl rfl (Nat.le_of_ble_eq_true rfl) (c_X12_isIn E S G v 0 40000 (by omega) (by omega) (by omega) (by omega) (by omega) (by omega)) ?_
  rintro _ _ _ ⟨rfl, rfl, z1, rfl, (⟨rfl, f2, f3⟩ | ⟨rfl, f4⟩)⟩
  · skip
    exact r_retZ hX hP rfl rfl (by omega) (by omega) (by omega) (by omega) ⟨rfl, rfl, 1, rfl, (by omega)⟩
  · skip
    exact r_retZ hX hP rfl rfl (by omega) (by omega) (by omega) (by omega) ⟨rfl, rfl, 0, rfl, (by omega)⟩
set_option maxRecDepth 100000 in
set_option maxHeartbeats 4000000 in
theorem c_X12_isPaper (E : En) (S : Sg) (G : Gh) (v : Int) (v_a : (-2147483648) ≤ v) (v_b : v ≤ 2147483647) : Calls E mX12_isPaper [(0, v)] S G 1 0 0 (fun r S' G' => S = S' ∧ G = G' ∧ ∃ z : Int, r = some (0, z) ∧ ((z = 1 ∧ 0 ≤ v ∧ v ≤ 19) ∨ (z = 0 ∧ (v < 0 ∨ 19 < v)))) := by
  refine calls_by [(0, (0, v))] rfl rfl (Nat.le_of_ble_eq_true rfl) (fun X hX => ?_)
  have hP := hPX12_isPaper
  refine r_ex hX hP 3 (pc' := 4) (st' := [(0, 19), (0, 0), (0, v)]) (lo' := [(0, (0, v))]) rfl ?_
  refine r_callS gd hX hP rfl cs_12_310 (d' := 0) (mc' := 0) (ms' := 0) (as' := [(0, v), (0, 0), (0, 19)]) (st := []) (by decide) (by decide) (by decide) rfl rfl (Nat.le_of_ble_eq_true rfl) (c_X12_isIn E S G v 0 19 (by omega) (by omega) (by omega) (by omega) (by omega) (by omega)) ?_
  rintro _ _ _ ⟨rfl, rfl, z1, rfl, (⟨rfl, f2, f3⟩ | ⟨rfl, f4⟩)⟩
  · skip
    exact r_retZ hX hP rfl rfl (by omega) (by omega) (by omega) (by omega) ⟨rfl, rfl, 1, rfl, (by omega)⟩
  · skip
    exact r_retZ hX hP rfl rfl (by omega) (by omega) (by omega) (by omega) ⟨rfl, rfl, 0, rfl, (by omega)⟩
set_option maxRecDepth 100000 in
set_option maxHeartbeats 4000000 in
theorem c_X12_isAccount (E : En) (S : Sg) (G : Gh) (v : Int) (hS : S (Ad E 1) = 1) (accounts : Int) (accounts_e : accounts = G 1 (Ad E 1) 6) (v_a : (-2147483648) ≤ v) (v_b : v ≤ 2147483647) : Calls E mX12_isAccount [(2, (Ad E 1)), (0, v)] S G 1 0 0 (fun r S' G' => S = S' ∧ G = G' ∧ ∃ z : Int, r = some (0, z) ∧ ((z = 1 ∧ 0 ≤ v ∧ v < accounts) ∨ (z = 0 ∧ (v < 0 ∨ accounts ≤ v)))) := by
  refine calls_by [(0, (2, (Ad E 1))), (1, (0, v))] rfl rfl (Nat.le_of_ble_eq_true rfl) (fun X hX => ?_)
  have hP := hPX12_isAccount
  refine r_peekI hX (tl1 6 rfl (by decide)) hS (fun accounts_o accounts_oe accounts_oa accounts_ob => ?_)
  obtain rfl : accounts_o = accounts := accounts_oe.trans accounts_e.symm
  refine r_ex hX hP 3 (pc' := 3) (st' := [(2, (Ad E 1)), (0, 0), (0, v)]) (lo' := [(0, (2, (Ad E 1))), (1, (0, v))]) rfl ?_
  refine r_getKI hX hP rfl fl_12_314 hS (x := accounts) accounts_e ?_
  refine r_ex hX hP 2 (pc' := 8) (st' := [(0, (accounts - 1)), (0, 0), (0, v)]) (lo' := [(0, (2, (Ad E 1))), (1, (0, v))]) rfl ?_
  refine r_callS gd hX hP rfl cs_12_310 (d' := 0) (mc' := 0) (ms' := 0) (as' := [(0, v), (0, 0), (0, (accounts - 1))]) (st := []) (by decide) (by decide) (by decide) rfl rfl (Nat.le_of_ble_eq_true rfl) (c_X12_isIn E S G v 0 (accounts - 1) (by omega) (by omega) (by omega) (by omega) (by omega) (by omega)) ?_
  rintro _ _ _ ⟨rfl, rfl, z1, rfl, (⟨rfl, f2, f3⟩ | ⟨rfl, f4⟩)⟩
  · skip
    exact r_retZ hX hP rfl rfl (by omega) (by omega) (by omega) (by omega) ⟨rfl, rfl, 1, rfl, (by omega)⟩
  · skip
    exact r_retZ hX hP rfl rfl (by omega) (by omega) (by omega) (by omega) ⟨rfl, rfl, 0, rfl, (by omega)⟩
set_option maxRecDepth 100000 in
set_option maxHeartbeats 4000000 in
theorem c_X12_no (E : En) (S : Sg) (G : Gh) (w : Int) (hS : S (Ad E 1) = 1) (w_a : 0 ≤ w) (w_b : w ≤ 8) : Calls E mX12_no [(2, (Ad E 1)), (0, w)] S G 0 0 0 (fun r S' G' => S = S' ∧ (∃ G1, hv [0] [] G G1 = G') ∧ ∃ z : Int, r = some (0, z) ∧ (z = 0)) := by
  refine calls_by [(0, (2, (Ad E 1))), (1, (0, w))] rfl rfl (Nat.le_of_ble_eq_true rfl) (fun X hX => ?_)
  have hP := hPX12_no
  refine r_ex hX hP 2 (pc' := 2) (st' := [(0, w), (2, (Ad E 1))]) (lo' := [(0, (2, (Ad E 1))), (1, (0, w))]) rfl ?_
  refine r_putIK hX hP rfl fp_12_307 hS (by omega) (by omega) (fun h1 => ?_)
  refine r_ex hX hP 1 (pc' := 6) (st' := [(0, 0)]) (lo' := [(0, (2, (Ad E 1))), (1, (0, w))]) rfl ?_
  exact r_retZ hX hP rfl rfl (by omega) (by omega) (by omega) (by omega) ⟨rfl, ⟨_, (hq_up (hq_refl _ _ _) rfl).symm⟩, 0, rfl, (by omega)⟩
set_option maxRecDepth 100000 in
set_option maxHeartbeats 4000000 in
theorem c_X12_refuse (E : En) (S : Sg) (G : Gh) (w : Int) (hS : S (Ad E 1) = 1) (w_a : 0 ≤ w) (w_b : w ≤ 8) : Calls E mX12_refuse [(2, (Ad E 1)), (0, w)] S G 0 0 0 (fun r S' G' => S = S' ∧ (∃ G1, hv [0] [] G G1 = G') ∧ ∃ z : Int, r = some (0, z) ∧ (z = (-1))) := by
  refine calls_by [(0, (2, (Ad E 1))), (1, (0, w))] rfl rfl (Nat.le_of_ble_eq_true rfl) (fun X hX => ?_)
  have hP := hPX12_refuse
  refine r_ex hX hP 2 (pc' := 2) (st' := [(0, w), (2, (Ad E 1))]) (lo' := [(0, (2, (Ad E 1))), (1, (0, w))]) rfl ?_
  refine r_putIK hX hP rfl fp_12_307 hS (by omega) (by omega) (fun h1 => ?_)
  refine r_ex hX hP 1 (pc' := 6) (st' := [(0, (-1))]) (lo' := [(0, (2, (Ad E 1))), (1, (0, w))]) rfl ?_
  exact r_retI hX hP rfl rfl (by omega) (by omega) ⟨rfl, ⟨_, (hq_up (hq_refl _ _ _) rfl).symm⟩, (-1), rfl, (by omega)⟩
set_option maxRecDepth 100000 in
set_option maxHeartbeats 4000000 in
theorem c_X12_status (E : En) (S : Sg) (G : Gh) (hS : S (Ad E 1) = 1) : Calls E mX12_status [(2, (Ad E 1))] S G 0 0 0 (fun r S' G' => S = S' ∧ (∃ G1, hv [1] [] G G1 = G') ∧ ∃ z : Int, r = some (0, z) ∧ (-2147483648) ≤ z ∧ z ≤ 2147483647) := by
  refine calls_by [(0, (2, (Ad E 1)))] rfl rfl (Nat.le_of_ble_eq_true rfl) (fun X hX => ?_)
  have hP := hPX12_status
  refine r_ex hX hP 2 (pc' := 2) (st' := [(0, 0), (2, (Ad E 1))]) (lo' := [(0, (2, (Ad E 1)))]) rfl ?_
  refine r_putIK hX hP rfl fp_12_304 hS (by omega) (by omega) (fun h1 => ?_)
  refine r_ex hX hP 1 (pc' := 6) (st' := [(2, (Ad E 1))]) (lo' := [(0, (2, (Ad E 1)))]) rfl ?_
  refine r_getI hX hP rfl fl_12_307 hS (fun sf2 sf2e sf2a sf2b => ?_)
  exact r_retI hX hP rfl rfl (by omega) (by omega) ⟨rfl, ⟨_, (hq_up (hq_refl _ _ _) rfl).symm⟩, sf2, rfl, (by omega)⟩
set_option maxRecDepth 100000 in
set_option maxHeartbeats 4000000 in
theorem c_X12_asof (E : En) (S : Sg) (G : Gh) (d : Int) (hS : S (Ad E 1) = 1) (d_a : (-2147483648) ≤ d) (d_b : d ≤ 2147483647) : Calls E mX12_asof [(2, (Ad E 1)), (0, d)] S G 2 0 0 (fun r S' G' => S = S' ∧ (∃ G1, hv [0, 1, 2] [] G G1 = G') ∧ ∃ z : Int, r = some (0, z) ∧ ((z = 1 ∧ 0 ≤ d ∧ d ≤ 40000) ∨ (z = 0 ∧ (d < 0 ∨ 40000 < d)))) := by
  refine calls_by [(0, (2, (Ad E 1))), (1, (0, d))] rfl rfl (Nat.le_of_ble_eq_true rfl) (fun X hX => ?_)
  have hP := hPX12_asof
  refine r_ex hX hP 2 (pc' := 2) (st' := [(0, 0), (2, (Ad E 1))]) (lo' := [(0, (2, (Ad E 1))), (1, (0, d))]) rfl ?_
  refine r_putIK hX hP rfl fp_12_304 hS (by omega) (by omega) (fun h1 => ?_)
  refine r_ex hX hP 2 (pc' := 7) (st' := [(0, 0), (2, (Ad E 1))]) (lo' := [(0, (2, (Ad E 1))), (1, (0, d))]) rfl ?_
  refine r_putIK hX hP rfl fp_12_307 hS (by omega) (by omega) (fun h2 => ?_)
  refine r_ex hX hP 1 (pc' := 11) (st' := [(0, d)]) (lo' := [(0, (2, (Ad E 1))), (1, (0, d))]) rfl ?_
  refine r_callS gd hX hP rfl cs_12_317 (d' := 1) (mc' := 0) (ms' := 0) (as' := [(0, d)]) (st := []) (by decide) (by decide) (by decide) rfl rfl (Nat.le_of_ble_eq_true rfl) (c_X12_isDay E S (up (up G 1 (Ad E 1) 1 0) 1 (Ad E 1) 0 0) d (by omega) (by omega)) ?_
  rintro _ _ _ ⟨rfl, rfl, z3, rfl, (⟨rfl, f4, f5⟩ | ⟨rfl, f6⟩)⟩
  · skip
    refine r_if_ne hX hP rfl (tgt := 23) rfl (by omega) (by omega) (fun c7 => ?_) (fun c7 => ?_)
    · skip
      refine r_ex hX hP 2 (pc' := 25) (st' := [(0, d), (2, (Ad E 1))]) (lo' := [(0, (2, (Ad E 1))), (1, (0, d))]) rfl ?_
      refine r_putIK hX hP rfl fp_12_10 hS (by omega) (by omega) (fun h8 => ?_)
      refine r_ex hX hP 1 (pc' := 29) (st' := [(0, 1)]) (lo' := [(0, (2, (Ad E 1))), (1, (0, d))]) rfl ?_
      exact r_retZ hX hP rfl rfl (by omega) (by omega) (by omega) (by omega) ⟨rfl, ⟨_, (hq_up (hq_up (hq_up (hq_refl _ _ _) rfl) rfl) rfl).symm⟩, 1, rfl, (by omega)⟩
    · skip
      exfalso; omega
  · skip
    refine r_if_ne hX hP rfl (tgt := 23) rfl (by omega) (by omega) (fun c9 => ?_) (fun c9 => ?_)
    · skip
      exfalso; omega
    · skip
      refine r_ex hX hP 2 (pc' := 19) (st' := [(0, 2), (2, (Ad E 1))]) (lo' := [(0, (2, (Ad E 1))), (1, (0, d))]) rfl ?_
      refine r_callV gd hX hP rfl cv_12_321 hS (d' := 0) (mc' := 0) (ms' := 0) (as' := [(0, 2)]) (st := []) (by decide) (by decide) (by decide) rfl rfl (Nat.le_of_ble_eq_true rfl) (c_X12_no E S (up (up G 1 (Ad E 1) 1 0) 1 (Ad E 1) 0 0) 2 hS (by omega) (by omega)) ?_
      rintro _ _ _ ⟨rfl, ⟨G10, rfl⟩, z11, rfl, rfl⟩
      exact r_retZ hX hP rfl rfl (by omega) (by omega) (by omega) (by omega) ⟨rfl, ⟨_, (hq_call (hq_up (hq_up (hq_refl _ _ _) rfl) rfl) rfl).symm⟩, 0, rfl, (by omega)⟩
set_option maxRecDepth 100000 in
set_option maxHeartbeats 4000000 in
theorem c_X12_issue (E : En) (S : Sg) (G : Gh) (a p d sh w k : Int) (hS : S (Ad E 1) = 1) (a_a : (-2147483648) ≤ a) (a_b : a ≤ 2147483647) (p_a : (-2147483648) ≤ p) (p_b : p ≤ 2147483647) (d_a : (-2147483648) ≤ d) (d_b : d ≤ 2147483647) (sh_a : (-2147483648) ≤ sh) (sh_b : sh ≤ 2147483647) (w_a : (-2147483648) ≤ w) (w_b : w ≤ 2147483647) (k_a : (-2147483648) ≤ k) (k_b : k ≤ 2147483647) : Calls E mX12_issue [(2, (Ad E 1)), (0, a), (0, p), (0, d), (0, sh), (0, w), (0, k)] S G 2 0 0 (fun r S' G' => S = S' ∧ (∃ G1, hv [0, 1, 3, 7] [5, 6, 7, 8, 9, 10] G G1 = G') ∧ ∃ z : Int, r = some (0, z) ∧ 0 ≤ z ∧ z ≤ 1) := by
  refine calls_by [(0, (2, (Ad E 1))), (1, (0, a)), (2, (0, p)), (3, (0, d)), (4, (0, sh)), (5, (0, w)), (6, (0, k))] rfl rfl (Nat.le_of_ble_eq_true rfl) (fun X hX => ?_)
  have hP := hPX12_issue
  refine r_ex hX hP 2 (pc' := 2) (st' := [(0, 0), (2, (Ad E 1))]) (lo' := [(0, (2, (Ad E 1))), (1, (0, a)), (2, (0, p)), (3, (0, d)), (4, (0, sh)), (5, (0, w)), (6, (0, k))]) rfl ?_
  refine r_putIK hX hP rfl fp_12_304 hS (by omega) (by omega) (fun h1 => ?_)
  refine r_ex hX hP 2 (pc' := 7) (st' := [(0, 0), (2, (Ad E 1))]) (lo' := [(0, (2, (Ad E 1))), (1, (0, a)), (2, (0, p)), (3, (0, d)), (4, (0, sh)), (5, (0, w)), (6, (0, k))]) rfl ?_
  refine r_putIK hX hP rfl fp_12_307 hS (by omega) (by omega) (fun h2 => ?_)
  refine r_ex hX hP 2 (pc' := 12) (st' := [(0, a), (2, (Ad E 1))]) (lo' := [(0, (2, (Ad E 1))), (1, (0, a)), (2, (0, p)), (3, (0, d)), (4, (0, sh)), (5, (0, w)), (6, (0, k))]) rfl ?_
  refine r_peekI hX (tl1 6 rfl (by decide)) hS (fun acp3 acp3e acp3a acp3b => ?_)
  refine r_callV gd hX hP rfl cv_12_324 hS (d' := 1) (mc' := 0) (ms' := 0) (as' := [(0, a)]) (st := []) (by decide) (by decide) (by decide) rfl rfl (Nat.le_of_ble_eq_true rfl) (c_X12_isAccount E S (up (up G 1 (Ad E 1) 1 0) 1 (Ad E 1) 0 0) a hS acp3 acp3e (by omega) (by omega)) ?_
  rintro _ _ _ ⟨rfl, rfl, z4, rfl, (⟨rfl, f5, f6⟩ | ⟨rfl, f7⟩)⟩
  · skip
    refine r_if_eq hX hP rfl (tgt := 25) rfl (by omega) (by omega) (fun c8 => ?_) (fun c8 => ?_)
    · skip
      exfalso; omega
    · skip
      refine r_ex hX hP 1 (pc' := 19) (st' := [(0, p)]) (lo' := [(0, (2, (Ad E 1))), (1, (0, a)), (2, (0, p)), (3, (0, d)), (4, (0, sh)), (5, (0, w)), (6, (0, k))]) rfl ?_
      refine r_callS gd hX hP rfl cs_12_331 (d' := 1) (mc' := 0) (ms' := 0) (as' := [(0, p)]) (st := []) (by decide) (by decide) (by decide) rfl rfl (Nat.le_of_ble_eq_true rfl) (c_X12_isPaper E S (up (up G 1 (Ad E 1) 1 0) 1 (Ad E 1) 0 0) p (by omega) (by omega)) ?_
      rintro _ _ _ ⟨rfl, rfl, z9, rfl, (⟨rfl, f10, f11⟩ | ⟨rfl, f12⟩)⟩
      · skip
        refine r_if_ne hX hP rfl (tgt := 31) rfl (by omega) (by omega) (fun c13 => ?_) (fun c13 => ?_)
        · skip
          refine r_ex hX hP 1 (pc' := 32) (st' := [(0, d)]) (lo' := [(0, (2, (Ad E 1))), (1, (0, a)), (2, (0, p)), (3, (0, d)), (4, (0, sh)), (5, (0, w)), (6, (0, k))]) rfl ?_
          refine r_callS gd hX hP rfl cs_12_317 (d' := 1) (mc' := 0) (ms' := 0) (as' := [(0, d)]) (st := []) (by decide) (by decide) (by decide) rfl rfl (Nat.le_of_ble_eq_true rfl) (c_X12_isDay E S (up (up G 1 (Ad E 1) 1 0) 1 (Ad E 1) 0 0) d (by omega) (by omega)) ?_
          rintro _ _ _ ⟨rfl, rfl, z14, rfl, (⟨rfl, f15, f16⟩ | ⟨rfl, f17⟩)⟩
          · skip
            refine r_if_eq hX hP rfl (tgt := 70) rfl (by omega) (by omega) (fun c18 => ?_) (fun c18 => ?_)
            · skip
              exfalso; omega
            · skip
              refine r_ex hX hP 2 (pc' := 41) (st' := [(0, 1), (0, sh)]) (lo' := [(0, (2, (Ad E 1))), (1, (0, a)), (2, (0, p)), (3, (0, d)), (4, (0, sh)), (5, (0, w)), (6, (0, k))]) rfl ?_
              refine r_ldcw hX hP rfl (v := 1000000) (tbg sg9 103 rfl rfl) ?_
              refine r_callS gd hX hP rfl cs_12_310 (d' := 0) (mc' := 0) (ms' := 0) (as' := [(0, sh), (0, 1), (0, 1000000)]) (st := []) (by decide) (by decide) (by decide) rfl rfl (Nat.le_of_ble_eq_true rfl) (c_X12_isIn E S (up (up G 1 (Ad E 1) 1 0) 1 (Ad E 1) 0 0) sh 1 1000000 (by omega) (by omega) (by omega) (by omega) (by omega) (by omega)) ?_
              rintro _ _ _ ⟨rfl, rfl, z19, rfl, (⟨rfl, f20, f21⟩ | ⟨rfl, f22⟩)⟩
              · skip
                refine r_if_eq hX hP rfl (tgt := 70) rfl (by omega) (by omega) (fun c23 => ?_) (fun c23 => ?_)
                · skip
                  exfalso; omega
                · skip
                  refine r_ex hX hP 2 (pc' := 53) (st' := [(0, 0), (0, w)]) (lo' := [(0, (2, (Ad E 1))), (1, (0, a)), (2, (0, p)), (3, (0, d)), (4, (0, sh)), (5, (0, w)), (6, (0, k))]) rfl ?_
                  refine r_ldcw hX hP rfl (v := 100000000) (tbg sg9 104 rfl rfl) ?_
                  refine r_callS gd hX hP rfl cs_12_310 (d' := 0) (mc' := 0) (ms' := 0) (as' := [(0, w), (0, 0), (0, 100000000)]) (st := []) (by decide) (by decide) (by decide) rfl rfl (Nat.le_of_ble_eq_true rfl) (c_X12_isIn E S (up (up G 1 (Ad E 1) 1 0) 1 (Ad E 1) 0 0) w 0 100000000 (by omega) (by omega) (by omega) (by omega) (by omega) (by omega)) ?_
                  rintro _ _ _ ⟨rfl, rfl, z24, rfl, (⟨rfl, f25, f26⟩ | ⟨rfl, f27⟩)⟩
                  · skip
                    refine r_if_eq hX hP rfl (tgt := 70) rfl (by omega) (by omega) (fun c28 => ?_) (fun c28 => ?_)
                    · skip
                      exfalso; omega
                    · skip
                      refine r_ex hX hP 1 (pc' := 64) (st' := [(0, k)]) (lo' := [(0, (2, (Ad E 1))), (1, (0, a)), (2, (0, p)), (3, (0, d)), (4, (0, sh)), (5, (0, w)), (6, (0, k))]) rfl ?_
                      refine r_callS gd hX hP rfl cs_12_317 (d' := 1) (mc' := 0) (ms' := 0) (as' := [(0, k)]) (st := []) (by decide) (by decide) (by decide) rfl rfl (Nat.le_of_ble_eq_true rfl) (c_X12_isDay E S (up (up G 1 (Ad E 1) 1 0) 1 (Ad E 1) 0 0) k (by omega) (by omega)) ?_
                      rintro _ _ _ ⟨rfl, rfl, z29, rfl, (⟨rfl, f30, f31⟩ | ⟨rfl, f32⟩)⟩
                      · skip
                        refine r_if_ne hX hP rfl (tgt := 76) rfl (by omega) (by omega) (fun c33 => ?_) (fun c33 => ?_)
                        · skip
                          refine r_ex hX hP 1 (pc' := 77) (st' := [(2, (Ad E 1))]) (lo' := [(0, (2, (Ad E 1))), (1, (0, a)), (2, (0, p)), (3, (0, d)), (4, (0, sh)), (5, (0, w)), (6, (0, k))]) rfl ?_
                          refine r_getI hX hP rfl fl_12_336 hS (fun if34 if34e if34a if34b => ?_)
                          refine r_ex hX hP 1 (pc' := 82) (st' := [(0, 40), (0, if34)]) (lo' := [(0, (2, (Ad E 1))), (1, (0, a)), (2, (0, p)), (3, (0, d)), (4, (0, sh)), (5, (0, w)), (6, (0, k))]) rfl ?_
                          refine r_ic_ne hX hP rfl (tgt := 91) rfl (by omega) (by omega) (by omega) (by omega) (fun c35 => ?_) (fun c35 => ?_)
                          · skip
                            refine r_ex hX hP 2 (pc' := 94) (st' := [(2, (Ad E 1)), (0, k)]) (lo' := [(0, (2, (Ad E 1))), (1, (0, a)), (2, (0, p)), (3, (0, d)), (4, (0, sh)), (5, (0, w)), (6, (0, k))]) rfl ?_
                            refine r_getI hX hP rfl fl_12_339 hS (fun lf36 lf36e lf36a lf36b => ?_)
                            refine r_ic_ge hX hP rfl (tgt := 106) rfl (by omega) (by omega) (by omega) (by omega) (fun c37 => ?_) (fun c37 => ?_)
                            · skip
                              refine r_ex hX hP 1 (pc' := 107) (st' := [(2, (Ad E 1))]) (lo' := [(0, (2, (Ad E 1))), (1, (0, a)), (2, (0, p)), (3, (0, d)), (4, (0, sh)), (5, (0, w)), (6, (0, k))]) rfl ?_
                              refine r_getC hX hP rfl fl_12_28 hS (fun s38 => ?_)
                              refine r_ex hX hP 1 (pc' := 111) (st' := [(2, (Ad E 1)), (2, (Ad E 5))]) (lo' := [(0, (2, (Ad E 1))), (1, (0, a)), (2, (0, p)), (3, (0, d)), (4, (0, sh)), (5, (0, w)), (6, (0, k))]) rfl ?_
                              refine r_getKI hX hP rfl fl_12_336 hS (x := if34) if34e ?_
                              refine r_ex hX hP 1 (pc' := 115) (st' := [(0, a), (0, if34), (2, (Ad E 5))]) (lo' := [(0, (2, (Ad E 1))), (1, (0, a)), (2, (0, p)), (3, (0, d)), (4, (0, sh)), (5, (0, w)), (6, (0, k))]) rfl ?_
                              refine r_iastK hX hP rfl al_5 s38 (by omega) (by omega) (by omega) (by omega) (fun h39 => ?_)
                              refine r_ex hX hP 1 (pc' := 117) (st' := [(2, (Ad E 1))]) (lo' := [(0, (2, (Ad E 1))), (1, (0, a)), (2, (0, p)), (3, (0, d)), (4, (0, sh)), (5, (0, w)), (6, (0, k))]) rfl ?_
                              refine r_getC hX hP rfl fl_12_31 hS (fun s40 => ?_)
                              refine r_ex hX hP 1 (pc' := 121) (st' := [(2, (Ad E 1)), (2, (Ad E 6))]) (lo' := [(0, (2, (Ad E 1))), (1, (0, a)), (2, (0, p)), (3, (0, d)), (4, (0, sh)), (5, (0, w)), (6, (0, k))]) rfl ?_
                              refine r_getKI hX hP rfl fl_12_336 hS (x := if34) if34e ?_
                              refine r_ex hX hP 1 (pc' := 125) (st' := [(0, p), (0, if34), (2, (Ad E 6))]) (lo' := [(0, (2, (Ad E 1))), (1, (0, a)), (2, (0, p)), (3, (0, d)), (4, (0, sh)), (5, (0, w)), (6, (0, k))]) rfl ?_
                              refine r_iastK hX hP rfl al_6 s40 (by omega) (by omega) (by omega) (by omega) (fun h41 => ?_)
                              refine r_ex hX hP 1 (pc' := 127) (st' := [(2, (Ad E 1))]) (lo' := [(0, (2, (Ad E 1))), (1, (0, a)), (2, (0, p)), (3, (0, d)), (4, (0, sh)), (5, (0, w)), (6, (0, k))]) rfl ?_
                              refine r_getC hX hP rfl fl_12_34 hS (fun s42 => ?_)
                              refine r_ex hX hP 1 (pc' := 131) (st' := [(2, (Ad E 1)), (2, (Ad E 7))]) (lo' := [(0, (2, (Ad E 1))), (1, (0, a)), (2, (0, p)), (3, (0, d)), (4, (0, sh)), (5, (0, w)), (6, (0, k))]) rfl ?_
                              refine r_getKI hX hP rfl fl_12_336 hS (x := if34) if34e ?_
                              refine r_ex hX hP 1 (pc' := 135) (st' := [(0, d), (0, if34), (2, (Ad E 7))]) (lo' := [(0, (2, (Ad E 1))), (1, (0, a)), (2, (0, p)), (3, (0, d)), (4, (0, sh)), (5, (0, w)), (6, (0, k))]) rfl ?_
                              refine r_iastK hX hP rfl al_7 s42 (by omega) (by omega) (by omega) (by omega) (fun h43 => ?_)
                              refine r_ex hX hP 1 (pc' := 137) (st' := [(2, (Ad E 1))]) (lo' := [(0, (2, (Ad E 1))), (1, (0, a)), (2, (0, p)), (3, (0, d)), (4, (0, sh)), (5, (0, w)), (6, (0, k))]) rfl ?_
                              refine r_getC hX hP rfl fl_12_37 hS (fun s44 => ?_)
                              refine r_ex hX hP 1 (pc' := 141) (st' := [(2, (Ad E 1)), (2, (Ad E 8))]) (lo' := [(0, (2, (Ad E 1))), (1, (0, a)), (2, (0, p)), (3, (0, d)), (4, (0, sh)), (5, (0, w)), (6, (0, k))]) rfl ?_
                              refine r_getKI hX hP rfl fl_12_336 hS (x := if34) if34e ?_
                              refine r_ex hX hP 1 (pc' := 146) (st' := [(0, sh), (0, if34), (2, (Ad E 8))]) (lo' := [(0, (2, (Ad E 1))), (1, (0, a)), (2, (0, p)), (3, (0, d)), (4, (0, sh)), (5, (0, w)), (6, (0, k))]) rfl ?_
                              refine r_iastK hX hP rfl al_8 s44 (by omega) (by omega) (by omega) (by omega) (fun h45 => ?_)
                              refine r_ex hX hP 1 (pc' := 148) (st' := [(2, (Ad E 1))]) (lo' := [(0, (2, (Ad E 1))), (1, (0, a)), (2, (0, p)), (3, (0, d)), (4, (0, sh)), (5, (0, w)), (6, (0, k))]) rfl ?_
                              refine r_getC hX hP rfl fl_12_40 hS (fun s46 => ?_)
                              refine r_ex hX hP 1 (pc' := 152) (st' := [(2, (Ad E 1)), (2, (Ad E 9))]) (lo' := [(0, (2, (Ad E 1))), (1, (0, a)), (2, (0, p)), (3, (0, d)), (4, (0, sh)), (5, (0, w)), (6, (0, k))]) rfl ?_
                              refine r_getKI hX hP rfl fl_12_336 hS (x := if34) if34e ?_
                              refine r_ex hX hP 1 (pc' := 157) (st' := [(0, w), (0, if34), (2, (Ad E 9))]) (lo' := [(0, (2, (Ad E 1))), (1, (0, a)), (2, (0, p)), (3, (0, d)), (4, (0, sh)), (5, (0, w)), (6, (0, k))]) rfl ?_
                              refine r_iastK hX hP rfl al_9 s46 (by omega) (by omega) (by omega) (by omega) (fun h47 => ?_)
                              refine r_ex hX hP 1 (pc' := 159) (st' := [(2, (Ad E 1))]) (lo' := [(0, (2, (Ad E 1))), (1, (0, a)), (2, (0, p)), (3, (0, d)), (4, (0, sh)), (5, (0, w)), (6, (0, k))]) rfl ?_
                              refine r_getC hX hP rfl fl_12_43 hS (fun s48 => ?_)
                              refine r_ex hX hP 1 (pc' := 163) (st' := [(2, (Ad E 1)), (2, (Ad E 10))]) (lo' := [(0, (2, (Ad E 1))), (1, (0, a)), (2, (0, p)), (3, (0, d)), (4, (0, sh)), (5, (0, w)), (6, (0, k))]) rfl ?_
                              refine r_getKI hX hP rfl fl_12_336 hS (x := if34) if34e ?_
                              refine r_ex hX hP 1 (pc' := 168) (st' := [(0, k), (0, if34), (2, (Ad E 10))]) (lo' := [(0, (2, (Ad E 1))), (1, (0, a)), (2, (0, p)), (3, (0, d)), (4, (0, sh)), (5, (0, w)), (6, (0, k))]) rfl ?_
                              refine r_iastK hX hP rfl al_10 s48 (by omega) (by omega) (by omega) (by omega) (fun h49 => ?_)
                              refine r_ex hX hP 2 (pc' := 171) (st' := [(2, (Ad E 1)), (2, (Ad E 1))]) (lo' := [(0, (2, (Ad E 1))), (1, (0, a)), (2, (0, p)), (3, (0, d)), (4, (0, sh)), (5, (0, w)), (6, (0, k))]) rfl ?_
                              refine r_getKI hX hP rfl fl_12_336 hS (x := if34) if34e ?_
                              refine r_ex hX hP 2 (pc' := 176) (st' := [(0, (if34 + 1)), (2, (Ad E 1))]) (lo' := [(0, (2, (Ad E 1))), (1, (0, a)), (2, (0, p)), (3, (0, d)), (4, (0, sh)), (5, (0, w)), (6, (0, k))]) rfl ?_
                              refine r_putIK hX hP rfl fp_12_336 hS (by omega) (by omega) (fun h50 => ?_)
                              refine r_ex hX hP 2 (pc' := 182) (st' := [(0, k), (2, (Ad E 1))]) (lo' := [(0, (2, (Ad E 1))), (1, (0, a)), (2, (0, p)), (3, (0, d)), (4, (0, sh)), (5, (0, w)), (6, (0, k))]) rfl ?_
                              refine r_putIK hX hP rfl fp_12_339 hS (by omega) (by omega) (fun h51 => ?_)
                              refine r_ex hX hP 1 (pc' := 186) (st' := [(0, 1)]) (lo' := [(0, (2, (Ad E 1))), (1, (0, a)), (2, (0, p)), (3, (0, d)), (4, (0, sh)), (5, (0, w)), (6, (0, k))]) rfl ?_
                              exact r_retZ hX hP rfl rfl (by omega) (by omega) (by omega) (by omega) ⟨rfl, ⟨_, (hq_up (hq_up (hq_up (hq_up (hq_up (hq_up (hq_up (hq_up (hq_up (hq_up (hq_refl _ _ _) rfl) rfl) rfl) rfl) rfl) rfl) rfl) rfl) rfl) rfl).symm⟩, 1, rfl, (by omega)⟩
                            · skip
                              refine r_ex hX hP 2 (pc' := 102) (st' := [(0, 4), (2, (Ad E 1))]) (lo' := [(0, (2, (Ad E 1))), (1, (0, a)), (2, (0, p)), (3, (0, d)), (4, (0, sh)), (5, (0, w)), (6, (0, k))]) rfl ?_
                              refine r_callV gd hX hP rfl cv_12_321 hS (d' := 0) (mc' := 0) (ms' := 0) (as' := [(0, 4)]) (st := []) (by decide) (by decide) (by decide) rfl rfl (Nat.le_of_ble_eq_true rfl) (c_X12_no E S (up (up G 1 (Ad E 1) 1 0) 1 (Ad E 1) 0 0) 4 hS (by omega) (by omega)) ?_
                              rintro _ _ _ ⟨rfl, ⟨G52, rfl⟩, z53, rfl, rfl⟩
                              exact r_retZ hX hP rfl rfl (by omega) (by omega) (by omega) (by omega) ⟨rfl, ⟨_, (hq_call (hq_up (hq_up (hq_refl _ _ _) rfl) rfl) rfl).symm⟩, 0, rfl, (by omega)⟩
                          · skip
                            refine r_ex hX hP 2 (pc' := 87) (st' := [(0, 3), (2, (Ad E 1))]) (lo' := [(0, (2, (Ad E 1))), (1, (0, a)), (2, (0, p)), (3, (0, d)), (4, (0, sh)), (5, (0, w)), (6, (0, k))]) rfl ?_
                            refine r_callV gd hX hP rfl cv_12_321 hS (d' := 0) (mc' := 0) (ms' := 0) (as' := [(0, 3)]) (st := []) (by decide) (by decide) (by decide) rfl rfl (Nat.le_of_ble_eq_true rfl) (c_X12_no E S (up (up G 1 (Ad E 1) 1 0) 1 (Ad E 1) 0 0) 3 hS (by omega) (by omega)) ?_
                            rintro _ _ _ ⟨rfl, ⟨G54, rfl⟩, z55, rfl, rfl⟩
                            exact r_retZ hX hP rfl rfl (by omega) (by omega) (by omega) (by omega) ⟨rfl, ⟨_, (hq_call (hq_up (hq_up (hq_refl _ _ _) rfl) rfl) rfl).symm⟩, 0, rfl, (by omega)⟩
                        · skip
                          exfalso; omega
                      · skip
                        refine r_if_ne hX hP rfl (tgt := 76) rfl (by omega) (by omega) (fun c56 => ?_) (fun c56 => ?_)
                        · skip
                          exfalso; omega
                        · skip
                          refine r_ex hX hP 2 (pc' := 72) (st' := [(0, 2), (2, (Ad E 1))]) (lo' := [(0, (2, (Ad E 1))), (1, (0, a)), (2, (0, p)), (3, (0, d)), (4, (0, sh)), (5, (0, w)), (6, (0, k))]) rfl ?_
                          refine r_callV gd hX hP rfl cv_12_321 hS (d' := 0) (mc' := 0) (ms' := 0) (as' := [(0, 2)]) (st := []) (by decide) (by decide) (by decide) rfl rfl (Nat.le_of_ble_eq_true rfl) (c_X12_no E S (up (up G 1 (Ad E 1) 1 0) 1 (Ad E 1) 0 0) 2 hS (by omega) (by omega)) ?_
                          rintro _ _ _ ⟨rfl, ⟨G57, rfl⟩, z58, rfl, rfl⟩
                          exact r_retZ hX hP rfl rfl (by omega) (by omega) (by omega) (by omega) ⟨rfl, ⟨_, (hq_call (hq_up (hq_up (hq_refl _ _ _) rfl) rfl) rfl).symm⟩, 0, rfl, (by omega)⟩
                  · skip
                    refine r_if_eq hX hP rfl (tgt := 70) rfl (by omega) (by omega) (fun c59 => ?_) (fun c59 => ?_)
                    · skip
                      refine r_ex hX hP 2 (pc' := 72) (st' := [(0, 2), (2, (Ad E 1))]) (lo' := [(0, (2, (Ad E 1))), (1, (0, a)), (2, (0, p)), (3, (0, d)), (4, (0, sh)), (5, (0, w)), (6, (0, k))]) rfl ?_
                      refine r_callV gd hX hP rfl cv_12_321 hS (d' := 0) (mc' := 0) (ms' := 0) (as' := [(0, 2)]) (st := []) (by decide) (by decide) (by decide) rfl rfl (Nat.le_of_ble_eq_true rfl) (c_X12_no E S (up (up G 1 (Ad E 1) 1 0) 1 (Ad E 1) 0 0) 2 hS (by omega) (by omega)) ?_
                      rintro _ _ _ ⟨rfl, ⟨G60, rfl⟩, z61, rfl, rfl⟩
                      exact r_retZ hX hP rfl rfl (by omega) (by omega) (by omega) (by omega) ⟨rfl, ⟨_, (hq_call (hq_up (hq_up (hq_refl _ _ _) rfl) rfl) rfl).symm⟩, 0, rfl, (by omega)⟩
                    · skip
                      exfalso; omega
              · skip
                refine r_if_eq hX hP rfl (tgt := 70) rfl (by omega) (by omega) (fun c62 => ?_) (fun c62 => ?_)
                · skip
                  refine r_ex hX hP 2 (pc' := 72) (st' := [(0, 2), (2, (Ad E 1))]) (lo' := [(0, (2, (Ad E 1))), (1, (0, a)), (2, (0, p)), (3, (0, d)), (4, (0, sh)), (5, (0, w)), (6, (0, k))]) rfl ?_
                  refine r_callV gd hX hP rfl cv_12_321 hS (d' := 0) (mc' := 0) (ms' := 0) (as' := [(0, 2)]) (st := []) (by decide) (by decide) (by decide) rfl rfl (Nat.le_of_ble_eq_true rfl) (c_X12_no E S (up (up G 1 (Ad E 1) 1 0) 1 (Ad E 1) 0 0) 2 hS (by omega) (by omega)) ?_
                  rintro _ _ _ ⟨rfl, ⟨G63, rfl⟩, z64, rfl, rfl⟩
                  exact r_retZ hX hP rfl rfl (by omega) (by omega) (by omega) (by omega) ⟨rfl, ⟨_, (hq_call (hq_up (hq_up (hq_refl _ _ _) rfl) rfl) rfl).symm⟩, 0, rfl, (by omega)⟩
                · skip
                  exfalso; omega
          · skip
            refine r_if_eq hX hP rfl (tgt := 70) rfl (by omega) (by omega) (fun c65 => ?_) (fun c65 => ?_)
            · skip
              refine r_ex hX hP 2 (pc' := 72) (st' := [(0, 2), (2, (Ad E 1))]) (lo' := [(0, (2, (Ad E 1))), (1, (0, a)), (2, (0, p)), (3, (0, d)), (4, (0, sh)), (5, (0, w)), (6, (0, k))]) rfl ?_
              refine r_callV gd hX hP rfl cv_12_321 hS (d' := 0) (mc' := 0) (ms' := 0) (as' := [(0, 2)]) (st := []) (by decide) (by decide) (by decide) rfl rfl (Nat.le_of_ble_eq_true rfl) (c_X12_no E S (up (up G 1 (Ad E 1) 1 0) 1 (Ad E 1) 0 0) 2 hS (by omega) (by omega)) ?_
              rintro _ _ _ ⟨rfl, ⟨G66, rfl⟩, z67, rfl, rfl⟩
              exact r_retZ hX hP rfl rfl (by omega) (by omega) (by omega) (by omega) ⟨rfl, ⟨_, (hq_call (hq_up (hq_up (hq_refl _ _ _) rfl) rfl) rfl).symm⟩, 0, rfl, (by omega)⟩
            · skip
              exfalso; omega
        · skip
          exfalso; omega
      · skip
        refine r_if_ne hX hP rfl (tgt := 31) rfl (by omega) (by omega) (fun c68 => ?_) (fun c68 => ?_)
        · skip
          exfalso; omega
        · skip
          refine r_ex hX hP 2 (pc' := 27) (st' := [(0, 1), (2, (Ad E 1))]) (lo' := [(0, (2, (Ad E 1))), (1, (0, a)), (2, (0, p)), (3, (0, d)), (4, (0, sh)), (5, (0, w)), (6, (0, k))]) rfl ?_
          refine r_callV gd hX hP rfl cv_12_321 hS (d' := 0) (mc' := 0) (ms' := 0) (as' := [(0, 1)]) (st := []) (by decide) (by decide) (by decide) rfl rfl (Nat.le_of_ble_eq_true rfl) (c_X12_no E S (up (up G 1 (Ad E 1) 1 0) 1 (Ad E 1) 0 0) 1 hS (by omega) (by omega)) ?_
          rintro _ _ _ ⟨rfl, ⟨G69, rfl⟩, z70, rfl, rfl⟩
          exact r_retZ hX hP rfl rfl (by omega) (by omega) (by omega) (by omega) ⟨rfl, ⟨_, (hq_call (hq_up (hq_up (hq_refl _ _ _) rfl) rfl) rfl).symm⟩, 0, rfl, (by omega)⟩
  · skip
    refine r_if_eq hX hP rfl (tgt := 25) rfl (by omega) (by omega) (fun c71 => ?_) (fun c71 => ?_)
    · skip
      refine r_ex hX hP 2 (pc' := 27) (st' := [(0, 1), (2, (Ad E 1))]) (lo' := [(0, (2, (Ad E 1))), (1, (0, a)), (2, (0, p)), (3, (0, d)), (4, (0, sh)), (5, (0, w)), (6, (0, k))]) rfl ?_
      refine r_callV gd hX hP rfl cv_12_321 hS (d' := 0) (mc' := 0) (ms' := 0) (as' := [(0, 1)]) (st := []) (by decide) (by decide) (by decide) rfl rfl (Nat.le_of_ble_eq_true rfl) (c_X12_no E S (up (up G 1 (Ad E 1) 1 0) 1 (Ad E 1) 0 0) 1 hS (by omega) (by omega)) ?_
      rintro _ _ _ ⟨rfl, ⟨G72, rfl⟩, z73, rfl, rfl⟩
      exact r_retZ hX hP rfl rfl (by omega) (by omega) (by omega) (by omega) ⟨rfl, ⟨_, (hq_call (hq_up (hq_up (hq_refl _ _ _) rfl) rfl) rfl).symm⟩, 0, rfl, (by omega)⟩
    · skip
      exfalso; omega
set_option maxRecDepth 100000 in
set_option maxHeartbeats 4000000 in
theorem c_X12_look (E : En) (S : Sg) (G : Gh) (k : Int) (hS : S (Ad E 1) = 1) (textEnd : Int) (textEnd_e : textEnd = G 1 (Ad E 1) 77) (k_a : 0 ≤ k) (k_b : k ≤ 400) : Calls E mX12_look [(2, (Ad E 1)), (0, k)] S G 0 0 0 (fun r S' G' => S = S' ∧ G = G' ∧ ∃ z : Int, r = some (0, z) ∧ ((0 ≤ z ∧ z ≤ 255 ∧ k < textEnd) ∨ (z = 0 ∧ textEnd ≤ k))) := by
  refine calls_by [(0, (2, (Ad E 1))), (1, (0, k))] rfl rfl (Nat.le_of_ble_eq_true rfl) (fun X hX => ?_)
  have hP := hPX12_look
  refine r_peekI hX (tl1 77 rfl (by decide)) hS (fun textEnd_o textEnd_oe textEnd_oa textEnd_ob => ?_)
  obtain rfl : textEnd_o = textEnd := textEnd_oe.trans textEnd_e.symm
  refine r_ex hX hP 2 (pc' := 2) (st' := [(2, (Ad E 1)), (0, k)]) (lo' := [(0, (2, (Ad E 1))), (1, (0, k))]) rfl ?_
  refine r_getKI hX hP rfl fl_12_346 hS (x := textEnd) textEnd_e ?_
  refine r_ic_ge hX hP rfl (tgt := 21) rfl (by omega) (by omega) (by omega) (by omega) (fun c1 => ?_) (fun c1 => ?_)
  · skip
    refine r_ex hX hP 1 (pc' := 22) (st' := [(0, 0)]) (lo' := [(0, (2, (Ad E 1))), (1, (0, k))]) rfl ?_
    exact r_retI hX hP rfl rfl (by omega) (by omega) ⟨rfl, rfl, 0, rfl, (by omega)⟩
  · skip
    refine r_ex hX hP 1 (pc' := 9) (st' := [(2, (Ad E 1))]) (lo' := [(0, (2, (Ad E 1))), (1, (0, k))]) rfl ?_
    refine r_getC hX hP rfl fl_12_200 hS (fun s2 => ?_)
    refine r_ex hX hP 1 (pc' := 13) (st' := [(0, k), (2, (Ad E 61))]) (lo' := [(0, (2, (Ad E 1))), (1, (0, k))]) rfl ?_
    refine r_bald hX hP rfl al_61 s2 (by omega) (by omega) (fun x3 x3e x3a x3b => ?_)
    refine r_ex hX hP 1 (pc' := 17) (st' := [(0, 255), (0, x3)]) (lo' := [(0, (2, (Ad E 1))), (1, (0, k))]) rfl ?_
    refine r_iand hX hP rfl (fun b4 b4a b4b b4e => ?_)
    have b4d := iand_bd b4a b4b b4e (by omega) (by omega)
    refine r_ex hX hP 1 (pc' := 22) (st' := [(0, b4)]) (lo' := [(0, (2, (Ad E 1))), (1, (0, k))]) rfl ?_
    exact r_retI hX hP rfl rfl (by omega) (by omega) ⟨rfl, rfl, b4, rfl, (by omega)⟩
set_option maxRecDepth 100000 in
set_option maxHeartbeats 4000000 in
theorem c_X12_isLetter (E : En) (S : Sg) (G : Gh) (c : Int) (c_a : 0 ≤ c) (c_b : c ≤ 255) : Calls E mX12_isLetter [(0, c)] S G 0 0 0 (fun r S' G' => S = S' ∧ G = G' ∧ ∃ z : Int, r = some (0, z) ∧ ((z = 1 ∧ 97 ≤ c ∧ c ≤ 122) ∨ (z = 0 ∧ (c < 97 ∨ 122 < c)))) := by
  refine calls_by [(0, (0, c))] rfl rfl (Nat.le_of_ble_eq_true rfl) (fun X hX => ?_)
  have hP := hPX12_isLetter
  refine r_ex hX hP 2 (pc' := 3) (st' := [(0, 97), (0, c)]) (lo' := [(0, (0, c))]) rfl ?_
  refine r_ic_lt hX hP rfl (tgt := 16) rfl (by omega) (by omega) (by omega) (by omega) (fun c1 => ?_) (fun c1 => ?_)
  · skip
    refine r_ex hX hP 1 (pc' := 17) (st' := [(0, 0)]) (lo' := [(0, (0, c))]) rfl ?_
    exact r_retZ hX hP rfl rfl (by omega) (by omega) (by omega) (by omega) ⟨rfl, rfl, 0, rfl, (by omega)⟩
  · skip
    refine r_ex hX hP 2 (pc' := 9) (st' := [(0, 122), (0, c)]) (lo' := [(0, (0, c))]) rfl ?_
    refine r_ic_gt hX hP rfl (tgt := 16) rfl (by omega) (by omega) (by omega) (by omega) (fun c2 => ?_) (fun c2 => ?_)
    · skip
      refine r_ex hX hP 1 (pc' := 17) (st' := [(0, 0)]) (lo' := [(0, (0, c))]) rfl ?_
      exact r_retZ hX hP rfl rfl (by omega) (by omega) (by omega) (by omega) ⟨rfl, rfl, 0, rfl, (by omega)⟩
    · skip
      refine r_ex hX hP 2 (pc' := 17) (st' := [(0, 1)]) (lo' := [(0, (0, c))]) rfl ?_
      exact r_retZ hX hP rfl rfl (by omega) (by omega) (by omega) (by omega) ⟨rfl, rfl, 1, rfl, (by omega)⟩
set_option maxRecDepth 100000 in
set_option maxHeartbeats 4000000 in
theorem c_X12_isDigit (E : En) (S : Sg) (G : Gh) (c : Int) (c_a : 0 ≤ c) (c_b : c ≤ 255) : Calls E mX12_isDigit [(0, c)] S G 0 0 0 (fun r S' G' => S = S' ∧ G = G' ∧ ∃ z : Int, r = some (0, z) ∧ ((z = 1 ∧ 48 ≤ c ∧ c ≤ 57) ∨ (z = 0 ∧ (c < 48 ∨ 57 < c)))) := by
  refine calls_by [(0, (0, c))] rfl rfl (Nat.le_of_ble_eq_true rfl) (fun X hX => ?_)
  have hP := hPX12_isDigit
  refine r_ex hX hP 2 (pc' := 3) (st' := [(0, 48), (0, c)]) (lo' := [(0, (0, c))]) rfl ?_
  refine r_ic_lt hX hP rfl (tgt := 16) rfl (by omega) (by omega) (by omega) (by omega) (fun c1 => ?_) (fun c1 => ?_)
  · skip
    refine r_ex hX hP 1 (pc' := 17) (st' := [(0, 0)]) (lo' := [(0, (0, c))]) rfl ?_
    exact r_retZ hX hP rfl rfl (by omega) (by omega) (by omega) (by omega) ⟨rfl, rfl, 0, rfl, (by omega)⟩
  · skip
    refine r_ex hX hP 2 (pc' := 9) (st' := [(0, 57), (0, c)]) (lo' := [(0, (0, c))]) rfl ?_
    refine r_ic_gt hX hP rfl (tgt := 16) rfl (by omega) (by omega) (by omega) (by omega) (fun c2 => ?_) (fun c2 => ?_)
    · skip
      refine r_ex hX hP 1 (pc' := 17) (st' := [(0, 0)]) (lo' := [(0, (0, c))]) rfl ?_
      exact r_retZ hX hP rfl rfl (by omega) (by omega) (by omega) (by omega) ⟨rfl, rfl, 0, rfl, (by omega)⟩
    · skip
      refine r_ex hX hP 2 (pc' := 17) (st' := [(0, 1)]) (lo' := [(0, (0, c))]) rfl ?_
      exact r_retZ hX hP rfl rfl (by omega) (by omega) (by omega) (by omega) ⟨rfl, rfl, 1, rfl, (by omega)⟩
set_option maxRecDepth 100000 in
set_option maxHeartbeats 4000000 in
theorem c_X12_next (E : En) (S : Sg) (G : Gh) (hS : S (Ad E 1) = 1) : Calls E mX12_next [(2, (Ad E 1))] S G 1 0 0 (fun r S' G' => S = S' ∧ (∃ G1, hv [82, 83, 84, 85, 86, 87] [] G G1 = G') ∧ r = none ∧ True) := by
  refine calls_by [(0, (2, (Ad E 1)))] rfl rfl (Nat.le_of_ble_eq_true rfl) (fun X hX => ?_)
  have hP := hPX12_next
  refine r_ex hX hP 2 (pc' := 2) (st' := [(2, (Ad E 1)), (2, (Ad E 1))]) (lo' := [(0, (2, (Ad E 1)))]) rfl ?_
  refine r_getI hX hP rfl fl_12_349 hS (fun bf1 bf1e bf1a bf1b => ?_)
  refine r_putIK hX hP rfl fp_12_352 hS (by omega) (by omega) (fun h2 => ?_)
  have loop8 : ∀ (n : Nat) (at_8 : Int) (Gk8 : Gh), at_8 = (hv [83] [] (up G 1 (Ad E 1) 83 bf1) Gk8) 1 (Ad E 1) 83 → 0 ≤ at_8 → at_8 ≤ 400 → 400 - at_8 < (n : Int) → X 0 0 8 [] [(0, (2, (Ad E 1)))] S (hv [83] [] (up G 1 (Ad E 1) 83 bf1) Gk8) := by
    intro n
    induction n with
    | zero => intro at_8 Gk8 at_8_e y8_0 y8_1 ym8; exfalso; omega
    | succ n ih8 =>
      intro at_8 Gk8 at_8_e y8_0 y8_1 ym8
      refine r_ex hX hP 1 (pc' := 9) (st' := [(2, (Ad E 1))]) (lo' := [(0, (2, (Ad E 1)))]) rfl ?_
      refine r_getKI hX hP rfl fl_12_352 hS (x := at_8) at_8_e ?_
      refine r_ex hX hP 1 (pc' := 13) (st' := [(2, (Ad E 1)), (0, at_8)]) (lo' := [(0, (2, (Ad E 1)))]) rfl ?_
      refine r_getI hX hP rfl fl_12_346 hS (fun tf3 tf3e tf3a tf3b => ?_)
      refine r_ic_ge hX hP rfl (tgt := 58) rfl (by omega) (by omega) (by omega) (by omega) (fun c4 => ?_) (fun c4 => ?_)
      · skip
        refine r_ex hX hP 2 (pc' := 60) (st' := [(2, (Ad E 1)), (2, (Ad E 1))]) (lo' := [(0, (2, (Ad E 1)))]) rfl ?_
        refine r_getKI hX hP rfl fl_12_352 hS (x := at_8) at_8_e ?_
        refine r_putIK hX hP rfl fp_12_349 hS (by omega) (by omega) (fun h5 => ?_)
        refine r_ex hX hP 1 (pc' := 67) (st' := [(2, (Ad E 1))]) (lo' := [(0, (2, (Ad E 1)))]) rfl ?_
        refine r_getKI hX hP rfl fl_12_352 hS (x := at_8) at_8_e ?_
        refine r_ex hX hP 1 (pc' := 71) (st' := [(2, (Ad E 1)), (0, at_8)]) (lo' := [(0, (2, (Ad E 1)))]) rfl ?_
        refine r_getKI hX hP rfl fl_12_346 hS (x := tf3) tf3e ?_
        refine r_ic_lt hX hP rfl (tgt := 83) rfl (by omega) (by omega) (by omega) (by omega) (fun c6 => ?_) (fun c6 => ?_)
        · skip
          refine r_ex hX hP 2 (pc' := 85) (st' := [(2, (Ad E 1)), (2, (Ad E 1))]) (lo' := [(0, (2, (Ad E 1)))]) rfl ?_
          refine r_getKI hX hP rfl fl_12_352 hS (x := at_8) at_8_e ?_
          refine r_callV gd hX hP rfl cv_12_355 hS (d' := 0) (mc' := 0) (ms' := 0) (as' := [(0, at_8)]) (st := []) (by decide) (by decide) (by decide) rfl rfl (Nat.le_of_ble_eq_true rfl) (c_X12_look E S (up (hv [83] [] (up G 1 (Ad E 1) 83 bf1) Gk8) 1 (Ad E 1) 84 at_8) at_8 hS tf3 tf3e (by omega) (by omega)) ?_
          rintro _ _ _ ⟨rfl, rfl, z7, rfl, (⟨z7a, z7b, f8⟩ | ⟨rfl, f9⟩)⟩
          · skip
            refine r_ex hX hP 2 (pc' := 93) (st' := [(0, z7)]) (lo' := [(0, (2, (Ad E 1))), (1, (0, z7))]) rfl ?_
            refine r_callS gd hX hP rfl cs_12_361 (d' := 0) (mc' := 0) (ms' := 0) (as' := [(0, z7)]) (st := []) (by decide) (by decide) (by decide) rfl rfl (Nat.le_of_ble_eq_true rfl) (c_X12_isLetter E S (up (hv [83] [] (up G 1 (Ad E 1) 83 bf1) Gk8) 1 (Ad E 1) 84 at_8) z7 (by omega) (by omega)) ?_
            rintro _ _ _ ⟨rfl, rfl, z10, rfl, (⟨rfl, f11, f12⟩ | ⟨rfl, f13⟩)⟩
            · skip
              refine r_if_eq hX hP rfl (tgt := 198) rfl (by omega) (by omega) (fun c14 => ?_) (fun c14 => ?_)
              · skip
                exfalso; omega
              · skip
                refine r_ex hX hP 2 (pc' := 101) (st' := [(0, 1), (2, (Ad E 1))]) (lo' := [(0, (2, (Ad E 1))), (1, (0, z7))]) rfl ?_
                refine r_putIK hX hP rfl fp_12_358 hS (by omega) (by omega) (fun h15 => ?_)
                refine r_ex hX hP 2 (pc' := 106) (st' := [(1, 0), (2, (Ad E 1))]) (lo' := [(0, (2, (Ad E 1))), (1, (0, z7))]) rfl ?_
                refine r_putLK hX hP rfl fp_12_364 hS (by omega) (by omega) (fun h16 => ?_)
                have loop109 : ∀ (n : Nat) (behind_109 : Int) (Gk109 : Gh), behind_109 = (hv [84, 87] [] (up (up (up (hv [83] [] (up G 1 (Ad E 1) 83 bf1) Gk8) 1 (Ad E 1) 84 at_8) 1 (Ad E 1) 82 1) 1 (Ad E 1) 87 0) Gk109) 1 (Ad E 1) 84 → 0 ≤ behind_109 → behind_109 ≤ 400 → 400 - behind_109 < (n : Int) → X 0 0 109 [] [(0, (2, (Ad E 1))), (1, (0, z7))] S (hv [84, 87] [] (up (up (up (hv [83] [] (up G 1 (Ad E 1) 83 bf1) Gk8) 1 (Ad E 1) 84 at_8) 1 (Ad E 1) 82 1) 1 (Ad E 1) 87 0) Gk109) := by
                  intro n
                  induction n with
                  | zero => intro behind_109 Gk109 behind_109_e y109_0 y109_1 ym109; exfalso; omega
                  | succ n ih109 =>
                    intro behind_109 Gk109 behind_109_e y109_0 y109_1 ym109
                    refine r_ex hX hP 2 (pc' := 111) (st' := [(2, (Ad E 1)), (2, (Ad E 1))]) (lo' := [(0, (2, (Ad E 1))), (1, (0, z7))]) rfl ?_
                    refine r_getKI hX hP rfl fl_12_349 hS (x := behind_109) behind_109_e ?_
                    refine r_callV gd hX hP rfl cv_12_355 hS (d' := 0) (mc' := 0) (ms' := 0) (as' := [(0, behind_109)]) (st := []) (by decide) (by decide) (by decide) rfl rfl (Nat.le_of_ble_eq_true rfl) (c_X12_look E S (hv [84, 87] [] (up (up (up (hv [83] [] (up G 1 (Ad E 1) 83 bf1) Gk8) 1 (Ad E 1) 84 at_8) 1 (Ad E 1) 82 1) 1 (Ad E 1) 87 0) Gk109) behind_109 hS tf3 tf3e (by omega) (by omega)) ?_
                    rintro _ _ _ ⟨rfl, rfl, z17, rfl, (⟨z17a, z17b, f18⟩ | ⟨rfl, f19⟩)⟩
                    · skip
                      refine r_callS gd hX hP rfl cs_12_361 (d' := 0) (mc' := 0) (ms' := 0) (as' := [(0, z17)]) (st := []) (by decide) (by decide) (by decide) rfl rfl (Nat.le_of_ble_eq_true rfl) (c_X12_isLetter E S (hv [84, 87] [] (up (up (up (hv [83] [] (up G 1 (Ad E 1) 83 bf1) Gk8) 1 (Ad E 1) 84 at_8) 1 (Ad E 1) 82 1) 1 (Ad E 1) 87 0) Gk109) z17 (by omega) (by omega)) ?_
                      rintro _ _ _ ⟨rfl, rfl, z20, rfl, (⟨rfl, f21, f22⟩ | ⟨rfl, f23⟩)⟩
                      · skip
                        refine r_if_eq hX hP rfl (tgt := 182) rfl (by omega) (by omega) (fun c24 => ?_) (fun c24 => ?_)
                        · skip
                          exfalso; omega
                        · skip
                          refine r_ex hX hP 2 (pc' := 125) (st' := [(2, (Ad E 1)), (2, (Ad E 1))]) (lo' := [(0, (2, (Ad E 1))), (1, (0, z7))]) rfl ?_
                          refine r_getKI hX hP rfl fl_12_349 hS (x := behind_109) behind_109_e ?_
                          refine r_ex hX hP 1 (pc' := 129) (st' := [(2, (Ad E 1)), (0, behind_109), (2, (Ad E 1))]) (lo' := [(0, (2, (Ad E 1))), (1, (0, z7))]) rfl ?_
                          refine r_getKI hX hP rfl fl_12_352 hS (x := at_8) at_8_e ?_
                          refine r_ex hX hP 2 (pc' := 135) (st' := [(0, 12), (0, (behind_109 - at_8)), (2, (Ad E 1))]) (lo' := [(0, (2, (Ad E 1))), (1, (0, z7))]) rfl ?_
                          refine r_ic_ge hX hP rfl (tgt := 163) rfl (by omega) (by omega) (by omega) (by omega) (fun c25 => ?_) (fun c25 => ?_)
                          · skip
                            refine r_ldc2 hX hP rfl (v := (-1)) (tbg sg9 135 rfl rfl) ?_
                            refine r_putLK hX hP rfl fp_12_364 hS (by omega) (by omega) (fun h26 => ?_)
                            refine r_ex hX hP 2 (pc' := 171) (st' := [(2, (Ad E 1)), (2, (Ad E 1))]) (lo' := [(0, (2, (Ad E 1))), (1, (0, z7))]) rfl ?_
                            refine r_getKI hX hP rfl fl_12_349 hS (x := behind_109) behind_109_e ?_
                            refine r_ex hX hP 2 (pc' := 176) (st' := [(0, (behind_109 + 1)), (2, (Ad E 1))]) (lo' := [(0, (2, (Ad E 1))), (1, (0, z7))]) rfl ?_
                            refine r_putIK hX hP rfl fp_12_349 hS (by omega) (by omega) (fun h27 => ?_)
                            refine r_ex hX hP 1 (pc' := 109) (st' := []) (lo' := [(0, (2, (Ad E 1))), (1, (0, z7))]) rfl ?_
                            refine r_eqG (X := X) (hq_up (hq_up (hq_base _ _ _ _) rfl) rfl) ?_
                            exact ih109 (behind_109 + 1) _ h27 (by omega) (by omega) (by omega)
                          · skip
                            refine r_ex hX hP 1 (pc' := 139) (st' := [(2, (Ad E 1)), (2, (Ad E 1))]) (lo' := [(0, (2, (Ad E 1))), (1, (0, z7))]) rfl ?_
                            refine r_getL hX hP rfl fl_12_364 hS (fun wf28 wf28e wf28a wf28b => ?_)
                            refine r_ldc2 hX hP rfl (v := 32) (tbg sg9 133 rfl rfl) ?_
                            refine r_ex hX hP 1 (pc' := 146) (st' := [(1, (wf28 * 32)), (2, (Ad E 1))]) (lo' := [(0, (2, (Ad E 1))), (1, (0, z7))]) rfl ?_
                            refine r_hvL hX (fun w29 w29a w29b w29e => ?_)
                            refine r_ex hX hP 2 (pc' := 148) (st' := [(2, (Ad E 1)), (2, (Ad E 1)), (1, w29), (2, (Ad E 1))]) (lo' := [(0, (2, (Ad E 1))), (1, (0, z7))]) rfl ?_
                            refine r_getKI hX hP rfl fl_12_349 hS (x := behind_109) behind_109_e ?_
                            refine r_callV gd hX hP rfl cv_12_355 hS (d' := 0) (mc' := 0) (ms' := 0) (as' := [(0, behind_109)]) (st := [(1, w29), (2, (Ad E 1))]) (by decide) (by decide) (by decide) rfl rfl (Nat.le_of_ble_eq_true rfl) (c_X12_look E S (hv [84, 87] [] (up (up (up (hv [83] [] (up G 1 (Ad E 1) 83 bf1) Gk8) 1 (Ad E 1) 84 at_8) 1 (Ad E 1) 82 1) 1 (Ad E 1) 87 0) Gk109) behind_109 hS tf3 tf3e (by omega) (by omega)) ?_
                            rintro _ _ _ ⟨rfl, rfl, z30, rfl, (⟨z30a, z30b, f31⟩ | ⟨rfl, f32⟩)⟩
                            · skip
                              refine r_i2l hX hP rfl (by omega) (by omega) ?_
                              refine r_ex hX hP 1 (pc' := 156) (st' := [(1, (w29 + z30)), (2, (Ad E 1))]) (lo' := [(0, (2, (Ad E 1))), (1, (0, z7))]) rfl ?_
                              refine r_hvL hX (fun w33 w33a w33b w33e => ?_)
                              refine r_ldc2 hX hP rfl (v := 96) (tbg sg9 134 rfl rfl) ?_
                              refine r_ex hX hP 1 (pc' := 160) (st' := [(1, (w33 - 96)), (2, (Ad E 1))]) (lo' := [(0, (2, (Ad E 1))), (1, (0, z7))]) rfl ?_
                              refine r_hvL hX (fun w34 w34a w34b w34e => ?_)
                              refine r_ex hX hP 1 (pc' := 166) (st' := [(1, w34), (2, (Ad E 1))]) (lo' := [(0, (2, (Ad E 1))), (1, (0, z7))]) rfl ?_
                              refine r_putLK hX hP rfl fp_12_364 hS (by omega) (by omega) (fun h35 => ?_)
                              refine r_ex hX hP 2 (pc' := 171) (st' := [(2, (Ad E 1)), (2, (Ad E 1))]) (lo' := [(0, (2, (Ad E 1))), (1, (0, z7))]) rfl ?_
                              refine r_getKI hX hP rfl fl_12_349 hS (x := behind_109) behind_109_e ?_
                              refine r_ex hX hP 2 (pc' := 176) (st' := [(0, (behind_109 + 1)), (2, (Ad E 1))]) (lo' := [(0, (2, (Ad E 1))), (1, (0, z7))]) rfl ?_
                              refine r_putIK hX hP rfl fp_12_349 hS (by omega) (by omega) (fun h36 => ?_)
                              refine r_ex hX hP 1 (pc' := 109) (st' := []) (lo' := [(0, (2, (Ad E 1))), (1, (0, z7))]) rfl ?_
                              refine r_eqG (X := X) (hq_up (hq_up (hq_base _ _ _ _) rfl) rfl) ?_
                              exact ih109 (behind_109 + 1) _ h36 (by omega) (by omega) (by omega)
                            · skip
                              refine r_i2l hX hP rfl (by omega) (by omega) ?_
                              refine r_ex hX hP 1 (pc' := 156) (st' := [(1, (w29 + 0)), (2, (Ad E 1))]) (lo' := [(0, (2, (Ad E 1))), (1, (0, z7))]) rfl ?_
                              refine r_ldc2 hX hP rfl (v := 96) (tbg sg9 134 rfl rfl) ?_
                              refine r_ex hX hP 1 (pc' := 160) (st' := [(1, ((w29 + 0) - 96)), (2, (Ad E 1))]) (lo' := [(0, (2, (Ad E 1))), (1, (0, z7))]) rfl ?_
                              refine r_hvL hX (fun w37 w37a w37b w37e => ?_)
                              refine r_ex hX hP 1 (pc' := 166) (st' := [(1, w37), (2, (Ad E 1))]) (lo' := [(0, (2, (Ad E 1))), (1, (0, z7))]) rfl ?_
                              refine r_putLK hX hP rfl fp_12_364 hS (by omega) (by omega) (fun h38 => ?_)
                              refine r_ex hX hP 2 (pc' := 171) (st' := [(2, (Ad E 1)), (2, (Ad E 1))]) (lo' := [(0, (2, (Ad E 1))), (1, (0, z7))]) rfl ?_
                              refine r_getKI hX hP rfl fl_12_349 hS (x := behind_109) behind_109_e ?_
                              refine r_ex hX hP 2 (pc' := 176) (st' := [(0, (behind_109 + 1)), (2, (Ad E 1))]) (lo' := [(0, (2, (Ad E 1))), (1, (0, z7))]) rfl ?_
                              refine r_putIK hX hP rfl fp_12_349 hS (by omega) (by omega) (fun h39 => ?_)
                              refine r_ex hX hP 1 (pc' := 109) (st' := []) (lo' := [(0, (2, (Ad E 1))), (1, (0, z7))]) rfl ?_
                              refine r_eqG (X := X) (hq_up (hq_up (hq_base _ _ _ _) rfl) rfl) ?_
                              exact ih109 (behind_109 + 1) _ h39 (by omega) (by omega) (by omega)
                      · skip
                        refine r_if_eq hX hP rfl (tgt := 182) rfl (by omega) (by omega) (fun c40 => ?_) (fun c40 => ?_)
                        · skip
                          refine r_ex hX hP 2 (pc' := 184) (st' := [(2, (Ad E 1)), (2, (Ad E 1))]) (lo' := [(0, (2, (Ad E 1))), (1, (0, z7))]) rfl ?_
                          refine r_getKI hX hP rfl fl_12_349 hS (x := behind_109) behind_109_e ?_
                          refine r_ex hX hP 1 (pc' := 188) (st' := [(2, (Ad E 1)), (0, behind_109), (2, (Ad E 1))]) (lo' := [(0, (2, (Ad E 1))), (1, (0, z7))]) rfl ?_
                          refine r_getKI hX hP rfl fl_12_352 hS (x := at_8) at_8_e ?_
                          refine r_ex hX hP 1 (pc' := 192) (st' := [(0, (behind_109 - at_8)), (2, (Ad E 1))]) (lo' := [(0, (2, (Ad E 1))), (1, (0, z7))]) rfl ?_
                          refine r_putIK hX hP rfl fp_12_373 hS (by omega) (by omega) (fun h41 => ?_)
                          refine r_ex hX hP 1 (pc' := 354) (st' := []) (lo' := [(0, (2, (Ad E 1))), (1, (0, z7))]) rfl ?_
                          exact r_retV hX hP rfl rfl (by omega) (by omega) ⟨rfl, ⟨_, (hq_up (hq_loop (hq_up (hq_up (hq_up (hq_loop (hq_up (hq_refl _ _ _) rfl) rfl) rfl) rfl) rfl) rfl) rfl).symm⟩, rfl, trivial⟩
                        · skip
                          exfalso; omega
                    · skip
                      refine r_callS gd hX hP rfl cs_12_361 (d' := 0) (mc' := 0) (ms' := 0) (as' := [(0, 0)]) (st := []) (by decide) (by decide) (by decide) rfl rfl (Nat.le_of_ble_eq_true rfl) (c_X12_isLetter E S (hv [84, 87] [] (up (up (up (hv [83] [] (up G 1 (Ad E 1) 83 bf1) Gk8) 1 (Ad E 1) 84 at_8) 1 (Ad E 1) 82 1) 1 (Ad E 1) 87 0) Gk109) 0 (by omega) (by omega)) ?_
                      rintro _ _ _ ⟨rfl, rfl, z42, rfl, (⟨rfl, f43, f44⟩ | ⟨rfl, f45⟩)⟩
                      · skip
                        refine r_if_eq hX hP rfl (tgt := 182) rfl (by omega) (by omega) (fun c46 => ?_) (fun c46 => ?_)
                        · skip
                          exfalso; omega
                        · skip
                          refine r_ex hX hP 2 (pc' := 125) (st' := [(2, (Ad E 1)), (2, (Ad E 1))]) (lo' := [(0, (2, (Ad E 1))), (1, (0, z7))]) rfl ?_
                          refine r_getKI hX hP rfl fl_12_349 hS (x := behind_109) behind_109_e ?_
                          refine r_ex hX hP 1 (pc' := 129) (st' := [(2, (Ad E 1)), (0, behind_109), (2, (Ad E 1))]) (lo' := [(0, (2, (Ad E 1))), (1, (0, z7))]) rfl ?_
                          refine r_getKI hX hP rfl fl_12_352 hS (x := at_8) at_8_e ?_
                          refine r_ex hX hP 2 (pc' := 135) (st' := [(0, 12), (0, (behind_109 - at_8)), (2, (Ad E 1))]) (lo' := [(0, (2, (Ad E 1))), (1, (0, z7))]) rfl ?_
                          refine r_ic_ge hX hP rfl (tgt := 163) rfl (by omega) (by omega) (by omega) (by omega) (fun c47 => ?_) (fun c47 => ?_)
                          · skip
                            refine r_ldc2 hX hP rfl (v := (-1)) (tbg sg9 135 rfl rfl) ?_
                            refine r_putLK hX hP rfl fp_12_364 hS (by omega) (by omega) (fun h48 => ?_)
                            refine r_ex hX hP 2 (pc' := 171) (st' := [(2, (Ad E 1)), (2, (Ad E 1))]) (lo' := [(0, (2, (Ad E 1))), (1, (0, z7))]) rfl ?_
                            refine r_getKI hX hP rfl fl_12_349 hS (x := behind_109) behind_109_e ?_
                            refine r_ex hX hP 2 (pc' := 176) (st' := [(0, (behind_109 + 1)), (2, (Ad E 1))]) (lo' := [(0, (2, (Ad E 1))), (1, (0, z7))]) rfl ?_
                            refine r_putIK hX hP rfl fp_12_349 hS (by omega) (by omega) (fun h49 => ?_)
                            refine r_ex hX hP 1 (pc' := 109) (st' := []) (lo' := [(0, (2, (Ad E 1))), (1, (0, z7))]) rfl ?_
                            refine r_eqG (X := X) (hq_up (hq_up (hq_base _ _ _ _) rfl) rfl) ?_
                            exact ih109 (behind_109 + 1) _ h49 (by omega) (by omega) (by omega)
                          · skip
                            refine r_ex hX hP 1 (pc' := 139) (st' := [(2, (Ad E 1)), (2, (Ad E 1))]) (lo' := [(0, (2, (Ad E 1))), (1, (0, z7))]) rfl ?_
                            refine r_getL hX hP rfl fl_12_364 hS (fun wf50 wf50e wf50a wf50b => ?_)
                            refine r_ldc2 hX hP rfl (v := 32) (tbg sg9 133 rfl rfl) ?_
                            refine r_ex hX hP 1 (pc' := 146) (st' := [(1, (wf50 * 32)), (2, (Ad E 1))]) (lo' := [(0, (2, (Ad E 1))), (1, (0, z7))]) rfl ?_
                            refine r_hvL hX (fun w51 w51a w51b w51e => ?_)
                            refine r_ex hX hP 2 (pc' := 148) (st' := [(2, (Ad E 1)), (2, (Ad E 1)), (1, w51), (2, (Ad E 1))]) (lo' := [(0, (2, (Ad E 1))), (1, (0, z7))]) rfl ?_
                            refine r_getKI hX hP rfl fl_12_349 hS (x := behind_109) behind_109_e ?_
                            refine r_callV gd hX hP rfl cv_12_355 hS (d' := 0) (mc' := 0) (ms' := 0) (as' := [(0, behind_109)]) (st := [(1, w51), (2, (Ad E 1))]) (by decide) (by decide) (by decide) rfl rfl (Nat.le_of_ble_eq_true rfl) (c_X12_look E S (hv [84, 87] [] (up (up (up (hv [83] [] (up G 1 (Ad E 1) 83 bf1) Gk8) 1 (Ad E 1) 84 at_8) 1 (Ad E 1) 82 1) 1 (Ad E 1) 87 0) Gk109) behind_109 hS tf3 tf3e (by omega) (by omega)) ?_
                            rintro _ _ _ ⟨rfl, rfl, z52, rfl, (⟨z52a, z52b, f53⟩ | ⟨rfl, f54⟩)⟩
                            · skip
                              refine r_i2l hX hP rfl (by omega) (by omega) ?_
                              refine r_ex hX hP 1 (pc' := 156) (st' := [(1, (w51 + z52)), (2, (Ad E 1))]) (lo' := [(0, (2, (Ad E 1))), (1, (0, z7))]) rfl ?_
                              refine r_hvL hX (fun w55 w55a w55b w55e => ?_)
                              refine r_ldc2 hX hP rfl (v := 96) (tbg sg9 134 rfl rfl) ?_
                              refine r_ex hX hP 1 (pc' := 160) (st' := [(1, (w55 - 96)), (2, (Ad E 1))]) (lo' := [(0, (2, (Ad E 1))), (1, (0, z7))]) rfl ?_
                              refine r_hvL hX (fun w56 w56a w56b w56e => ?_)
                              refine r_ex hX hP 1 (pc' := 166) (st' := [(1, w56), (2, (Ad E 1))]) (lo' := [(0, (2, (Ad E 1))), (1, (0, z7))]) rfl ?_
                              refine r_putLK hX hP rfl fp_12_364 hS (by omega) (by omega) (fun h57 => ?_)
                              refine r_ex hX hP 2 (pc' := 171) (st' := [(2, (Ad E 1)), (2, (Ad E 1))]) (lo' := [(0, (2, (Ad E 1))), (1, (0, z7))]) rfl ?_
                              refine r_getKI hX hP rfl fl_12_349 hS (x := behind_109) behind_109_e ?_
                              refine r_ex hX hP 2 (pc' := 176) (st' := [(0, (behind_109 + 1)), (2, (Ad E 1))]) (lo' := [(0, (2, (Ad E 1))), (1, (0, z7))]) rfl ?_
                              refine r_putIK hX hP rfl fp_12_349 hS (by omega) (by omega) (fun h58 => ?_)
                              refine r_ex hX hP 1 (pc' := 109) (st' := []) (lo' := [(0, (2, (Ad E 1))), (1, (0, z7))]) rfl ?_
                              refine r_eqG (X := X) (hq_up (hq_up (hq_base _ _ _ _) rfl) rfl) ?_
                              exact ih109 (behind_109 + 1) _ h58 (by omega) (by omega) (by omega)
                            · skip
                              refine r_i2l hX hP rfl (by omega) (by omega) ?_
                              refine r_ex hX hP 1 (pc' := 156) (st' := [(1, (w51 + 0)), (2, (Ad E 1))]) (lo' := [(0, (2, (Ad E 1))), (1, (0, z7))]) rfl ?_
                              refine r_ldc2 hX hP rfl (v := 96) (tbg sg9 134 rfl rfl) ?_
                              refine r_ex hX hP 1 (pc' := 160) (st' := [(1, ((w51 + 0) - 96)), (2, (Ad E 1))]) (lo' := [(0, (2, (Ad E 1))), (1, (0, z7))]) rfl ?_
                              refine r_hvL hX (fun w59 w59a w59b w59e => ?_)
                              refine r_ex hX hP 1 (pc' := 166) (st' := [(1, w59), (2, (Ad E 1))]) (lo' := [(0, (2, (Ad E 1))), (1, (0, z7))]) rfl ?_
                              refine r_putLK hX hP rfl fp_12_364 hS (by omega) (by omega) (fun h60 => ?_)
                              refine r_ex hX hP 2 (pc' := 171) (st' := [(2, (Ad E 1)), (2, (Ad E 1))]) (lo' := [(0, (2, (Ad E 1))), (1, (0, z7))]) rfl ?_
                              refine r_getKI hX hP rfl fl_12_349 hS (x := behind_109) behind_109_e ?_
                              refine r_ex hX hP 2 (pc' := 176) (st' := [(0, (behind_109 + 1)), (2, (Ad E 1))]) (lo' := [(0, (2, (Ad E 1))), (1, (0, z7))]) rfl ?_
                              refine r_putIK hX hP rfl fp_12_349 hS (by omega) (by omega) (fun h61 => ?_)
                              refine r_ex hX hP 1 (pc' := 109) (st' := []) (lo' := [(0, (2, (Ad E 1))), (1, (0, z7))]) rfl ?_
                              refine r_eqG (X := X) (hq_up (hq_up (hq_base _ _ _ _) rfl) rfl) ?_
                              exact ih109 (behind_109 + 1) _ h61 (by omega) (by omega) (by omega)
                      · skip
                        refine r_if_eq hX hP rfl (tgt := 182) rfl (by omega) (by omega) (fun c62 => ?_) (fun c62 => ?_)
                        · skip
                          refine r_ex hX hP 2 (pc' := 184) (st' := [(2, (Ad E 1)), (2, (Ad E 1))]) (lo' := [(0, (2, (Ad E 1))), (1, (0, z7))]) rfl ?_
                          refine r_getKI hX hP rfl fl_12_349 hS (x := behind_109) behind_109_e ?_
                          refine r_ex hX hP 1 (pc' := 188) (st' := [(2, (Ad E 1)), (0, behind_109), (2, (Ad E 1))]) (lo' := [(0, (2, (Ad E 1))), (1, (0, z7))]) rfl ?_
                          refine r_getKI hX hP rfl fl_12_352 hS (x := at_8) at_8_e ?_
                          refine r_ex hX hP 1 (pc' := 192) (st' := [(0, (behind_109 - at_8)), (2, (Ad E 1))]) (lo' := [(0, (2, (Ad E 1))), (1, (0, z7))]) rfl ?_
                          refine r_putIK hX hP rfl fp_12_373 hS (by omega) (by omega) (fun h63 => ?_)
                          refine r_ex hX hP 1 (pc' := 354) (st' := []) (lo' := [(0, (2, (Ad E 1))), (1, (0, z7))]) rfl ?_
                          exact r_retV hX hP rfl rfl (by omega) (by omega) ⟨rfl, ⟨_, (hq_up (hq_loop (hq_up (hq_up (hq_up (hq_loop (hq_up (hq_refl _ _ _) rfl) rfl) rfl) rfl) rfl) rfl) rfl).symm⟩, rfl, trivial⟩
                        · skip
                          exfalso; omega
                refine r_eqG (X := X) (hq_refl [84, 87] [] _) ?_
                exact loop109 ((400 - at_8) + 1).toNat at_8 _ h5 (by omega) (by omega) (by omega)
            · skip
              refine r_if_eq hX hP rfl (tgt := 198) rfl (by omega) (by omega) (fun c64 => ?_) (fun c64 => ?_)
              · skip
                refine r_ex hX hP 1 (pc' := 199) (st' := [(0, z7)]) (lo' := [(0, (2, (Ad E 1))), (1, (0, z7))]) rfl ?_
                refine r_callS gd hX hP rfl cs_12_376 (d' := 0) (mc' := 0) (ms' := 0) (as' := [(0, z7)]) (st := []) (by decide) (by decide) (by decide) rfl rfl (Nat.le_of_ble_eq_true rfl) (c_X12_isDigit E S (up (hv [83] [] (up G 1 (Ad E 1) 83 bf1) Gk8) 1 (Ad E 1) 84 at_8) z7 (by omega) (by omega)) ?_
                rintro _ _ _ ⟨rfl, rfl, z65, rfl, (⟨rfl, f66, f67⟩ | ⟨rfl, f68⟩)⟩
                · skip
                  refine r_if_eq hX hP rfl (tgt := 300) rfl (by omega) (by omega) (fun c69 => ?_) (fun c69 => ?_)
                  · skip
                    exfalso; omega
                  · skip
                    refine r_ex hX hP 2 (pc' := 207) (st' := [(0, 0), (2, (Ad E 1))]) (lo' := [(0, (2, (Ad E 1))), (1, (0, z7))]) rfl ?_
                    refine r_putIK hX hP rfl fp_12_379 hS (by omega) (by omega) (fun h70 => ?_)
                    have loop210 : ∀ (n : Nat) (behind_210 : Int) (Gk210 : Gh), behind_210 = (hv [84, 85] [] (up (up (hv [83] [] (up G 1 (Ad E 1) 83 bf1) Gk8) 1 (Ad E 1) 84 at_8) 1 (Ad E 1) 85 0) Gk210) 1 (Ad E 1) 84 → 0 ≤ behind_210 → behind_210 ≤ 400 → 400 - behind_210 < (n : Int) → X 0 0 210 [] [(0, (2, (Ad E 1))), (1, (0, z7))] S (hv [84, 85] [] (up (up (hv [83] [] (up G 1 (Ad E 1) 83 bf1) Gk8) 1 (Ad E 1) 84 at_8) 1 (Ad E 1) 85 0) Gk210) := by
                      intro n
                      induction n with
                      | zero => intro behind_210 Gk210 behind_210_e y210_0 y210_1 ym210; exfalso; omega
                      | succ n ih210 =>
                        intro behind_210 Gk210 behind_210_e y210_0 y210_1 ym210
                        refine r_ex hX hP 2 (pc' := 212) (st' := [(2, (Ad E 1)), (2, (Ad E 1))]) (lo' := [(0, (2, (Ad E 1))), (1, (0, z7))]) rfl ?_
                        refine r_getKI hX hP rfl fl_12_349 hS (x := behind_210) behind_210_e ?_
                        refine r_callV gd hX hP rfl cv_12_355 hS (d' := 0) (mc' := 0) (ms' := 0) (as' := [(0, behind_210)]) (st := []) (by decide) (by decide) (by decide) rfl rfl (Nat.le_of_ble_eq_true rfl) (c_X12_look E S (hv [84, 85] [] (up (up (hv [83] [] (up G 1 (Ad E 1) 83 bf1) Gk8) 1 (Ad E 1) 84 at_8) 1 (Ad E 1) 85 0) Gk210) behind_210 hS tf3 tf3e (by omega) (by omega)) ?_
                        rintro _ _ _ ⟨rfl, rfl, z71, rfl, (⟨z71a, z71b, f72⟩ | ⟨rfl, f73⟩)⟩
                        · skip
                          refine r_callS gd hX hP rfl cs_12_376 (d' := 0) (mc' := 0) (ms' := 0) (as' := [(0, z71)]) (st := []) (by decide) (by decide) (by decide) rfl rfl (Nat.le_of_ble_eq_true rfl) (c_X12_isDigit E S (hv [84, 85] [] (up (up (hv [83] [] (up G 1 (Ad E 1) 83 bf1) Gk8) 1 (Ad E 1) 84 at_8) 1 (Ad E 1) 85 0) Gk210) z71 (by omega) (by omega)) ?_
                          rintro _ _ _ ⟨rfl, rfl, z74, rfl, (⟨rfl, f75, f76⟩ | ⟨rfl, f77⟩)⟩
                          · skip
                            refine r_if_eq hX hP rfl (tgt := 274) rfl (by omega) (by omega) (fun c78 => ?_) (fun c78 => ?_)
                            · skip
                              exfalso; omega
                            · skip
                              refine r_ex hX hP 1 (pc' := 225) (st' := [(2, (Ad E 1))]) (lo' := [(0, (2, (Ad E 1))), (1, (0, z7))]) rfl ?_
                              refine r_getKI hX hP rfl fl_12_349 hS (x := behind_210) behind_210_e ?_
                              refine r_ex hX hP 1 (pc' := 229) (st' := [(2, (Ad E 1)), (0, behind_210)]) (lo' := [(0, (2, (Ad E 1))), (1, (0, z7))]) rfl ?_
                              refine r_getKI hX hP rfl fl_12_352 hS (x := at_8) at_8_e ?_
                              refine r_ex hX hP 2 (pc' := 235) (st' := [(0, 7), (0, (behind_210 - at_8))]) (lo' := [(0, (2, (Ad E 1))), (1, (0, z7))]) rfl ?_
                              refine r_ic_ge hX hP rfl (tgt := 261) rfl (by omega) (by omega) (by omega) (by omega) (fun c79 => ?_) (fun c79 => ?_)
                              · skip
                                refine r_ex hX hP 2 (pc' := 263) (st' := [(2, (Ad E 1)), (2, (Ad E 1))]) (lo' := [(0, (2, (Ad E 1))), (1, (0, z7))]) rfl ?_
                                refine r_getKI hX hP rfl fl_12_349 hS (x := behind_210) behind_210_e ?_
                                refine r_ex hX hP 2 (pc' := 268) (st' := [(0, (behind_210 + 1)), (2, (Ad E 1))]) (lo' := [(0, (2, (Ad E 1))), (1, (0, z7))]) rfl ?_
                                refine r_putIK hX hP rfl fp_12_349 hS (by omega) (by omega) (fun h80 => ?_)
                                refine r_ex hX hP 1 (pc' := 210) (st' := []) (lo' := [(0, (2, (Ad E 1))), (1, (0, z7))]) rfl ?_
                                refine r_eqG (X := X) (hq_up (hq_base _ _ _ _) rfl) ?_
                                exact ih210 (behind_210 + 1) _ h80 (by omega) (by omega) (by omega)
                              · skip
                                refine r_ex hX hP 3 (pc' := 242) (st' := [(2, (Ad E 1)), (0, 10), (2, (Ad E 1))]) (lo' := [(0, (2, (Ad E 1))), (1, (0, z7))]) rfl ?_
                                refine r_getI hX hP rfl fl_12_379 hS (fun nf81 nf81e nf81a nf81b => ?_)
                                refine r_ex hX hP 1 (pc' := 246) (st' := [(0, (10 * nf81)), (2, (Ad E 1))]) (lo' := [(0, (2, (Ad E 1))), (1, (0, z7))]) rfl ?_
                                refine r_hvI hX (fun w82 w82a w82b w82e => ?_)
                                refine r_ex hX hP 2 (pc' := 248) (st' := [(2, (Ad E 1)), (2, (Ad E 1)), (0, w82), (2, (Ad E 1))]) (lo' := [(0, (2, (Ad E 1))), (1, (0, z7))]) rfl ?_
                                refine r_getKI hX hP rfl fl_12_349 hS (x := behind_210) behind_210_e ?_
                                refine r_callV gd hX hP rfl cv_12_355 hS (d' := 0) (mc' := 0) (ms' := 0) (as' := [(0, behind_210)]) (st := [(0, w82), (2, (Ad E 1))]) (by decide) (by decide) (by decide) rfl rfl (Nat.le_of_ble_eq_true rfl) (c_X12_look E S (hv [84, 85] [] (up (up (hv [83] [] (up G 1 (Ad E 1) 83 bf1) Gk8) 1 (Ad E 1) 84 at_8) 1 (Ad E 1) 85 0) Gk210) behind_210 hS tf3 tf3e (by omega) (by omega)) ?_
                                rintro _ _ _ ⟨rfl, rfl, z83, rfl, (⟨z83a, z83b, f84⟩ | ⟨rfl, f85⟩)⟩
                                · skip
                                  refine r_ex hX hP 1 (pc' := 255) (st' := [(0, (w82 + z83)), (2, (Ad E 1))]) (lo' := [(0, (2, (Ad E 1))), (1, (0, z7))]) rfl ?_
                                  refine r_hvI hX (fun w86 w86a w86b w86e => ?_)
                                  refine r_ex hX hP 2 (pc' := 258) (st' := [(0, (w86 - 48)), (2, (Ad E 1))]) (lo' := [(0, (2, (Ad E 1))), (1, (0, z7))]) rfl ?_
                                  refine r_hvI hX (fun w87 w87a w87b w87e => ?_)
                                  refine r_putIK hX hP rfl fp_12_379 hS (by omega) (by omega) (fun h88 => ?_)
                                  refine r_ex hX hP 2 (pc' := 263) (st' := [(2, (Ad E 1)), (2, (Ad E 1))]) (lo' := [(0, (2, (Ad E 1))), (1, (0, z7))]) rfl ?_
                                  refine r_getKI hX hP rfl fl_12_349 hS (x := behind_210) behind_210_e ?_
                                  refine r_ex hX hP 2 (pc' := 268) (st' := [(0, (behind_210 + 1)), (2, (Ad E 1))]) (lo' := [(0, (2, (Ad E 1))), (1, (0, z7))]) rfl ?_
                                  refine r_putIK hX hP rfl fp_12_349 hS (by omega) (by omega) (fun h89 => ?_)
                                  refine r_ex hX hP 1 (pc' := 210) (st' := []) (lo' := [(0, (2, (Ad E 1))), (1, (0, z7))]) rfl ?_
                                  refine r_eqG (X := X) (hq_up (hq_up (hq_base _ _ _ _) rfl) rfl) ?_
                                  exact ih210 (behind_210 + 1) _ h89 (by omega) (by omega) (by omega)
                                · skip
                                  refine r_ex hX hP 3 (pc' := 258) (st' := [(0, ((w82 + 0) - 48)), (2, (Ad E 1))]) (lo' := [(0, (2, (Ad E 1))), (1, (0, z7))]) rfl ?_
                                  refine r_hvI hX (fun w90 w90a w90b w90e => ?_)
                                  refine r_putIK hX hP rfl fp_12_379 hS (by omega) (by omega) (fun h91 => ?_)
                                  refine r_ex hX hP 2 (pc' := 263) (st' := [(2, (Ad E 1)), (2, (Ad E 1))]) (lo' := [(0, (2, (Ad E 1))), (1, (0, z7))]) rfl ?_
                                  refine r_getKI hX hP rfl fl_12_349 hS (x := behind_210) behind_210_e ?_
                                  refine r_ex hX hP 2 (pc' := 268) (st' := [(0, (behind_210 + 1)), (2, (Ad E 1))]) (lo' := [(0, (2, (Ad E 1))), (1, (0, z7))]) rfl ?_
                                  refine r_putIK hX hP rfl fp_12_349 hS (by omega) (by omega) (fun h92 => ?_)
                                  refine r_ex hX hP 1 (pc' := 210) (st' := []) (lo' := [(0, (2, (Ad E 1))), (1, (0, z7))]) rfl ?_
                                  refine r_eqG (X := X) (hq_up (hq_up (hq_base _ _ _ _) rfl) rfl) ?_
                                  exact ih210 (behind_210 + 1) _ h92 (by omega) (by omega) (by omega)
                          · skip
                            refine r_if_eq hX hP rfl (tgt := 274) rfl (by omega) (by omega) (fun c93 => ?_) (fun c93 => ?_)
                            · skip
                              refine r_ex hX hP 2 (pc' := 276) (st' := [(2, (Ad E 1)), (2, (Ad E 1))]) (lo' := [(0, (2, (Ad E 1))), (1, (0, z7))]) rfl ?_
                              refine r_getKI hX hP rfl fl_12_349 hS (x := behind_210) behind_210_e ?_
                              refine r_ex hX hP 1 (pc' := 280) (st' := [(2, (Ad E 1)), (0, behind_210), (2, (Ad E 1))]) (lo' := [(0, (2, (Ad E 1))), (1, (0, z7))]) rfl ?_
                              refine r_getKI hX hP rfl fl_12_352 hS (x := at_8) at_8_e ?_
                              refine r_ex hX hP 2 (pc' := 286) (st' := [(0, 7), (0, (behind_210 - at_8)), (2, (Ad E 1))]) (lo' := [(0, (2, (Ad E 1))), (1, (0, z7))]) rfl ?_
                              refine r_ic_le hX hP rfl (tgt := 293) rfl (by omega) (by omega) (by omega) (by omega) (fun c94 => ?_) (fun c94 => ?_)
                              · skip
                                refine r_ex hX hP 1 (pc' := 294) (st' := [(0, 2), (2, (Ad E 1))]) (lo' := [(0, (2, (Ad E 1))), (1, (0, z7))]) rfl ?_
                                refine r_putIK hX hP rfl fp_12_358 hS (by omega) (by omega) (fun h95 => ?_)
                                refine r_ex hX hP 1 (pc' := 354) (st' := []) (lo' := [(0, (2, (Ad E 1))), (1, (0, z7))]) rfl ?_
                                exact r_retV hX hP rfl rfl (by omega) (by omega) ⟨rfl, ⟨_, (hq_up (hq_loop (hq_up (hq_up (hq_loop (hq_up (hq_refl _ _ _) rfl) rfl) rfl) rfl) rfl) rfl).symm⟩, rfl, trivial⟩
                              · skip
                                refine r_ex hX hP 2 (pc' := 294) (st' := [(0, 4), (2, (Ad E 1))]) (lo' := [(0, (2, (Ad E 1))), (1, (0, z7))]) rfl ?_
                                refine r_putIK hX hP rfl fp_12_358 hS (by omega) (by omega) (fun h96 => ?_)
                                refine r_ex hX hP 1 (pc' := 354) (st' := []) (lo' := [(0, (2, (Ad E 1))), (1, (0, z7))]) rfl ?_
                                exact r_retV hX hP rfl rfl (by omega) (by omega) ⟨rfl, ⟨_, (hq_up (hq_loop (hq_up (hq_up (hq_loop (hq_up (hq_refl _ _ _) rfl) rfl) rfl) rfl) rfl) rfl).symm⟩, rfl, trivial⟩
                            · skip
                              exfalso; omega
                        · skip
                          refine r_callS gd hX hP rfl cs_12_376 (d' := 0) (mc' := 0) (ms' := 0) (as' := [(0, 0)]) (st := []) (by decide) (by decide) (by decide) rfl rfl (Nat.le_of_ble_eq_true rfl) (c_X12_isDigit E S (hv [84, 85] [] (up (up (hv [83] [] (up G 1 (Ad E 1) 83 bf1) Gk8) 1 (Ad E 1) 84 at_8) 1 (Ad E 1) 85 0) Gk210) 0 (by omega) (by omega)) ?_
                          rintro _ _ _ ⟨rfl, rfl, z97, rfl, (⟨rfl, f98, f99⟩ | ⟨rfl, f100⟩)⟩
                          · skip
                            refine r_if_eq hX hP rfl (tgt := 274) rfl (by omega) (by omega) (fun c101 => ?_) (fun c101 => ?_)
                            · skip
                              exfalso; omega
                            · skip
                              refine r_ex hX hP 1 (pc' := 225) (st' := [(2, (Ad E 1))]) (lo' := [(0, (2, (Ad E 1))), (1, (0, z7))]) rfl ?_
                              refine r_getKI hX hP rfl fl_12_349 hS (x := behind_210) behind_210_e ?_
                              refine r_ex hX hP 1 (pc' := 229) (st' := [(2, (Ad E 1)), (0, behind_210)]) (lo' := [(0, (2, (Ad E 1))), (1, (0, z7))]) rfl ?_
                              refine r_getKI hX hP rfl fl_12_352 hS (x := at_8) at_8_e ?_
                              refine r_ex hX hP 2 (pc' := 235) (st' := [(0, 7), (0, (behind_210 - at_8))]) (lo' := [(0, (2, (Ad E 1))), (1, (0, z7))]) rfl ?_
                              refine r_ic_ge hX hP rfl (tgt := 261) rfl (by omega) (by omega) (by omega) (by omega) (fun c102 => ?_) (fun c102 => ?_)
                              · skip
                                refine r_ex hX hP 2 (pc' := 263) (st' := [(2, (Ad E 1)), (2, (Ad E 1))]) (lo' := [(0, (2, (Ad E 1))), (1, (0, z7))]) rfl ?_
                                refine r_getKI hX hP rfl fl_12_349 hS (x := behind_210) behind_210_e ?_
                                refine r_ex hX hP 2 (pc' := 268) (st' := [(0, (behind_210 + 1)), (2, (Ad E 1))]) (lo' := [(0, (2, (Ad E 1))), (1, (0, z7))]) rfl ?_
                                refine r_putIK hX hP rfl fp_12_349 hS (by omega) (by omega) (fun h103 => ?_)
                                refine r_ex hX hP 1 (pc' := 210) (st' := []) (lo' := [(0, (2, (Ad E 1))), (1, (0, z7))]) rfl ?_
                                refine r_eqG (X := X) (hq_up (hq_base _ _ _ _) rfl) ?_
                                exact ih210 (behind_210 + 1) _ h103 (by omega) (by omega) (by omega)
                              · skip
                                refine r_ex hX hP 3 (pc' := 242) (st' := [(2, (Ad E 1)), (0, 10), (2, (Ad E 1))]) (lo' := [(0, (2, (Ad E 1))), (1, (0, z7))]) rfl ?_
                                refine r_getI hX hP rfl fl_12_379 hS (fun nf104 nf104e nf104a nf104b => ?_)
                                refine r_ex hX hP 1 (pc' := 246) (st' := [(0, (10 * nf104)), (2, (Ad E 1))]) (lo' := [(0, (2, (Ad E 1))), (1, (0, z7))]) rfl ?_
                                refine r_hvI hX (fun w105 w105a w105b w105e => ?_)
                                refine r_ex hX hP 2 (pc' := 248) (st' := [(2, (Ad E 1)), (2, (Ad E 1)), (0, w105), (2, (Ad E 1))]) (lo' := [(0, (2, (Ad E 1))), (1, (0, z7))]) rfl ?_
                                refine r_getKI hX hP rfl fl_12_349 hS (x := behind_210) behind_210_e ?_
                                refine r_callV gd hX hP rfl cv_12_355 hS (d' := 0) (mc' := 0) (ms' := 0) (as' := [(0, behind_210)]) (st := [(0, w105), (2, (Ad E 1))]) (by decide) (by decide) (by decide) rfl rfl (Nat.le_of_ble_eq_true rfl) (c_X12_look E S (hv [84, 85] [] (up (up (hv [83] [] (up G 1 (Ad E 1) 83 bf1) Gk8) 1 (Ad E 1) 84 at_8) 1 (Ad E 1) 85 0) Gk210) behind_210 hS tf3 tf3e (by omega) (by omega)) ?_
                                rintro _ _ _ ⟨rfl, rfl, z106, rfl, (⟨z106a, z106b, f107⟩ | ⟨rfl, f108⟩)⟩
                                · skip
                                  refine r_ex hX hP 1 (pc' := 255) (st' := [(0, (w105 + z106)), (2, (Ad E 1))]) (lo' := [(0, (2, (Ad E 1))), (1, (0, z7))]) rfl ?_
                                  refine r_hvI hX (fun w109 w109a w109b w109e => ?_)
                                  refine r_ex hX hP 2 (pc' := 258) (st' := [(0, (w109 - 48)), (2, (Ad E 1))]) (lo' := [(0, (2, (Ad E 1))), (1, (0, z7))]) rfl ?_
                                  refine r_hvI hX (fun w110 w110a w110b w110e => ?_)
                                  refine r_putIK hX hP rfl fp_12_379 hS (by omega) (by omega) (fun h111 => ?_)
                                  refine r_ex hX hP 2 (pc' := 263) (st' := [(2, (Ad E 1)), (2, (Ad E 1))]) (lo' := [(0, (2, (Ad E 1))), (1, (0, z7))]) rfl ?_
                                  refine r_getKI hX hP rfl fl_12_349 hS (x := behind_210) behind_210_e ?_
                                  refine r_ex hX hP 2 (pc' := 268) (st' := [(0, (behind_210 + 1)), (2, (Ad E 1))]) (lo' := [(0, (2, (Ad E 1))), (1, (0, z7))]) rfl ?_
                                  refine r_putIK hX hP rfl fp_12_349 hS (by omega) (by omega) (fun h112 => ?_)
                                  refine r_ex hX hP 1 (pc' := 210) (st' := []) (lo' := [(0, (2, (Ad E 1))), (1, (0, z7))]) rfl ?_
                                  refine r_eqG (X := X) (hq_up (hq_up (hq_base _ _ _ _) rfl) rfl) ?_
                                  exact ih210 (behind_210 + 1) _ h112 (by omega) (by omega) (by omega)
                                · skip
                                  refine r_ex hX hP 3 (pc' := 258) (st' := [(0, ((w105 + 0) - 48)), (2, (Ad E 1))]) (lo' := [(0, (2, (Ad E 1))), (1, (0, z7))]) rfl ?_
                                  refine r_hvI hX (fun w113 w113a w113b w113e => ?_)
                                  refine r_putIK hX hP rfl fp_12_379 hS (by omega) (by omega) (fun h114 => ?_)
                                  refine r_ex hX hP 2 (pc' := 263) (st' := [(2, (Ad E 1)), (2, (Ad E 1))]) (lo' := [(0, (2, (Ad E 1))), (1, (0, z7))]) rfl ?_
                                  refine r_getKI hX hP rfl fl_12_349 hS (x := behind_210) behind_210_e ?_
                                  refine r_ex hX hP 2 (pc' := 268) (st' := [(0, (behind_210 + 1)), (2, (Ad E 1))]) (lo' := [(0, (2, (Ad E 1))), (1, (0, z7))]) rfl ?_
                                  refine r_putIK hX hP rfl fp_12_349 hS (by omega) (by omega) (fun h115 => ?_)
                                  refine r_ex hX hP 1 (pc' := 210) (st' := []) (lo' := [(0, (2, (Ad E 1))), (1, (0, z7))]) rfl ?_
                                  refine r_eqG (X := X) (hq_up (hq_up (hq_base _ _ _ _) rfl) rfl) ?_
                                  exact ih210 (behind_210 + 1) _ h115 (by omega) (by omega) (by omega)
                          · skip
                            refine r_if_eq hX hP rfl (tgt := 274) rfl (by omega) (by omega) (fun c116 => ?_) (fun c116 => ?_)
                            · skip
                              refine r_ex hX hP 2 (pc' := 276) (st' := [(2, (Ad E 1)), (2, (Ad E 1))]) (lo' := [(0, (2, (Ad E 1))), (1, (0, z7))]) rfl ?_
                              refine r_getKI hX hP rfl fl_12_349 hS (x := behind_210) behind_210_e ?_
                              refine r_ex hX hP 1 (pc' := 280) (st' := [(2, (Ad E 1)), (0, behind_210), (2, (Ad E 1))]) (lo' := [(0, (2, (Ad E 1))), (1, (0, z7))]) rfl ?_
                              refine r_getKI hX hP rfl fl_12_352 hS (x := at_8) at_8_e ?_
                              refine r_ex hX hP 2 (pc' := 286) (st' := [(0, 7), (0, (behind_210 - at_8)), (2, (Ad E 1))]) (lo' := [(0, (2, (Ad E 1))), (1, (0, z7))]) rfl ?_
                              refine r_ic_le hX hP rfl (tgt := 293) rfl (by omega) (by omega) (by omega) (by omega) (fun c117 => ?_) (fun c117 => ?_)
                              · skip
                                refine r_ex hX hP 1 (pc' := 294) (st' := [(0, 2), (2, (Ad E 1))]) (lo' := [(0, (2, (Ad E 1))), (1, (0, z7))]) rfl ?_
                                refine r_putIK hX hP rfl fp_12_358 hS (by omega) (by omega) (fun h118 => ?_)
                                refine r_ex hX hP 1 (pc' := 354) (st' := []) (lo' := [(0, (2, (Ad E 1))), (1, (0, z7))]) rfl ?_
                                exact r_retV hX hP rfl rfl (by omega) (by omega) ⟨rfl, ⟨_, (hq_up (hq_loop (hq_up (hq_up (hq_loop (hq_up (hq_refl _ _ _) rfl) rfl) rfl) rfl) rfl) rfl).symm⟩, rfl, trivial⟩
                              · skip
                                refine r_ex hX hP 2 (pc' := 294) (st' := [(0, 4), (2, (Ad E 1))]) (lo' := [(0, (2, (Ad E 1))), (1, (0, z7))]) rfl ?_
                                refine r_putIK hX hP rfl fp_12_358 hS (by omega) (by omega) (fun h119 => ?_)
                                refine r_ex hX hP 1 (pc' := 354) (st' := []) (lo' := [(0, (2, (Ad E 1))), (1, (0, z7))]) rfl ?_
                                exact r_retV hX hP rfl rfl (by omega) (by omega) ⟨rfl, ⟨_, (hq_up (hq_loop (hq_up (hq_up (hq_loop (hq_up (hq_refl _ _ _) rfl) rfl) rfl) rfl) rfl) rfl).symm⟩, rfl, trivial⟩
                            · skip
                              exfalso; omega
                    refine r_eqG (X := X) (hq_refl [84, 85] [] _) ?_
                    exact loop210 ((400 - at_8) + 1).toNat at_8 _ h5 (by omega) (by omega) (by omega)
                · skip
                  refine r_if_eq hX hP rfl (tgt := 300) rfl (by omega) (by omega) (fun c120 => ?_) (fun c120 => ?_)
                  · skip
                    refine r_ex hX hP 2 (pc' := 302) (st' := [(2, (Ad E 1)), (2, (Ad E 1))]) (lo' := [(0, (2, (Ad E 1))), (1, (0, z7))]) rfl ?_
                    refine r_getKI hX hP rfl fl_12_352 hS (x := at_8) at_8_e ?_
                    refine r_ex hX hP 2 (pc' := 307) (st' := [(0, (at_8 + 1)), (2, (Ad E 1))]) (lo' := [(0, (2, (Ad E 1))), (1, (0, z7))]) rfl ?_
                    refine r_putIK hX hP rfl fp_12_349 hS (by omega) (by omega) (fun h121 => ?_)
                    refine r_ex hX hP 2 (pc' := 312) (st' := [(0, z7), (2, (Ad E 1))]) (lo' := [(0, (2, (Ad E 1))), (1, (0, z7))]) rfl ?_
                    refine r_putIK hX hP rfl fp_12_379 hS (by omega) (by omega) (fun h122 => ?_)
                    refine r_ex hX hP 3 (pc' := 319) (st' := [(0, 59), (0, z7), (2, (Ad E 1))]) (lo' := [(0, (2, (Ad E 1))), (1, (0, z7))]) rfl ?_
                    refine r_ic_eq hX hP rfl (tgt := 346) rfl (by omega) (by omega) (by omega) (by omega) (fun c123 => ?_) (fun c123 => ?_)
                    · skip
                      refine r_ex hX hP 2 (pc' := 351) (st' := [(0, 3), (2, (Ad E 1))]) (lo' := [(0, (2, (Ad E 1))), (1, (0, z7))]) rfl ?_
                      refine r_putIK hX hP rfl fp_12_358 hS (by omega) (by omega) (fun h124 => ?_)
                      exact r_retV hX hP rfl rfl (by omega) (by omega) ⟨rfl, ⟨_, (hq_up (hq_up (hq_up (hq_up (hq_loop (hq_up (hq_refl _ _ _) rfl) rfl) rfl) rfl) rfl) rfl).symm⟩, rfl, trivial⟩
                    · skip
                      refine r_ex hX hP 2 (pc' := 325) (st' := [(0, 123), (0, z7), (2, (Ad E 1))]) (lo' := [(0, (2, (Ad E 1))), (1, (0, z7))]) rfl ?_
                      refine r_ic_eq hX hP rfl (tgt := 346) rfl (by omega) (by omega) (by omega) (by omega) (fun c125 => ?_) (fun c125 => ?_)
                      · skip
                        refine r_ex hX hP 2 (pc' := 351) (st' := [(0, 3), (2, (Ad E 1))]) (lo' := [(0, (2, (Ad E 1))), (1, (0, z7))]) rfl ?_
                        refine r_putIK hX hP rfl fp_12_358 hS (by omega) (by omega) (fun h126 => ?_)
                        exact r_retV hX hP rfl rfl (by omega) (by omega) ⟨rfl, ⟨_, (hq_up (hq_up (hq_up (hq_up (hq_loop (hq_up (hq_refl _ _ _) rfl) rfl) rfl) rfl) rfl) rfl).symm⟩, rfl, trivial⟩
                      · skip
                        refine r_ex hX hP 2 (pc' := 331) (st' := [(0, 125), (0, z7), (2, (Ad E 1))]) (lo' := [(0, (2, (Ad E 1))), (1, (0, z7))]) rfl ?_
                        refine r_ic_eq hX hP rfl (tgt := 346) rfl (by omega) (by omega) (by omega) (by omega) (fun c127 => ?_) (fun c127 => ?_)
                        · skip
                          refine r_ex hX hP 2 (pc' := 351) (st' := [(0, 3), (2, (Ad E 1))]) (lo' := [(0, (2, (Ad E 1))), (1, (0, z7))]) rfl ?_
                          refine r_putIK hX hP rfl fp_12_358 hS (by omega) (by omega) (fun h128 => ?_)
                          exact r_retV hX hP rfl rfl (by omega) (by omega) ⟨rfl, ⟨_, (hq_up (hq_up (hq_up (hq_up (hq_loop (hq_up (hq_refl _ _ _) rfl) rfl) rfl) rfl) rfl) rfl).symm⟩, rfl, trivial⟩
                        · skip
                          refine r_ex hX hP 2 (pc' := 337) (st' := [(0, 60), (0, z7), (2, (Ad E 1))]) (lo' := [(0, (2, (Ad E 1))), (1, (0, z7))]) rfl ?_
                          refine r_ic_eq hX hP rfl (tgt := 346) rfl (by omega) (by omega) (by omega) (by omega) (fun c129 => ?_) (fun c129 => ?_)
                          · skip
                            refine r_ex hX hP 2 (pc' := 351) (st' := [(0, 3), (2, (Ad E 1))]) (lo' := [(0, (2, (Ad E 1))), (1, (0, z7))]) rfl ?_
                            refine r_putIK hX hP rfl fp_12_358 hS (by omega) (by omega) (fun h130 => ?_)
                            exact r_retV hX hP rfl rfl (by omega) (by omega) ⟨rfl, ⟨_, (hq_up (hq_up (hq_up (hq_up (hq_loop (hq_up (hq_refl _ _ _) rfl) rfl) rfl) rfl) rfl) rfl).symm⟩, rfl, trivial⟩
                          · skip
                            refine r_ex hX hP 2 (pc' := 343) (st' := [(0, 62), (0, z7), (2, (Ad E 1))]) (lo' := [(0, (2, (Ad E 1))), (1, (0, z7))]) rfl ?_
                            refine r_ic_ne hX hP rfl (tgt := 350) rfl (by omega) (by omega) (by omega) (by omega) (fun c131 => ?_) (fun c131 => ?_)
                            · skip
                              refine r_ex hX hP 1 (pc' := 351) (st' := [(0, 4), (2, (Ad E 1))]) (lo' := [(0, (2, (Ad E 1))), (1, (0, z7))]) rfl ?_
                              refine r_putIK hX hP rfl fp_12_358 hS (by omega) (by omega) (fun h132 => ?_)
                              exact r_retV hX hP rfl rfl (by omega) (by omega) ⟨rfl, ⟨_, (hq_up (hq_up (hq_up (hq_up (hq_loop (hq_up (hq_refl _ _ _) rfl) rfl) rfl) rfl) rfl) rfl).symm⟩, rfl, trivial⟩
                            · skip
                              refine r_ex hX hP 2 (pc' := 351) (st' := [(0, 3), (2, (Ad E 1))]) (lo' := [(0, (2, (Ad E 1))), (1, (0, z7))]) rfl ?_
                              refine r_putIK hX hP rfl fp_12_358 hS (by omega) (by omega) (fun h133 => ?_)
                              exact r_retV hX hP rfl rfl (by omega) (by omega) ⟨rfl, ⟨_, (hq_up (hq_up (hq_up (hq_up (hq_loop (hq_up (hq_refl _ _ _) rfl) rfl) rfl) rfl) rfl) rfl).symm⟩, rfl, trivial⟩
                  · skip
                    exfalso; omega
              · skip
                exfalso; omega
          · skip
            refine r_ex hX hP 2 (pc' := 93) (st' := [(0, 0)]) (lo' := [(0, (2, (Ad E 1))), (1, (0, 0))]) rfl ?_
            refine r_callS gd hX hP rfl cs_12_361 (d' := 0) (mc' := 0) (ms' := 0) (as' := [(0, 0)]) (st := []) (by decide) (by decide) (by decide) rfl rfl (Nat.le_of_ble_eq_true rfl) (c_X12_isLetter E S (up (hv [83] [] (up G 1 (Ad E 1) 83 bf1) Gk8) 1 (Ad E 1) 84 at_8) 0 (by omega) (by omega)) ?_
            rintro _ _ _ ⟨rfl, rfl, z134, rfl, (⟨rfl, f135, f136⟩ | ⟨rfl, f137⟩)⟩
            · skip
              refine r_if_eq hX hP rfl (tgt := 198) rfl (by omega) (by omega) (fun c138 => ?_) (fun c138 => ?_)
              · skip
                exfalso; omega
              · skip
                refine r_ex hX hP 2 (pc' := 101) (st' := [(0, 1), (2, (Ad E 1))]) (lo' := [(0, (2, (Ad E 1))), (1, (0, 0))]) rfl ?_
                refine r_putIK hX hP rfl fp_12_358 hS (by omega) (by omega) (fun h139 => ?_)
                refine r_ex hX hP 2 (pc' := 106) (st' := [(1, 0), (2, (Ad E 1))]) (lo' := [(0, (2, (Ad E 1))), (1, (0, 0))]) rfl ?_
                refine r_putLK hX hP rfl fp_12_364 hS (by omega) (by omega) (fun h140 => ?_)
                have loop109 : ∀ (n : Nat) (behind_109 : Int) (Gk109 : Gh), behind_109 = (hv [84, 87] [] (up (up (up (hv [83] [] (up G 1 (Ad E 1) 83 bf1) Gk8) 1 (Ad E 1) 84 at_8) 1 (Ad E 1) 82 1) 1 (Ad E 1) 87 0) Gk109) 1 (Ad E 1) 84 → 0 ≤ behind_109 → behind_109 ≤ 400 → 400 - behind_109 < (n : Int) → X 0 0 109 [] [(0, (2, (Ad E 1))), (1, (0, 0))] S (hv [84, 87] [] (up (up (up (hv [83] [] (up G 1 (Ad E 1) 83 bf1) Gk8) 1 (Ad E 1) 84 at_8) 1 (Ad E 1) 82 1) 1 (Ad E 1) 87 0) Gk109) := by
                  intro n
                  induction n with
                  | zero => intro behind_109 Gk109 behind_109_e y109_0 y109_1 ym109; exfalso; omega
                  | succ n ih109 =>
                    intro behind_109 Gk109 behind_109_e y109_0 y109_1 ym109
                    refine r_ex hX hP 2 (pc' := 111) (st' := [(2, (Ad E 1)), (2, (Ad E 1))]) (lo' := [(0, (2, (Ad E 1))), (1, (0, 0))]) rfl ?_
                    refine r_getKI hX hP rfl fl_12_349 hS (x := behind_109) behind_109_e ?_
                    refine r_callV gd hX hP rfl cv_12_355 hS (d' := 0) (mc' := 0) (ms' := 0) (as' := [(0, behind_109)]) (st := []) (by decide) (by decide) (by decide) rfl rfl (Nat.le_of_ble_eq_true rfl) (c_X12_look E S (hv [84, 87] [] (up (up (up (hv [83] [] (up G 1 (Ad E 1) 83 bf1) Gk8) 1 (Ad E 1) 84 at_8) 1 (Ad E 1) 82 1) 1 (Ad E 1) 87 0) Gk109) behind_109 hS tf3 tf3e (by omega) (by omega)) ?_
                    rintro _ _ _ ⟨rfl, rfl, z141, rfl, (⟨z141a, z141b, f142⟩ | ⟨rfl, f143⟩)⟩
                    · skip
                      refine r_callS gd hX hP rfl cs_12_361 (d' := 0) (mc' := 0) (ms' := 0) (as' := [(0, z141)]) (st := []) (by decide) (by decide) (by decide) rfl rfl (Nat.le_of_ble_eq_true rfl) (c_X12_isLetter E S (hv [84, 87] [] (up (up (up (hv [83] [] (up G 1 (Ad E 1) 83 bf1) Gk8) 1 (Ad E 1) 84 at_8) 1 (Ad E 1) 82 1) 1 (Ad E 1) 87 0) Gk109) z141 (by omega) (by omega)) ?_
                      rintro _ _ _ ⟨rfl, rfl, z144, rfl, (⟨rfl, f145, f146⟩ | ⟨rfl, f147⟩)⟩
                      · skip
                        refine r_if_eq hX hP rfl (tgt := 182) rfl (by omega) (by omega) (fun c148 => ?_) (fun c148 => ?_)
                        · skip
                          exfalso; omega
                        · skip
                          refine r_ex hX hP 2 (pc' := 125) (st' := [(2, (Ad E 1)), (2, (Ad E 1))]) (lo' := [(0, (2, (Ad E 1))), (1, (0, 0))]) rfl ?_
                          refine r_getKI hX hP rfl fl_12_349 hS (x := behind_109) behind_109_e ?_
                          refine r_ex hX hP 1 (pc' := 129) (st' := [(2, (Ad E 1)), (0, behind_109), (2, (Ad E 1))]) (lo' := [(0, (2, (Ad E 1))), (1, (0, 0))]) rfl ?_
                          refine r_getKI hX hP rfl fl_12_352 hS (x := at_8) at_8_e ?_
                          refine r_ex hX hP 2 (pc' := 135) (st' := [(0, 12), (0, (behind_109 - at_8)), (2, (Ad E 1))]) (lo' := [(0, (2, (Ad E 1))), (1, (0, 0))]) rfl ?_
                          refine r_ic_ge hX hP rfl (tgt := 163) rfl (by omega) (by omega) (by omega) (by omega) (fun c149 => ?_) (fun c149 => ?_)
                          · skip
                            refine r_ldc2 hX hP rfl (v := (-1)) (tbg sg9 135 rfl rfl) ?_
                            refine r_putLK hX hP rfl fp_12_364 hS (by omega) (by omega) (fun h150 => ?_)
                            refine r_ex hX hP 2 (pc' := 171) (st' := [(2, (Ad E 1)), (2, (Ad E 1))]) (lo' := [(0, (2, (Ad E 1))), (1, (0, 0))]) rfl ?_
                            refine r_getKI hX hP rfl fl_12_349 hS (x := behind_109) behind_109_e ?_
                            refine r_ex hX hP 2 (pc' := 176) (st' := [(0, (behind_109 + 1)), (2, (Ad E 1))]) (lo' := [(0, (2, (Ad E 1))), (1, (0, 0))]) rfl ?_
                            refine r_putIK hX hP rfl fp_12_349 hS (by omega) (by omega) (fun h151 => ?_)
                            refine r_ex hX hP 1 (pc' := 109) (st' := []) (lo' := [(0, (2, (Ad E 1))), (1, (0, 0))]) rfl ?_
                            refine r_eqG (X := X) (hq_up (hq_up (hq_base _ _ _ _) rfl) rfl) ?_
                            exact ih109 (behind_109 + 1) _ h151 (by omega) (by omega) (by omega)
                          · skip
                            refine r_ex hX hP 1 (pc' := 139) (st' := [(2, (Ad E 1)), (2, (Ad E 1))]) (lo' := [(0, (2, (Ad E 1))), (1, (0, 0))]) rfl ?_
                            refine r_getL hX hP rfl fl_12_364 hS (fun wf152 wf152e wf152a wf152b => ?_)
                            refine r_ldc2 hX hP rfl (v := 32) (tbg sg9 133 rfl rfl) ?_
                            refine r_ex hX hP 1 (pc' := 146) (st' := [(1, (wf152 * 32)), (2, (Ad E 1))]) (lo' := [(0, (2, (Ad E 1))), (1, (0, 0))]) rfl ?_
                            refine r_hvL hX (fun w153 w153a w153b w153e => ?_)
                            refine r_ex hX hP 2 (pc' := 148) (st' := [(2, (Ad E 1)), (2, (Ad E 1)), (1, w153), (2, (Ad E 1))]) (lo' := [(0, (2, (Ad E 1))), (1, (0, 0))]) rfl ?_
                            refine r_getKI hX hP rfl fl_12_349 hS (x := behind_109) behind_109_e ?_
                            refine r_callV gd hX hP rfl cv_12_355 hS (d' := 0) (mc' := 0) (ms' := 0) (as' := [(0, behind_109)]) (st := [(1, w153), (2, (Ad E 1))]) (by decide) (by decide) (by decide) rfl rfl (Nat.le_of_ble_eq_true rfl) (c_X12_look E S (hv [84, 87] [] (up (up (up (hv [83] [] (up G 1 (Ad E 1) 83 bf1) Gk8) 1 (Ad E 1) 84 at_8) 1 (Ad E 1) 82 1) 1 (Ad E 1) 87 0) Gk109) behind_109 hS tf3 tf3e (by omega) (by omega)) ?_
                            rintro _ _ _ ⟨rfl, rfl, z154, rfl, (⟨z154a, z154b, f155⟩ | ⟨rfl, f156⟩)⟩
                            · skip
                              refine r_i2l hX hP rfl (by omega) (by omega) ?_
                              refine r_ex hX hP 1 (pc' := 156) (st' := [(1, (w153 + z154)), (2, (Ad E 1))]) (lo' := [(0, (2, (Ad E 1))), (1, (0, 0))]) rfl ?_
                              refine r_hvL hX (fun w157 w157a w157b w157e => ?_)
                              refine r_ldc2 hX hP rfl (v := 96) (tbg sg9 134 rfl rfl) ?_
                              refine r_ex hX hP 1 (pc' := 160) (st' := [(1, (w157 - 96)), (2, (Ad E 1))]) (lo' := [(0, (2, (Ad E 1))), (1, (0, 0))]) rfl ?_
                              refine r_hvL hX (fun w158 w158a w158b w158e => ?_)
                              refine r_ex hX hP 1 (pc' := 166) (st' := [(1, w158), (2, (Ad E 1))]) (lo' := [(0, (2, (Ad E 1))), (1, (0, 0))]) rfl ?_
                              refine r_putLK hX hP rfl fp_12_364 hS (by omega) (by omega) (fun h159 => ?_)
                              refine r_ex hX hP 2 (pc' := 171) (st' := [(2, (Ad E 1)), (2, (Ad E 1))]) (lo' := [(0, (2, (Ad E 1))), (1, (0, 0))]) rfl ?_
                              refine r_getKI hX hP rfl fl_12_349 hS (x := behind_109) behind_109_e ?_
                              refine r_ex hX hP 2 (pc' := 176) (st' := [(0, (behind_109 + 1)), (2, (Ad E 1))]) (lo' := [(0, (2, (Ad E 1))), (1, (0, 0))]) rfl ?_
                              refine r_putIK hX hP rfl fp_12_349 hS (by omega) (by omega) (fun h160 => ?_)
                              refine r_ex hX hP 1 (pc' := 109) (st' := []) (lo' := [(0, (2, (Ad E 1))), (1, (0, 0))]) rfl ?_
                              refine r_eqG (X := X) (hq_up (hq_up (hq_base _ _ _ _) rfl) rfl) ?_
                              exact ih109 (behind_109 + 1) _ h160 (by omega) (by omega) (by omega)
                            · skip
                              refine r_i2l hX hP rfl (by omega) (by omega) ?_
                              refine r_ex hX hP 1 (pc' := 156) (st' := [(1, (w153 + 0)), (2, (Ad E 1))]) (lo' := [(0, (2, (Ad E 1))), (1, (0, 0))]) rfl ?_
                              refine r_ldc2 hX hP rfl (v := 96) (tbg sg9 134 rfl rfl) ?_
                              refine r_ex hX hP 1 (pc' := 160) (st' := [(1, ((w153 + 0) - 96)), (2, (Ad E 1))]) (lo' := [(0, (2, (Ad E 1))), (1, (0, 0))]) rfl ?_
                              refine r_hvL hX (fun w161 w161a w161b w161e => ?_)
                              refine r_ex hX hP 1 (pc' := 166) (st' := [(1, w161), (2, (Ad E 1))]) (lo' := [(0, (2, (Ad E 1))), (1, (0, 0))]) rfl ?_
                              refine r_putLK hX hP rfl fp_12_364 hS (by omega) (by omega) (fun h162 => ?_)
                              refine r_ex hX hP 2 (pc' := 171) (st' := [(2, (Ad E 1)), (2, (Ad E 1))]) (lo' := [(0, (2, (Ad E 1))), (1, (0, 0))]) rfl ?_
                              refine r_getKI hX hP rfl fl_12_349 hS (x := behind_109) behind_109_e ?_
                              refine r_ex hX hP 2 (pc' := 176) (st' := [(0, (behind_109 + 1)), (2, (Ad E 1))]) (lo' := [(0, (2, (Ad E 1))), (1, (0, 0))]) rfl ?_
                              refine r_putIK hX hP rfl fp_12_349 hS (by omega) (by omega) (fun h163 => ?_)
                              refine r_ex hX hP 1 (pc' := 109) (st' := []) (lo' := [(0, (2, (Ad E 1))), (1, (0, 0))]) rfl ?_
                              refine r_eqG (X := X) (hq_up (hq_up (hq_base _ _ _ _) rfl) rfl) ?_
                              exact ih109 (behind_109 + 1) _ h163 (by omega) (by omega) (by omega)
                      · skip
                        refine r_if_eq hX hP rfl (tgt := 182) rfl (by omega) (by omega) (fun c164 => ?_) (fun c164 => ?_)
                        · skip
                          refine r_ex hX hP 2 (pc' := 184) (st' := [(2, (Ad E 1)), (2, (Ad E 1))]) (lo' := [(0, (2, (Ad E 1))), (1, (0, 0))]) rfl ?_
                          refine r_getKI hX hP rfl fl_12_349 hS (x := behind_109) behind_109_e ?_
                          refine r_ex hX hP 1 (pc' := 188) (st' := [(2, (Ad E 1)), (0, behind_109), (2, (Ad E 1))]) (lo' := [(0, (2, (Ad E 1))), (1, (0, 0))]) rfl ?_
                          refine r_getKI hX hP rfl fl_12_352 hS (x := at_8) at_8_e ?_
                          refine r_ex hX hP 1 (pc' := 192) (st' := [(0, (behind_109 - at_8)), (2, (Ad E 1))]) (lo' := [(0, (2, (Ad E 1))), (1, (0, 0))]) rfl ?_
                          refine r_putIK hX hP rfl fp_12_373 hS (by omega) (by omega) (fun h165 => ?_)
                          refine r_ex hX hP 1 (pc' := 354) (st' := []) (lo' := [(0, (2, (Ad E 1))), (1, (0, 0))]) rfl ?_
                          exact r_retV hX hP rfl rfl (by omega) (by omega) ⟨rfl, ⟨_, (hq_up (hq_loop (hq_up (hq_up (hq_up (hq_loop (hq_up (hq_refl _ _ _) rfl) rfl) rfl) rfl) rfl) rfl) rfl).symm⟩, rfl, trivial⟩
                        · skip
                          exfalso; omega
                    · skip
                      refine r_callS gd hX hP rfl cs_12_361 (d' := 0) (mc' := 0) (ms' := 0) (as' := [(0, 0)]) (st := []) (by decide) (by decide) (by decide) rfl rfl (Nat.le_of_ble_eq_true rfl) (c_X12_isLetter E S (hv [84, 87] [] (up (up (up (hv [83] [] (up G 1 (Ad E 1) 83 bf1) Gk8) 1 (Ad E 1) 84 at_8) 1 (Ad E 1) 82 1) 1 (Ad E 1) 87 0) Gk109) 0 (by omega) (by omega)) ?_
                      rintro _ _ _ ⟨rfl, rfl, z166, rfl, (⟨rfl, f167, f168⟩ | ⟨rfl, f169⟩)⟩
                      · skip
                        refine r_if_eq hX hP rfl (tgt := 182) rfl (by omega) (by omega) (fun c170 => ?_) (fun c170 => ?_)
                        · skip
                          exfalso; omega
                        · skip
                          refine r_ex hX hP 2 (pc' := 125) (st' := [(2, (Ad E 1)), (2, (Ad E 1))]) (lo' := [(0, (2, (Ad E 1))), (1, (0, 0))]) rfl ?_
                          refine r_getKI hX hP rfl fl_12_349 hS (x := behind_109) behind_109_e ?_
                          refine r_ex hX hP 1 (pc' := 129) (st' := [(2, (Ad E 1)), (0, behind_109), (2, (Ad E 1))]) (lo' := [(0, (2, (Ad E 1))), (1, (0, 0))]) rfl ?_
                          refine r_getKI hX hP rfl fl_12_352 hS (x := at_8) at_8_e ?_
                          refine r_ex hX hP 2 (pc' := 135) (st' := [(0, 12), (0, (behind_109 - at_8)), (2, (Ad E 1))]) (lo' := [(0, (2, (Ad E 1))), (1, (0, 0))]) rfl ?_
                          refine r_ic_ge hX hP rfl (tgt := 163) rfl (by omega) (by omega) (by omega) (by omega) (fun c171 => ?_) (fun c171 => ?_)
                          · skip
                            refine r_ldc2 hX hP rfl (v := (-1)) (tbg sg9 135 rfl rfl) ?_
                            refine r_putLK hX hP rfl fp_12_364 hS (by omega) (by omega) (fun h172 => ?_)
                            refine r_ex hX hP 2 (pc' := 171) (st' := [(2, (Ad E 1)), (2, (Ad E 1))]) (lo' := [(0, (2, (Ad E 1))), (1, (0, 0))]) rfl ?_
                            refine r_getKI hX hP rfl fl_12_349 hS (x := behind_109) behind_109_e ?_
                            refine r_ex hX hP 2 (pc' := 176) (st' := [(0, (behind_109 + 1)), (2, (Ad E 1))]) (lo' := [(0, (2, (Ad E 1))), (1, (0, 0))]) rfl ?_
                            refine r_putIK hX hP rfl fp_12_349 hS (by omega) (by omega) (fun h173 => ?_)
                            refine r_ex hX hP 1 (pc' := 109) (st' := []) (lo' := [(0, (2, (Ad E 1))), (1, (0, 0))]) rfl ?_
                            refine r_eqG (X := X) (hq_up (hq_up (hq_base _ _ _ _) rfl) rfl) ?_
                            exact ih109 (behind_109 + 1) _ h173 (by omega) (by omega) (by omega)
                          · skip
                            refine r_ex hX hP 1 (pc' := 139) (st' := [(2, (Ad E 1)), (2, (Ad E 1))]) (lo' := [(0, (2, (Ad E 1))), (1, (0, 0))]) rfl ?_
                            refine r_getL hX hP rfl fl_12_364 hS (fun wf174 wf174e wf174a wf174b => ?_)
                            refine r_ldc2 hX hP rfl (v := 32) (tbg sg9 133 rfl rfl) ?_
                            refine r_ex hX hP 1 (pc' := 146) (st' := [(1, (wf174 * 32)), (2, (Ad E 1))]) (lo' := [(0, (2, (Ad E 1))), (1, (0, 0))]) rfl ?_
                            refine r_hvL hX (fun w175 w175a w175b w175e => ?_)
                            refine r_ex hX hP 2 (pc' := 148) (st' := [(2, (Ad E 1)), (2, (Ad E 1)), (1, w175), (2, (Ad E 1))]) (lo' := [(0, (2, (Ad E 1))), (1, (0, 0))]) rfl ?_
                            refine r_getKI hX hP rfl fl_12_349 hS (x := behind_109) behind_109_e ?_
                            refine r_callV gd hX hP rfl cv_12_355 hS (d' := 0) (mc' := 0) (ms' := 0) (as' := [(0, behind_109)]) (st := [(1, w175), (2, (Ad E 1))]) (by decide) (by decide) (by decide) rfl rfl (Nat.le_of_ble_eq_true rfl) (c_X12_look E S (hv [84, 87] [] (up (up (up (hv [83] [] (up G 1 (Ad E 1) 83 bf1) Gk8) 1 (Ad E 1) 84 at_8) 1 (Ad E 1) 82 1) 1 (Ad E 1) 87 0) Gk109) behind_109 hS tf3 tf3e (by omega) (by omega)) ?_
                            rintro _ _ _ ⟨rfl, rfl, z176, rfl, (⟨z176a, z176b, f177⟩ | ⟨rfl, f178⟩)⟩
                            · skip
                              refine r_i2l hX hP rfl (by omega) (by omega) ?_
                              refine r_ex hX hP 1 (pc' := 156) (st' := [(1, (w175 + z176)), (2, (Ad E 1))]) (lo' := [(0, (2, (Ad E 1))), (1, (0, 0))]) rfl ?_
                              refine r_hvL hX (fun w179 w179a w179b w179e => ?_)
                              refine r_ldc2 hX hP rfl (v := 96) (tbg sg9 134 rfl rfl) ?_
                              refine r_ex hX hP 1 (pc' := 160) (st' := [(1, (w179 - 96)), (2, (Ad E 1))]) (lo' := [(0, (2, (Ad E 1))), (1, (0, 0))]) rfl ?_
                              refine r_hvL hX (fun w180 w180a w180b w180e => ?_)
                              refine r_ex hX hP 1 (pc' := 166) (st' := [(1, w180), (2, (Ad E 1))]) (lo' := [(0, (2, (Ad E 1))), (1, (0, 0))]) rfl ?_
                              refine r_putLK hX hP rfl fp_12_364 hS (by omega) (by omega) (fun h181 => ?_)
                              refine r_ex hX hP 2 (pc' := 171) (st' := [(2, (Ad E 1)), (2, (Ad E 1))]) (lo' := [(0, (2, (Ad E 1))), (1, (0, 0))]) rfl ?_
                              refine r_getKI hX hP rfl fl_12_349 hS (x := behind_109) behind_109_e ?_
                              refine r_ex hX hP 2 (pc' := 176) (st' := [(0, (behind_109 + 1)), (2, (Ad E 1))]) (lo' := [(0, (2, (Ad E 1))), (1, (0, 0))]) rfl ?_
                              refine r_putIK hX hP rfl fp_12_349 hS (by omega) (by omega) (fun h182 => ?_)
                              refine r_ex hX hP 1 (pc' := 109) (st' := []) (lo' := [(0, (2, (Ad E 1))), (1, (0, 0))]) rfl ?_
                              refine r_eqG (X := X) (hq_up (hq_up (hq_base _ _ _ _) rfl) rfl) ?_
                              exact ih109 (behind_109 + 1) _ h182 (by omega) (by omega) (by omega)
                            · skip
                              refine r_i2l hX hP rfl (by omega) (by omega) ?_
                              refine r_ex hX hP 1 (pc' := 156) (st' := [(1, (w175 + 0)), (2, (Ad E 1))]) (lo' := [(0, (2, (Ad E 1))), (1, (0, 0))]) rfl ?_
                              refine r_ldc2 hX hP rfl (v := 96) (tbg sg9 134 rfl rfl) ?_
                              refine r_ex hX hP 1 (pc' := 160) (st' := [(1, ((w175 + 0) - 96)), (2, (Ad E 1))]) (lo' := [(0, (2, (Ad E 1))), (1, (0, 0))]) rfl ?_
                              refine r_hvL hX (fun w183 w183a w183b w183e => ?_)
                              refine r_ex hX hP 1 (pc' := 166) (st' := [(1, w183), (2, (Ad E 1))]) (lo' := [(0, (2, (Ad E 1))), (1, (0, 0))]) rfl ?_
                              refine r_putLK hX hP rfl fp_12_364 hS (by omega) (by omega) (fun h184 => ?_)
                              refine r_ex hX hP 2 (pc' := 171) (st' := [(2, (Ad E 1)), (2, (Ad E 1))]) (lo' := [(0, (2, (Ad E 1))), (1, (0, 0))]) rfl ?_
                              refine r_getKI hX hP rfl fl_12_349 hS (x := behind_109) behind_109_e ?_
                              refine r_ex hX hP 2 (pc' := 176) (st' := [(0, (behind_109 + 1)), (2, (Ad E 1))]) (lo' := [(0, (2, (Ad E 1))), (1, (0, 0))]) rfl ?_
                              refine r_putIK hX hP rfl fp_12_349 hS (by omega) (by omega) (fun h185 => ?_)
                              refine r_ex hX hP 1 (pc' := 109) (st' := []) (lo' := [(0, (2, (Ad E 1))), (1, (0, 0))]) rfl ?_
                              refine r_eqG (X := X) (hq_up (hq_up (hq_base _ _ _ _) rfl) rfl) ?_
                              exact ih109 (behind_109 + 1) _ h185 (by omega) (by omega) (by omega)
                      · skip
                        refine r_if_eq hX hP rfl (tgt := 182) rfl (by omega) (by omega) (fun c186 => ?_) (fun c186 => ?_)
                        · skip
                          refine r_ex hX hP 2 (pc' := 184) (st' := [(2, (Ad E 1)), (2, (Ad E 1))]) (lo' := [(0, (2, (Ad E 1))), (1, (0, 0))]) rfl ?_
                          refine r_getKI hX hP rfl fl_12_349 hS (x := behind_109) behind_109_e ?_
                          refine r_ex hX hP 1 (pc' := 188) (st' := [(2, (Ad E 1)), (0, behind_109), (2, (Ad E 1))]) (lo' := [(0, (2, (Ad E 1))), (1, (0, 0))]) rfl ?_
                          refine r_getKI hX hP rfl fl_12_352 hS (x := at_8) at_8_e ?_
                          refine r_ex hX hP 1 (pc' := 192) (st' := [(0, (behind_109 - at_8)), (2, (Ad E 1))]) (lo' := [(0, (2, (Ad E 1))), (1, (0, 0))]) rfl ?_
                          refine r_putIK hX hP rfl fp_12_373 hS (by omega) (by omega) (fun h187 => ?_)
                          refine r_ex hX hP 1 (pc' := 354) (st' := []) (lo' := [(0, (2, (Ad E 1))), (1, (0, 0))]) rfl ?_
                          exact r_retV hX hP rfl rfl (by omega) (by omega) ⟨rfl, ⟨_, (hq_up (hq_loop (hq_up (hq_up (hq_up (hq_loop (hq_up (hq_refl _ _ _) rfl) rfl) rfl) rfl) rfl) rfl) rfl).symm⟩, rfl, trivial⟩
                        · skip
                          exfalso; omega
                refine r_eqG (X := X) (hq_refl [84, 87] [] _) ?_
                exact loop109 ((400 - at_8) + 1).toNat at_8 _ h5 (by omega) (by omega) (by omega)
            · skip
              refine r_if_eq hX hP rfl (tgt := 198) rfl (by omega) (by omega) (fun c188 => ?_) (fun c188 => ?_)
              · skip
                refine r_ex hX hP 1 (pc' := 199) (st' := [(0, 0)]) (lo' := [(0, (2, (Ad E 1))), (1, (0, 0))]) rfl ?_
                refine r_callS gd hX hP rfl cs_12_376 (d' := 0) (mc' := 0) (ms' := 0) (as' := [(0, 0)]) (st := []) (by decide) (by decide) (by decide) rfl rfl (Nat.le_of_ble_eq_true rfl) (c_X12_isDigit E S (up (hv [83] [] (up G 1 (Ad E 1) 83 bf1) Gk8) 1 (Ad E 1) 84 at_8) 0 (by omega) (by omega)) ?_
                rintro _ _ _ ⟨rfl, rfl, z189, rfl, (⟨rfl, f190, f191⟩ | ⟨rfl, f192⟩)⟩
                · skip
                  refine r_if_eq hX hP rfl (tgt := 300) rfl (by omega) (by omega) (fun c193 => ?_) (fun c193 => ?_)
                  · skip
                    exfalso; omega
                  · skip
                    refine r_ex hX hP 2 (pc' := 207) (st' := [(0, 0), (2, (Ad E 1))]) (lo' := [(0, (2, (Ad E 1))), (1, (0, 0))]) rfl ?_
                    refine r_putIK hX hP rfl fp_12_379 hS (by omega) (by omega) (fun h194 => ?_)
                    have loop210 : ∀ (n : Nat) (behind_210 : Int) (Gk210 : Gh), behind_210 = (hv [84, 85] [] (up (up (hv [83] [] (up G 1 (Ad E 1) 83 bf1) Gk8) 1 (Ad E 1) 84 at_8) 1 (Ad E 1) 85 0) Gk210) 1 (Ad E 1) 84 → 0 ≤ behind_210 → behind_210 ≤ 400 → 400 - behind_210 < (n : Int) → X 0 0 210 [] [(0, (2, (Ad E 1))), (1, (0, 0))] S (hv [84, 85] [] (up (up (hv [83] [] (up G 1 (Ad E 1) 83 bf1) Gk8) 1 (Ad E 1) 84 at_8) 1 (Ad E 1) 85 0) Gk210) := by
                      intro n
                      induction n with
                      | zero => intro behind_210 Gk210 behind_210_e y210_0 y210_1 ym210; exfalso; omega
                      | succ n ih210 =>
                        intro behind_210 Gk210 behind_210_e y210_0 y210_1 ym210
                        refine r_ex hX hP 2 (pc' := 212) (st' := [(2, (Ad E 1)), (2, (Ad E 1))]) (lo' := [(0, (2, (Ad E 1))), (1, (0, 0))]) rfl ?_
                        refine r_getKI hX hP rfl fl_12_349 hS (x := behind_210) behind_210_e ?_
                        refine r_callV gd hX hP rfl cv_12_355 hS (d' := 0) (mc' := 0) (ms' := 0) (as' := [(0, behind_210)]) (st := []) (by decide) (by decide) (by decide) rfl rfl (Nat.le_of_ble_eq_true rfl) (c_X12_look E S (hv [84, 85] [] (up (up (hv [83] [] (up G 1 (Ad E 1) 83 bf1) Gk8) 1 (Ad E 1) 84 at_8) 1 (Ad E 1) 85 0) Gk210) behind_210 hS tf3 tf3e (by omega) (by omega)) ?_
                        rintro _ _ _ ⟨rfl, rfl, z195, rfl, (⟨z195a, z195b, f196⟩ | ⟨rfl, f197⟩)⟩
                        · skip
                          refine r_callS gd hX hP rfl cs_12_376 (d' := 0) (mc' := 0) (ms' := 0) (as' := [(0, z195)]) (st := []) (by decide) (by decide) (by decide) rfl rfl (Nat.le_of_ble_eq_true rfl) (c_X12_isDigit E S (hv [84, 85] [] (up (up (hv [83] [] (up G 1 (Ad E 1) 83 bf1) Gk8) 1 (Ad E 1) 84 at_8) 1 (Ad E 1) 85 0) Gk210) z195 (by omega) (by omega)) ?_
                          rintro _ _ _ ⟨rfl, rfl, z198, rfl, (⟨rfl, f199, f200⟩ | ⟨rfl, f201⟩)⟩
                          · skip
                            refine r_if_eq hX hP rfl (tgt := 274) rfl (by omega) (by omega) (fun c202 => ?_) (fun c202 => ?_)
                            · skip
                              exfalso; omega
                            · skip
                              refine r_ex hX hP 1 (pc' := 225) (st' := [(2, (Ad E 1))]) (lo' := [(0, (2, (Ad E 1))), (1, (0, 0))]) rfl ?_
                              refine r_getKI hX hP rfl fl_12_349 hS (x := behind_210) behind_210_e ?_
                              refine r_ex hX hP 1 (pc' := 229) (st' := [(2, (Ad E 1)), (0, behind_210)]) (lo' := [(0, (2, (Ad E 1))), (1, (0, 0))]) rfl ?_
                              refine r_getKI hX hP rfl fl_12_352 hS (x := at_8) at_8_e ?_
                              refine r_ex hX hP 2 (pc' := 235) (st' := [(0, 7), (0, (behind_210 - at_8))]) (lo' := [(0, (2, (Ad E 1))), (1, (0, 0))]) rfl ?_
                              refine r_ic_ge hX hP rfl (tgt := 261) rfl (by omega) (by omega) (by omega) (by omega) (fun c203 => ?_) (fun c203 => ?_)
                              · skip
                                refine r_ex hX hP 2 (pc' := 263) (st' := [(2, (Ad E 1)), (2, (Ad E 1))]) (lo' := [(0, (2, (Ad E 1))), (1, (0, 0))]) rfl ?_
                                refine r_getKI hX hP rfl fl_12_349 hS (x := behind_210) behind_210_e ?_
                                refine r_ex hX hP 2 (pc' := 268) (st' := [(0, (behind_210 + 1)), (2, (Ad E 1))]) (lo' := [(0, (2, (Ad E 1))), (1, (0, 0))]) rfl ?_
                                refine r_putIK hX hP rfl fp_12_349 hS (by omega) (by omega) (fun h204 => ?_)
                                refine r_ex hX hP 1 (pc' := 210) (st' := []) (lo' := [(0, (2, (Ad E 1))), (1, (0, 0))]) rfl ?_
                                refine r_eqG (X := X) (hq_up (hq_base _ _ _ _) rfl) ?_
                                exact ih210 (behind_210 + 1) _ h204 (by omega) (by omega) (by omega)
                              · skip
                                refine r_ex hX hP 3 (pc' := 242) (st' := [(2, (Ad E 1)), (0, 10), (2, (Ad E 1))]) (lo' := [(0, (2, (Ad E 1))), (1, (0, 0))]) rfl ?_
                                refine r_getI hX hP rfl fl_12_379 hS (fun nf205 nf205e nf205a nf205b => ?_)
                                refine r_ex hX hP 1 (pc' := 246) (st' := [(0, (10 * nf205)), (2, (Ad E 1))]) (lo' := [(0, (2, (Ad E 1))), (1, (0, 0))]) rfl ?_
                                refine r_hvI hX (fun w206 w206a w206b w206e => ?_)
                                refine r_ex hX hP 2 (pc' := 248) (st' := [(2, (Ad E 1)), (2, (Ad E 1)), (0, w206), (2, (Ad E 1))]) (lo' := [(0, (2, (Ad E 1))), (1, (0, 0))]) rfl ?_
                                refine r_getKI hX hP rfl fl_12_349 hS (x := behind_210) behind_210_e ?_
                                refine r_callV gd hX hP rfl cv_12_355 hS (d' := 0) (mc' := 0) (ms' := 0) (as' := [(0, behind_210)]) (st := [(0, w206), (2, (Ad E 1))]) (by decide) (by decide) (by decide) rfl rfl (Nat.le_of_ble_eq_true rfl) (c_X12_look E S (hv [84, 85] [] (up (up (hv [83] [] (up G 1 (Ad E 1) 83 bf1) Gk8) 1 (Ad E 1) 84 at_8) 1 (Ad E 1) 85 0) Gk210) behind_210 hS tf3 tf3e (by omega) (by omega)) ?_
                                rintro _ _ _ ⟨rfl, rfl, z207, rfl, (⟨z207a, z207b, f208⟩ | ⟨rfl, f209⟩)⟩
                                · skip
                                  refine r_ex hX hP 1 (pc' := 255) (st' := [(0, (w206 + z207)), (2, (Ad E 1))]) (lo' := [(0, (2, (Ad E 1))), (1, (0, 0))]) rfl ?_
                                  refine r_hvI hX (fun w210 w210a w210b w210e => ?_)
                                  refine r_ex hX hP 2 (pc' := 258) (st' := [(0, (w210 - 48)), (2, (Ad E 1))]) (lo' := [(0, (2, (Ad E 1))), (1, (0, 0))]) rfl ?_
                                  refine r_hvI hX (fun w211 w211a w211b w211e => ?_)
                                  refine r_putIK hX hP rfl fp_12_379 hS (by omega) (by omega) (fun h212 => ?_)
                                  refine r_ex hX hP 2 (pc' := 263) (st' := [(2, (Ad E 1)), (2, (Ad E 1))]) (lo' := [(0, (2, (Ad E 1))), (1, (0, 0))]) rfl ?_
                                  refine r_getKI hX hP rfl fl_12_349 hS (x := behind_210) behind_210_e ?_
                                  refine r_ex hX hP 2 (pc' := 268) (st' := [(0, (behind_210 + 1)), (2, (Ad E 1))]) (lo' := [(0, (2, (Ad E 1))), (1, (0, 0))]) rfl ?_
                                  refine r_putIK hX hP rfl fp_12_349 hS (by omega) (by omega) (fun h213 => ?_)
                                  refine r_ex hX hP 1 (pc' := 210) (st' := []) (lo' := [(0, (2, (Ad E 1))), (1, (0, 0))]) rfl ?_
                                  refine r_eqG (X := X) (hq_up (hq_up (hq_base _ _ _ _) rfl) rfl) ?_
                                  exact ih210 (behind_210 + 1) _ h213 (by omega) (by omega) (by omega)
                                · skip
                                  refine r_ex hX hP 3 (pc' := 258) (st' := [(0, ((w206 + 0) - 48)), (2, (Ad E 1))]) (lo' := [(0, (2, (Ad E 1))), (1, (0, 0))]) rfl ?_
                                  refine r_hvI hX (fun w214 w214a w214b w214e => ?_)
                                  refine r_putIK hX hP rfl fp_12_379 hS (by omega) (by omega) (fun h215 => ?_)
                                  refine r_ex hX hP 2 (pc' := 263) (st' := [(2, (Ad E 1)), (2, (Ad E 1))]) (lo' := [(0, (2, (Ad E 1))), (1, (0, 0))]) rfl ?_
                                  refine r_getKI hX hP rfl fl_12_349 hS (x := behind_210) behind_210_e ?_
                                  refine r_ex hX hP 2 (pc' := 268) (st' := [(0, (behind_210 + 1)), (2, (Ad E 1))]) (lo' := [(0, (2, (Ad E 1))), (1, (0, 0))]) rfl ?_
                                  refine r_putIK hX hP rfl fp_12_349 hS (by omega) (by omega) (fun h216 => ?_)
                                  refine r_ex hX hP 1 (pc' := 210) (st' := []) (lo' := [(0, (2, (Ad E 1))), (1, (0, 0))]) rfl ?_
                                  refine r_eqG (X := X) (hq_up (hq_up (hq_base _ _ _ _) rfl) rfl) ?_
                                  exact ih210 (behind_210 + 1) _ h216 (by omega) (by omega) (by omega)
                          · skip
                            refine r_if_eq hX hP rfl (tgt := 274) rfl (by omega) (by omega) (fun c217 => ?_) (fun c217 => ?_)
                            · skip
                              refine r_ex hX hP 2 (pc' := 276) (st' := [(2, (Ad E 1)), (2, (Ad E 1))]) (lo' := [(0, (2, (Ad E 1))), (1, (0, 0))]) rfl ?_
                              refine r_getKI hX hP rfl fl_12_349 hS (x := behind_210) behind_210_e ?_
                              refine r_ex hX hP 1 (pc' := 280) (st' := [(2, (Ad E 1)), (0, behind_210), (2, (Ad E 1))]) (lo' := [(0, (2, (Ad E 1))), (1, (0, 0))]) rfl ?_
                              refine r_getKI hX hP rfl fl_12_352 hS (x := at_8) at_8_e ?_
                              refine r_ex hX hP 2 (pc' := 286) (st' := [(0, 7), (0, (behind_210 - at_8)), (2, (Ad E 1))]) (lo' := [(0, (2, (Ad E 1))), (1, (0, 0))]) rfl ?_
                              refine r_ic_le hX hP rfl (tgt := 293) rfl (by omega) (by omega) (by omega) (by omega) (fun c218 => ?_) (fun c218 => ?_)
                              · skip
                                refine r_ex hX hP 1 (pc' := 294) (st' := [(0, 2), (2, (Ad E 1))]) (lo' := [(0, (2, (Ad E 1))), (1, (0, 0))]) rfl ?_
                                refine r_putIK hX hP rfl fp_12_358 hS (by omega) (by omega) (fun h219 => ?_)
                                refine r_ex hX hP 1 (pc' := 354) (st' := []) (lo' := [(0, (2, (Ad E 1))), (1, (0, 0))]) rfl ?_
                                exact r_retV hX hP rfl rfl (by omega) (by omega) ⟨rfl, ⟨_, (hq_up (hq_loop (hq_up (hq_up (hq_loop (hq_up (hq_refl _ _ _) rfl) rfl) rfl) rfl) rfl) rfl).symm⟩, rfl, trivial⟩
                              · skip
                                refine r_ex hX hP 2 (pc' := 294) (st' := [(0, 4), (2, (Ad E 1))]) (lo' := [(0, (2, (Ad E 1))), (1, (0, 0))]) rfl ?_
                                refine r_putIK hX hP rfl fp_12_358 hS (by omega) (by omega) (fun h220 => ?_)
                                refine r_ex hX hP 1 (pc' := 354) (st' := []) (lo' := [(0, (2, (Ad E 1))), (1, (0, 0))]) rfl ?_
                                exact r_retV hX hP rfl rfl (by omega) (by omega) ⟨rfl, ⟨_, (hq_up (hq_loop (hq_up (hq_up (hq_loop (hq_up (hq_refl _ _ _) rfl) rfl) rfl) rfl) rfl) rfl).symm⟩, rfl, trivial⟩
                            · skip
                              exfalso; omega
                        · skip
                          refine r_callS gd hX hP rfl cs_12_376 (d' := 0) (mc' := 0) (ms' := 0) (as' := [(0, 0)]) (st := []) (by decide) (by decide) (by decide) rfl rfl (Nat.le_of_ble_eq_true rfl) (c_X12_isDigit E S (hv [84, 85] [] (up (up (hv [83] [] (up G 1 (Ad E 1) 83 bf1) Gk8) 1 (Ad E 1) 84 at_8) 1 (Ad E 1) 85 0) Gk210) 0 (by omega) (by omega)) ?_
                          rintro _ _ _ ⟨rfl, rfl, z221, rfl, (⟨rfl, f222, f223⟩ | ⟨rfl, f224⟩)⟩
                          · skip
                            refine r_if_eq hX hP rfl (tgt := 274) rfl (by omega) (by omega) (fun c225 => ?_) (fun c225 => ?_)
                            · skip
                              exfalso; omega
                            · skip
                              refine r_ex hX hP 1 (pc' := 225) (st' := [(2, (Ad E 1))]) (lo' := [(0, (2, (Ad E 1))), (1, (0, 0))]) rfl ?_
                              refine r_getKI hX hP rfl fl_12_349 hS (x := behind_210) behind_210_e ?_
                              refine r_ex hX hP 1 (pc' := 229) (st' := [(2, (Ad E 1)), (0, behind_210)]) (lo' := [(0, (2, (Ad E 1))), (1, (0, 0))]) rfl ?_
                              refine r_getKI hX hP rfl fl_12_352 hS (x := at_8) at_8_e ?_
                              refine r_ex hX hP 2 (pc' := 235) (st' := [(0, 7), (0, (behind_210 - at_8))]) (lo' := [(0, (2, (Ad E 1))), (1, (0, 0))]) rfl ?_
                              refine r_ic_ge hX hP rfl (tgt := 261) rfl (by omega) (by omega) (by omega) (by omega) (fun c226 => ?_) (fun c226 => ?_)
                              · skip
                                refine r_ex hX hP 2 (pc' := 263) (st' := [(2, (Ad E 1)), (2, (Ad E 1))]) (lo' := [(0, (2, (Ad E 1))), (1, (0, 0))]) rfl ?_
                                refine r_getKI hX hP rfl fl_12_349 hS (x := behind_210) behind_210_e ?_
                                refine r_ex hX hP 2 (pc' := 268) (st' := [(0, (behind_210 + 1)), (2, (Ad E 1))]) (lo' := [(0, (2, (Ad E 1))), (1, (0, 0))]) rfl ?_
                                refine r_putIK hX hP rfl fp_12_349 hS (by omega) (by omega) (fun h227 => ?_)
                                refine r_ex hX hP 1 (pc' := 210) (st' := []) (lo' := [(0, (2, (Ad E 1))), (1, (0, 0))]) rfl ?_
                                refine r_eqG (X := X) (hq_up (hq_base _ _ _ _) rfl) ?_
                                exact ih210 (behind_210 + 1) _ h227 (by omega) (by omega) (by omega)
                              · skip
                                refine r_ex hX hP 3 (pc' := 242) (st' := [(2, (Ad E 1)), (0, 10), (2, (Ad E 1))]) (lo' := [(0, (2, (Ad E 1))), (1, (0, 0))]) rfl ?_
                                refine r_getI hX hP rfl fl_12_379 hS (fun nf228 nf228e nf228a nf228b => ?_)
                                refine r_ex hX hP 1 (pc' := 246) (st' := [(0, (10 * nf228)), (2, (Ad E 1))]) (lo' := [(0, (2, (Ad E 1))), (1, (0, 0))]) rfl ?_
                                refine r_hvI hX (fun w229 w229a w229b w229e => ?_)
                                refine r_ex hX hP 2 (pc' := 248) (st' := [(2, (Ad E 1)), (2, (Ad E 1)), (0, w229), (2, (Ad E 1))]) (lo' := [(0, (2, (Ad E 1))), (1, (0, 0))]) rfl ?_
                                refine r_getKI hX hP rfl fl_12_349 hS (x := behind_210) behind_210_e ?_
                                refine r_callV gd hX hP rfl cv_12_355 hS (d' := 0) (mc' := 0) (ms' := 0) (as' := [(0, behind_210)]) (st := [(0, w229), (2, (Ad E 1))]) (by decide) (by decide) (by decide) rfl rfl (Nat.le_of_ble_eq_true rfl) (c_X12_look E S (hv [84, 85] [] (up (up (hv [83] [] (up G 1 (Ad E 1) 83 bf1) Gk8) 1 (Ad E 1) 84 at_8) 1 (Ad E 1) 85 0) Gk210) behind_210 hS tf3 tf3e (by omega) (by omega)) ?_
                                rintro _ _ _ ⟨rfl, rfl, z230, rfl, (⟨z230a, z230b, f231⟩ | ⟨rfl, f232⟩)⟩
                                · skip
                                  refine r_ex hX hP 1 (pc' := 255) (st' := [(0, (w229 + z230)), (2, (Ad E 1))]) (lo' := [(0, (2, (Ad E 1))), (1, (0, 0))]) rfl ?_
                                  refine r_hvI hX (fun w233 w233a w233b w233e => ?_)
                                  refine r_ex hX hP 2 (pc' := 258) (st' := [(0, (w233 - 48)), (2, (Ad E 1))]) (lo' := [(0, (2, (Ad E 1))), (1, (0, 0))]) rfl ?_
                                  refine r_hvI hX (fun w234 w234a w234b w234e => ?_)
                                  refine r_putIK hX hP rfl fp_12_379 hS (by omega) (by omega) (fun h235 => ?_)
                                  refine r_ex hX hP 2 (pc' := 263) (st' := [(2, (Ad E 1)), (2, (Ad E 1))]) (lo' := [(0, (2, (Ad E 1))), (1, (0, 0))]) rfl ?_
                                  refine r_getKI hX hP rfl fl_12_349 hS (x := behind_210) behind_210_e ?_
                                  refine r_ex hX hP 2 (pc' := 268) (st' := [(0, (behind_210 + 1)), (2, (Ad E 1))]) (lo' := [(0, (2, (Ad E 1))), (1, (0, 0))]) rfl ?_
                                  refine r_putIK hX hP rfl fp_12_349 hS (by omega) (by omega) (fun h236 => ?_)
                                  refine r_ex hX hP 1 (pc' := 210) (st' := []) (lo' := [(0, (2, (Ad E 1))), (1, (0, 0))]) rfl ?_
                                  refine r_eqG (X := X) (hq_up (hq_up (hq_base _ _ _ _) rfl) rfl) ?_
                                  exact ih210 (behind_210 + 1) _ h236 (by omega) (by omega) (by omega)
                                · skip
                                  refine r_ex hX hP 3 (pc' := 258) (st' := [(0, ((w229 + 0) - 48)), (2, (Ad E 1))]) (lo' := [(0, (2, (Ad E 1))), (1, (0, 0))]) rfl ?_
                                  refine r_hvI hX (fun w237 w237a w237b w237e => ?_)
                                  refine r_putIK hX hP rfl fp_12_379 hS (by omega) (by omega) (fun h238 => ?_)
                                  refine r_ex hX hP 2 (pc' := 263) (st' := [(2, (Ad E 1)), (2, (Ad E 1))]) (lo' := [(0, (2, (Ad E 1))), (1, (0, 0))]) rfl ?_
                                  refine r_getKI hX hP rfl fl_12_349 hS (x := behind_210) behind_210_e ?_
                                  refine r_ex hX hP 2 (pc' := 268) (st' := [(0, (behind_210 + 1)), (2, (Ad E 1))]) (lo' := [(0, (2, (Ad E 1))), (1, (0, 0))]) rfl ?_
                                  refine r_putIK hX hP rfl fp_12_349 hS (by omega) (by omega) (fun h239 => ?_)
                                  refine r_ex hX hP 1 (pc' := 210) (st' := []) (lo' := [(0, (2, (Ad E 1))), (1, (0, 0))]) rfl ?_
                                  refine r_eqG (X := X) (hq_up (hq_up (hq_base _ _ _ _) rfl) rfl) ?_
                                  exact ih210 (behind_210 + 1) _ h239 (by omega) (by omega) (by omega)
                          · skip
                            refine r_if_eq hX hP rfl (tgt := 274) rfl (by omega) (by omega) (fun c240 => ?_) (fun c240 => ?_)
                            · skip
                              refine r_ex hX hP 2 (pc' := 276) (st' := [(2, (Ad E 1)), (2, (Ad E 1))]) (lo' := [(0, (2, (Ad E 1))), (1, (0, 0))]) rfl ?_
                              refine r_getKI hX hP rfl fl_12_349 hS (x := behind_210) behind_210_e ?_
                              refine r_ex hX hP 1 (pc' := 280) (st' := [(2, (Ad E 1)), (0, behind_210), (2, (Ad E 1))]) (lo' := [(0, (2, (Ad E 1))), (1, (0, 0))]) rfl ?_
                              refine r_getKI hX hP rfl fl_12_352 hS (x := at_8) at_8_e ?_
                              refine r_ex hX hP 2 (pc' := 286) (st' := [(0, 7), (0, (behind_210 - at_8)), (2, (Ad E 1))]) (lo' := [(0, (2, (Ad E 1))), (1, (0, 0))]) rfl ?_
                              refine r_ic_le hX hP rfl (tgt := 293) rfl (by omega) (by omega) (by omega) (by omega) (fun c241 => ?_) (fun c241 => ?_)
                              · skip
                                refine r_ex hX hP 1 (pc' := 294) (st' := [(0, 2), (2, (Ad E 1))]) (lo' := [(0, (2, (Ad E 1))), (1, (0, 0))]) rfl ?_
                                refine r_putIK hX hP rfl fp_12_358 hS (by omega) (by omega) (fun h242 => ?_)
                                refine r_ex hX hP 1 (pc' := 354) (st' := []) (lo' := [(0, (2, (Ad E 1))), (1, (0, 0))]) rfl ?_
                                exact r_retV hX hP rfl rfl (by omega) (by omega) ⟨rfl, ⟨_, (hq_up (hq_loop (hq_up (hq_up (hq_loop (hq_up (hq_refl _ _ _) rfl) rfl) rfl) rfl) rfl) rfl).symm⟩, rfl, trivial⟩
                              · skip
                                refine r_ex hX hP 2 (pc' := 294) (st' := [(0, 4), (2, (Ad E 1))]) (lo' := [(0, (2, (Ad E 1))), (1, (0, 0))]) rfl ?_
                                refine r_putIK hX hP rfl fp_12_358 hS (by omega) (by omega) (fun h243 => ?_)
                                refine r_ex hX hP 1 (pc' := 354) (st' := []) (lo' := [(0, (2, (Ad E 1))), (1, (0, 0))]) rfl ?_
                                exact r_retV hX hP rfl rfl (by omega) (by omega) ⟨rfl, ⟨_, (hq_up (hq_loop (hq_up (hq_up (hq_loop (hq_up (hq_refl _ _ _) rfl) rfl) rfl) rfl) rfl) rfl).symm⟩, rfl, trivial⟩
                            · skip
                              exfalso; omega
                    refine r_eqG (X := X) (hq_refl [84, 85] [] _) ?_
                    exact loop210 ((400 - at_8) + 1).toNat at_8 _ h5 (by omega) (by omega) (by omega)
                · skip
                  refine r_if_eq hX hP rfl (tgt := 300) rfl (by omega) (by omega) (fun c244 => ?_) (fun c244 => ?_)
                  · skip
                    refine r_ex hX hP 2 (pc' := 302) (st' := [(2, (Ad E 1)), (2, (Ad E 1))]) (lo' := [(0, (2, (Ad E 1))), (1, (0, 0))]) rfl ?_
                    refine r_getKI hX hP rfl fl_12_352 hS (x := at_8) at_8_e ?_
                    refine r_ex hX hP 2 (pc' := 307) (st' := [(0, (at_8 + 1)), (2, (Ad E 1))]) (lo' := [(0, (2, (Ad E 1))), (1, (0, 0))]) rfl ?_
                    refine r_putIK hX hP rfl fp_12_349 hS (by omega) (by omega) (fun h245 => ?_)
                    refine r_ex hX hP 2 (pc' := 312) (st' := [(0, 0), (2, (Ad E 1))]) (lo' := [(0, (2, (Ad E 1))), (1, (0, 0))]) rfl ?_
                    refine r_putIK hX hP rfl fp_12_379 hS (by omega) (by omega) (fun h246 => ?_)
                    refine r_ex hX hP 3 (pc' := 319) (st' := [(0, 59), (0, 0), (2, (Ad E 1))]) (lo' := [(0, (2, (Ad E 1))), (1, (0, 0))]) rfl ?_
                    refine r_ic_eq hX hP rfl (tgt := 346) rfl (by omega) (by omega) (by omega) (by omega) (fun c247 => ?_) (fun c247 => ?_)
                    · skip
                      exfalso; omega
                    · skip
                      refine r_ex hX hP 2 (pc' := 325) (st' := [(0, 123), (0, 0), (2, (Ad E 1))]) (lo' := [(0, (2, (Ad E 1))), (1, (0, 0))]) rfl ?_
                      refine r_ic_eq hX hP rfl (tgt := 346) rfl (by omega) (by omega) (by omega) (by omega) (fun c248 => ?_) (fun c248 => ?_)
                      · skip
                        exfalso; omega
                      · skip
                        refine r_ex hX hP 2 (pc' := 331) (st' := [(0, 125), (0, 0), (2, (Ad E 1))]) (lo' := [(0, (2, (Ad E 1))), (1, (0, 0))]) rfl ?_
                        refine r_ic_eq hX hP rfl (tgt := 346) rfl (by omega) (by omega) (by omega) (by omega) (fun c249 => ?_) (fun c249 => ?_)
                        · skip
                          exfalso; omega
                        · skip
                          refine r_ex hX hP 2 (pc' := 337) (st' := [(0, 60), (0, 0), (2, (Ad E 1))]) (lo' := [(0, (2, (Ad E 1))), (1, (0, 0))]) rfl ?_
                          refine r_ic_eq hX hP rfl (tgt := 346) rfl (by omega) (by omega) (by omega) (by omega) (fun c250 => ?_) (fun c250 => ?_)
                          · skip
                            exfalso; omega
                          · skip
                            refine r_ex hX hP 2 (pc' := 343) (st' := [(0, 62), (0, 0), (2, (Ad E 1))]) (lo' := [(0, (2, (Ad E 1))), (1, (0, 0))]) rfl ?_
                            refine r_ic_ne hX hP rfl (tgt := 350) rfl (by omega) (by omega) (by omega) (by omega) (fun c251 => ?_) (fun c251 => ?_)
                            · skip
                              refine r_ex hX hP 1 (pc' := 351) (st' := [(0, 4), (2, (Ad E 1))]) (lo' := [(0, (2, (Ad E 1))), (1, (0, 0))]) rfl ?_
                              refine r_putIK hX hP rfl fp_12_358 hS (by omega) (by omega) (fun h252 => ?_)
                              exact r_retV hX hP rfl rfl (by omega) (by omega) ⟨rfl, ⟨_, (hq_up (hq_up (hq_up (hq_up (hq_loop (hq_up (hq_refl _ _ _) rfl) rfl) rfl) rfl) rfl) rfl).symm⟩, rfl, trivial⟩
                            · skip
                              exfalso; omega
                  · skip
                    exfalso; omega
              · skip
                exfalso; omega
        · skip
          refine r_ex hX hP 2 (pc' := 79) (st' := [(0, 0), (2, (Ad E 1))]) (lo' := [(0, (2, (Ad E 1)))]) rfl ?_
          refine r_putIK hX hP rfl fp_12_358 hS (by omega) (by omega) (fun h253 => ?_)
          exact r_retV hX hP rfl rfl (by omega) (by omega) ⟨rfl, ⟨_, (hq_up (hq_up (hq_loop (hq_up (hq_refl _ _ _) rfl) rfl) rfl) rfl).symm⟩, rfl, trivial⟩
      · skip
        refine r_ex hX hP 2 (pc' := 21) (st' := [(2, (Ad E 1)), (2, (Ad E 1))]) (lo' := [(0, (2, (Ad E 1)))]) rfl ?_
        refine r_getKI hX hP rfl fl_12_352 hS (x := at_8) at_8_e ?_
        refine r_callV gd hX hP rfl cv_12_355 hS (d' := 0) (mc' := 0) (ms' := 0) (as' := [(0, at_8)]) (st := []) (by decide) (by decide) (by decide) rfl rfl (Nat.le_of_ble_eq_true rfl) (c_X12_look E S (hv [83] [] (up G 1 (Ad E 1) 83 bf1) Gk8) at_8 hS tf3 tf3e (by omega) (by omega)) ?_
        rintro _ _ _ ⟨rfl, rfl, z254, rfl, (⟨z254a, z254b, f255⟩ | ⟨rfl, f256⟩)⟩
        · skip
          refine r_ex hX hP 1 (pc' := 29) (st' := [(0, 10), (0, z254)]) (lo' := [(0, (2, (Ad E 1)))]) rfl ?_
          refine r_ic_eq hX hP rfl (tgt := 45) rfl (by omega) (by omega) (by omega) (by omega) (fun c257 => ?_) (fun c257 => ?_)
          · skip
            refine r_ex hX hP 2 (pc' := 47) (st' := [(2, (Ad E 1)), (2, (Ad E 1))]) (lo' := [(0, (2, (Ad E 1)))]) rfl ?_
            refine r_getKI hX hP rfl fl_12_352 hS (x := at_8) at_8_e ?_
            refine r_ex hX hP 2 (pc' := 52) (st' := [(0, (at_8 + 1)), (2, (Ad E 1))]) (lo' := [(0, (2, (Ad E 1)))]) rfl ?_
            refine r_putIK hX hP rfl fp_12_352 hS (by omega) (by omega) (fun h258 => ?_)
            refine r_ex hX hP 1 (pc' := 8) (st' := []) (lo' := [(0, (2, (Ad E 1)))]) rfl ?_
            refine r_eqG (X := X) (hq_up (hq_base _ _ _ _) rfl) ?_
            exact ih8 (at_8 + 1) _ h258 (by omega) (by omega) (by omega)
          · skip
            refine r_ex hX hP 2 (pc' := 34) (st' := [(2, (Ad E 1)), (2, (Ad E 1))]) (lo' := [(0, (2, (Ad E 1)))]) rfl ?_
            refine r_getKI hX hP rfl fl_12_352 hS (x := at_8) at_8_e ?_
            refine r_callV gd hX hP rfl cv_12_355 hS (d' := 0) (mc' := 0) (ms' := 0) (as' := [(0, at_8)]) (st := []) (by decide) (by decide) (by decide) rfl rfl (Nat.le_of_ble_eq_true rfl) (c_X12_look E S (hv [83] [] (up G 1 (Ad E 1) 83 bf1) Gk8) at_8 hS tf3 tf3e (by omega) (by omega)) ?_
            rintro _ _ _ ⟨rfl, rfl, z259, rfl, (⟨z259a, z259b, f260⟩ | ⟨rfl, f261⟩)⟩
            · skip
              refine r_ex hX hP 1 (pc' := 42) (st' := [(0, 32), (0, z259)]) (lo' := [(0, (2, (Ad E 1)))]) rfl ?_
              refine r_ic_ne hX hP rfl (tgt := 58) rfl (by omega) (by omega) (by omega) (by omega) (fun c262 => ?_) (fun c262 => ?_)
              · skip
                refine r_ex hX hP 2 (pc' := 60) (st' := [(2, (Ad E 1)), (2, (Ad E 1))]) (lo' := [(0, (2, (Ad E 1)))]) rfl ?_
                refine r_getKI hX hP rfl fl_12_352 hS (x := at_8) at_8_e ?_
                refine r_putIK hX hP rfl fp_12_349 hS (by omega) (by omega) (fun h263 => ?_)
                refine r_ex hX hP 1 (pc' := 67) (st' := [(2, (Ad E 1))]) (lo' := [(0, (2, (Ad E 1)))]) rfl ?_
                refine r_getKI hX hP rfl fl_12_352 hS (x := at_8) at_8_e ?_
                refine r_ex hX hP 1 (pc' := 71) (st' := [(2, (Ad E 1)), (0, at_8)]) (lo' := [(0, (2, (Ad E 1)))]) rfl ?_
                refine r_getKI hX hP rfl fl_12_346 hS (x := tf3) tf3e ?_
                refine r_ic_lt hX hP rfl (tgt := 83) rfl (by omega) (by omega) (by omega) (by omega) (fun c264 => ?_) (fun c264 => ?_)
                · skip
                  refine r_ex hX hP 2 (pc' := 85) (st' := [(2, (Ad E 1)), (2, (Ad E 1))]) (lo' := [(0, (2, (Ad E 1)))]) rfl ?_
                  refine r_getKI hX hP rfl fl_12_352 hS (x := at_8) at_8_e ?_
                  refine r_callV gd hX hP rfl cv_12_355 hS (d' := 0) (mc' := 0) (ms' := 0) (as' := [(0, at_8)]) (st := []) (by decide) (by decide) (by decide) rfl rfl (Nat.le_of_ble_eq_true rfl) (c_X12_look E S (up (hv [83] [] (up G 1 (Ad E 1) 83 bf1) Gk8) 1 (Ad E 1) 84 at_8) at_8 hS tf3 tf3e (by omega) (by omega)) ?_
                  rintro _ _ _ ⟨rfl, rfl, z265, rfl, (⟨z265a, z265b, f266⟩ | ⟨rfl, f267⟩)⟩
                  · skip
                    refine r_ex hX hP 2 (pc' := 93) (st' := [(0, z265)]) (lo' := [(0, (2, (Ad E 1))), (1, (0, z265))]) rfl ?_
                    refine r_callS gd hX hP rfl cs_12_361 (d' := 0) (mc' := 0) (ms' := 0) (as' := [(0, z265)]) (st := []) (by decide) (by decide) (by decide) rfl rfl (Nat.le_of_ble_eq_true rfl) (c_X12_isLetter E S (up (hv [83] [] (up G 1 (Ad E 1) 83 bf1) Gk8) 1 (Ad E 1) 84 at_8) z265 (by omega) (by omega)) ?_
                    rintro _ _ _ ⟨rfl, rfl, z268, rfl, (⟨rfl, f269, f270⟩ | ⟨rfl, f271⟩)⟩
                    · skip
                      refine r_if_eq hX hP rfl (tgt := 198) rfl (by omega) (by omega) (fun c272 => ?_) (fun c272 => ?_)
                      · skip
                        exfalso; omega
                      · skip
                        refine r_ex hX hP 2 (pc' := 101) (st' := [(0, 1), (2, (Ad E 1))]) (lo' := [(0, (2, (Ad E 1))), (1, (0, z265))]) rfl ?_
                        refine r_putIK hX hP rfl fp_12_358 hS (by omega) (by omega) (fun h273 => ?_)
                        refine r_ex hX hP 2 (pc' := 106) (st' := [(1, 0), (2, (Ad E 1))]) (lo' := [(0, (2, (Ad E 1))), (1, (0, z265))]) rfl ?_
                        refine r_putLK hX hP rfl fp_12_364 hS (by omega) (by omega) (fun h274 => ?_)
                        have loop109 : ∀ (n : Nat) (behind_109 : Int) (Gk109 : Gh), behind_109 = (hv [84, 87] [] (up (up (up (hv [83] [] (up G 1 (Ad E 1) 83 bf1) Gk8) 1 (Ad E 1) 84 at_8) 1 (Ad E 1) 82 1) 1 (Ad E 1) 87 0) Gk109) 1 (Ad E 1) 84 → 0 ≤ behind_109 → behind_109 ≤ 400 → 400 - behind_109 < (n : Int) → X 0 0 109 [] [(0, (2, (Ad E 1))), (1, (0, z265))] S (hv [84, 87] [] (up (up (up (hv [83] [] (up G 1 (Ad E 1) 83 bf1) Gk8) 1 (Ad E 1) 84 at_8) 1 (Ad E 1) 82 1) 1 (Ad E 1) 87 0) Gk109) := by
                          intro n
                          induction n with
                          | zero => intro behind_109 Gk109 behind_109_e y109_0 y109_1 ym109; exfalso; omega
                          | succ n ih109 =>
                            intro behind_109 Gk109 behind_109_e y109_0 y109_1 ym109
                            refine r_ex hX hP 2 (pc' := 111) (st' := [(2, (Ad E 1)), (2, (Ad E 1))]) (lo' := [(0, (2, (Ad E 1))), (1, (0, z265))]) rfl ?_
                            refine r_getKI hX hP rfl fl_12_349 hS (x := behind_109) behind_109_e ?_
                            refine r_callV gd hX hP rfl cv_12_355 hS (d' := 0) (mc' := 0) (ms' := 0) (as' := [(0, behind_109)]) (st := []) (by decide) (by decide) (by decide) rfl rfl (Nat.le_of_ble_eq_true rfl) (c_X12_look E S (hv [84, 87] [] (up (up (up (hv [83] [] (up G 1 (Ad E 1) 83 bf1) Gk8) 1 (Ad E 1) 84 at_8) 1 (Ad E 1) 82 1) 1 (Ad E 1) 87 0) Gk109) behind_109 hS tf3 tf3e (by omega) (by omega)) ?_
                            rintro _ _ _ ⟨rfl, rfl, z275, rfl, (⟨z275a, z275b, f276⟩ | ⟨rfl, f277⟩)⟩
                            · skip
                              refine r_callS gd hX hP rfl cs_12_361 (d' := 0) (mc' := 0) (ms' := 0) (as' := [(0, z275)]) (st := []) (by decide) (by decide) (by decide) rfl rfl (Nat.le_of_ble_eq_true rfl) (c_X12_isLetter E S (hv [84, 87] [] (up (up (up (hv [83] [] (up G 1 (Ad E 1) 83 bf1) Gk8) 1 (Ad E 1) 84 at_8) 1 (Ad E 1) 82 1) 1 (Ad E 1) 87 0) Gk109) z275 (by omega) (by omega)) ?_
                              rintro _ _ _ ⟨rfl, rfl, z278, rfl, (⟨rfl, f279, f280⟩ | ⟨rfl, f281⟩)⟩
                              · skip
                                refine r_if_eq hX hP rfl (tgt := 182) rfl (by omega) (by omega) (fun c282 => ?_) (fun c282 => ?_)
                                · skip
                                  exfalso; omega
                                · skip
                                  refine r_ex hX hP 2 (pc' := 125) (st' := [(2, (Ad E 1)), (2, (Ad E 1))]) (lo' := [(0, (2, (Ad E 1))), (1, (0, z265))]) rfl ?_
                                  refine r_getKI hX hP rfl fl_12_349 hS (x := behind_109) behind_109_e ?_
                                  refine r_ex hX hP 1 (pc' := 129) (st' := [(2, (Ad E 1)), (0, behind_109), (2, (Ad E 1))]) (lo' := [(0, (2, (Ad E 1))), (1, (0, z265))]) rfl ?_
                                  refine r_getKI hX hP rfl fl_12_352 hS (x := at_8) at_8_e ?_
                                  refine r_ex hX hP 2 (pc' := 135) (st' := [(0, 12), (0, (behind_109 - at_8)), (2, (Ad E 1))]) (lo' := [(0, (2, (Ad E 1))), (1, (0, z265))]) rfl ?_
                                  refine r_ic_ge hX hP rfl (tgt := 163) rfl (by omega) (by omega) (by omega) (by omega) (fun c283 => ?_) (fun c283 => ?_)
                                  · skip
                                    refine r_ldc2 hX hP rfl (v := (-1)) (tbg sg9 135 rfl rfl) ?_
                                    refine r_putLK hX hP rfl fp_12_364 hS (by omega) (by omega) (fun h284 => ?_)
                                    refine r_ex hX hP 2 (pc' := 171) (st' := [(2, (Ad E 1)), (2, (Ad E 1))]) (lo' := [(0, (2, (Ad E 1))), (1, (0, z265))]) rfl ?_
                                    refine r_getKI hX hP rfl fl_12_349 hS (x := behind_109) behind_109_e ?_
                                    refine r_ex hX hP 2 (pc' := 176) (st' := [(0, (behind_109 + 1)), (2, (Ad E 1))]) (lo' := [(0, (2, (Ad E 1))), (1, (0, z265))]) rfl ?_
                                    refine r_putIK hX hP rfl fp_12_349 hS (by omega) (by omega) (fun h285 => ?_)
                                    refine r_ex hX hP 1 (pc' := 109) (st' := []) (lo' := [(0, (2, (Ad E 1))), (1, (0, z265))]) rfl ?_
                                    refine r_eqG (X := X) (hq_up (hq_up (hq_base _ _ _ _) rfl) rfl) ?_
                                    exact ih109 (behind_109 + 1) _ h285 (by omega) (by omega) (by omega)
                                  · skip
                                    refine r_ex hX hP 1 (pc' := 139) (st' := [(2, (Ad E 1)), (2, (Ad E 1))]) (lo' := [(0, (2, (Ad E 1))), (1, (0, z265))]) rfl ?_
                                    refine r_getL hX hP rfl fl_12_364 hS (fun wf286 wf286e wf286a wf286b => ?_)
                                    refine r_ldc2 hX hP rfl (v := 32) (tbg sg9 133 rfl rfl) ?_
                                    refine r_ex hX hP 1 (pc' := 146) (st' := [(1, (wf286 * 32)), (2, (Ad E 1))]) (lo' := [(0, (2, (Ad E 1))), (1, (0, z265))]) rfl ?_
                                    refine r_hvL hX (fun w287 w287a w287b w287e => ?_)
                                    refine r_ex hX hP 2 (pc' := 148) (st' := [(2, (Ad E 1)), (2, (Ad E 1)), (1, w287), (2, (Ad E 1))]) (lo' := [(0, (2, (Ad E 1))), (1, (0, z265))]) rfl ?_
                                    refine r_getKI hX hP rfl fl_12_349 hS (x := behind_109) behind_109_e ?_
                                    refine r_callV gd hX hP rfl cv_12_355 hS (d' := 0) (mc' := 0) (ms' := 0) (as' := [(0, behind_109)]) (st := [(1, w287), (2, (Ad E 1))]) (by decide) (by decide) (by decide) rfl rfl (Nat.le_of_ble_eq_true rfl) (c_X12_look E S (hv [84, 87] [] (up (up (up (hv [83] [] (up G 1 (Ad E 1) 83 bf1) Gk8) 1 (Ad E 1) 84 at_8) 1 (Ad E 1) 82 1) 1 (Ad E 1) 87 0) Gk109) behind_109 hS tf3 tf3e (by omega) (by omega)) ?_
                                    rintro _ _ _ ⟨rfl, rfl, z288, rfl, (⟨z288a, z288b, f289⟩ | ⟨rfl, f290⟩)⟩
                                    · skip
                                      refine r_i2l hX hP rfl (by omega) (by omega) ?_
                                      refine r_ex hX hP 1 (pc' := 156) (st' := [(1, (w287 + z288)), (2, (Ad E 1))]) (lo' := [(0, (2, (Ad E 1))), (1, (0, z265))]) rfl ?_
                                      refine r_hvL hX (fun w291 w291a w291b w291e => ?_)
                                      refine r_ldc2 hX hP rfl (v := 96) (tbg sg9 134 rfl rfl) ?_
                                      refine r_ex hX hP 1 (pc' := 160) (st' := [(1, (w291 - 96)), (2, (Ad E 1))]) (lo' := [(0, (2, (Ad E 1))), (1, (0, z265))]) rfl ?_
                                      refine r_hvL hX (fun w292 w292a w292b w292e => ?_)
                                      refine r_ex hX hP 1 (pc' := 166) (st' := [(1, w292), (2, (Ad E 1))]) (lo' := [(0, (2, (Ad E 1))), (1, (0, z265))]) rfl ?_
                                      refine r_putLK hX hP rfl fp_12_364 hS (by omega) (by omega) (fun h293 => ?_)
                                      refine r_ex hX hP 2 (pc' := 171) (st' := [(2, (Ad E 1)), (2, (Ad E 1))]) (lo' := [(0, (2, (Ad E 1))), (1, (0, z265))]) rfl ?_
                                      refine r_getKI hX hP rfl fl_12_349 hS (x := behind_109) behind_109_e ?_
                                      refine r_ex hX hP 2 (pc' := 176) (st' := [(0, (behind_109 + 1)), (2, (Ad E 1))]) (lo' := [(0, (2, (Ad E 1))), (1, (0, z265))]) rfl ?_
                                      refine r_putIK hX hP rfl fp_12_349 hS (by omega) (by omega) (fun h294 => ?_)
                                      refine r_ex hX hP 1 (pc' := 109) (st' := []) (lo' := [(0, (2, (Ad E 1))), (1, (0, z265))]) rfl ?_
                                      refine r_eqG (X := X) (hq_up (hq_up (hq_base _ _ _ _) rfl) rfl) ?_
                                      exact ih109 (behind_109 + 1) _ h294 (by omega) (by omega) (by omega)
                                    · skip
                                      refine r_i2l hX hP rfl (by omega) (by omega) ?_
                                      refine r_ex hX hP 1 (pc' := 156) (st' := [(1, (w287 + 0)), (2, (Ad E 1))]) (lo' := [(0, (2, (Ad E 1))), (1, (0, z265))]) rfl ?_
                                      refine r_ldc2 hX hP rfl (v := 96) (tbg sg9 134 rfl rfl) ?_
                                      refine r_ex hX hP 1 (pc' := 160) (st' := [(1, ((w287 + 0) - 96)), (2, (Ad E 1))]) (lo' := [(0, (2, (Ad E 1))), (1, (0, z265))]) rfl ?_
                                      refine r_hvL hX (fun w295 w295a w295b w295e => ?_)
                                      refine r_ex hX hP 1 (pc' := 166) (st' := [(1, w295), (2, (Ad E 1))]) (lo' := [(0, (2, (Ad E 1))), (1, (0, z265))]) rfl ?_
                                      refine r_putLK hX hP rfl fp_12_364 hS (by omega) (by omega) (fun h296 => ?_)
                                      refine r_ex hX hP 2 (pc' := 171) (st' := [(2, (Ad E 1)), (2, (Ad E 1))]) (lo' := [(0, (2, (Ad E 1))), (1, (0, z265))]) rfl ?_
                                      refine r_getKI hX hP rfl fl_12_349 hS (x := behind_109) behind_109_e ?_
                                      refine r_ex hX hP 2 (pc' := 176) (st' := [(0, (behind_109 + 1)), (2, (Ad E 1))]) (lo' := [(0, (2, (Ad E 1))), (1, (0, z265))]) rfl ?_
                                      refine r_putIK hX hP rfl fp_12_349 hS (by omega) (by omega) (fun h297 => ?_)
                                      refine r_ex hX hP 1 (pc' := 109) (st' := []) (lo' := [(0, (2, (Ad E 1))), (1, (0, z265))]) rfl ?_
                                      refine r_eqG (X := X) (hq_up (hq_up (hq_base _ _ _ _) rfl) rfl) ?_
                                      exact ih109 (behind_109 + 1) _ h297 (by omega) (by omega) (by omega)
                              · skip
                                refine r_if_eq hX hP rfl (tgt := 182) rfl (by omega) (by omega) (fun c298 => ?_) (fun c298 => ?_)
                                · skip
                                  refine r_ex hX hP 2 (pc' := 184) (st' := [(2, (Ad E 1)), (2, (Ad E 1))]) (lo' := [(0, (2, (Ad E 1))), (1, (0, z265))]) rfl ?_
                                  refine r_getKI hX hP rfl fl_12_349 hS (x := behind_109) behind_109_e ?_
                                  refine r_ex hX hP 1 (pc' := 188) (st' := [(2, (Ad E 1)), (0, behind_109), (2, (Ad E 1))]) (lo' := [(0, (2, (Ad E 1))), (1, (0, z265))]) rfl ?_
                                  refine r_getKI hX hP rfl fl_12_352 hS (x := at_8) at_8_e ?_
                                  refine r_ex hX hP 1 (pc' := 192) (st' := [(0, (behind_109 - at_8)), (2, (Ad E 1))]) (lo' := [(0, (2, (Ad E 1))), (1, (0, z265))]) rfl ?_
                                  refine r_putIK hX hP rfl fp_12_373 hS (by omega) (by omega) (fun h299 => ?_)
                                  refine r_ex hX hP 1 (pc' := 354) (st' := []) (lo' := [(0, (2, (Ad E 1))), (1, (0, z265))]) rfl ?_
                                  exact r_retV hX hP rfl rfl (by omega) (by omega) ⟨rfl, ⟨_, (hq_up (hq_loop (hq_up (hq_up (hq_up (hq_loop (hq_up (hq_refl _ _ _) rfl) rfl) rfl) rfl) rfl) rfl) rfl).symm⟩, rfl, trivial⟩
                                · skip
                                  exfalso; omega
                            · skip
                              refine r_callS gd hX hP rfl cs_12_361 (d' := 0) (mc' := 0) (ms' := 0) (as' := [(0, 0)]) (st := []) (by decide) (by decide) (by decide) rfl rfl (Nat.le_of_ble_eq_true rfl) (c_X12_isLetter E S (hv [84, 87] [] (up (up (up (hv [83] [] (up G 1 (Ad E 1) 83 bf1) Gk8) 1 (Ad E 1) 84 at_8) 1 (Ad E 1) 82 1) 1 (Ad E 1) 87 0) Gk109) 0 (by omega) (by omega)) ?_
                              rintro _ _ _ ⟨rfl, rfl, z300, rfl, (⟨rfl, f301, f302⟩ | ⟨rfl, f303⟩)⟩
                              · skip
                                refine r_if_eq hX hP rfl (tgt := 182) rfl (by omega) (by omega) (fun c304 => ?_) (fun c304 => ?_)
                                · skip
                                  exfalso; omega
                                · skip
                                  refine r_ex hX hP 2 (pc' := 125) (st' := [(2, (Ad E 1)), (2, (Ad E 1))]) (lo' := [(0, (2, (Ad E 1))), (1, (0, z265))]) rfl ?_
                                  refine r_getKI hX hP rfl fl_12_349 hS (x := behind_109) behind_109_e ?_
                                  refine r_ex hX hP 1 (pc' := 129) (st' := [(2, (Ad E 1)), (0, behind_109), (2, (Ad E 1))]) (lo' := [(0, (2, (Ad E 1))), (1, (0, z265))]) rfl ?_
                                  refine r_getKI hX hP rfl fl_12_352 hS (x := at_8) at_8_e ?_
                                  refine r_ex hX hP 2 (pc' := 135) (st' := [(0, 12), (0, (behind_109 - at_8)), (2, (Ad E 1))]) (lo' := [(0, (2, (Ad E 1))), (1, (0, z265))]) rfl ?_
                                  refine r_ic_ge hX hP rfl (tgt := 163) rfl (by omega) (by omega) (by omega) (by omega) (fun c305 => ?_) (fun c305 => ?_)
                                  · skip
                                    refine r_ldc2 hX hP rfl (v := (-1)) (tbg sg9 135 rfl rfl) ?_
                                    refine r_putLK hX hP rfl fp_12_364 hS (by omega) (by omega) (fun h306 => ?_)
                                    refine r_ex hX hP 2 (pc' := 171) (st' := [(2, (Ad E 1)), (2, (Ad E 1))]) (lo' := [(0, (2, (Ad E 1))), (1, (0, z265))]) rfl ?_
                                    refine r_getKI hX hP rfl fl_12_349 hS (x := behind_109) behind_109_e ?_
                                    refine r_ex hX hP 2 (pc' := 176) (st' := [(0, (behind_109 + 1)), (2, (Ad E 1))]) (lo' := [(0, (2, (Ad E 1))), (1, (0, z265))]) rfl ?_
                                    refine r_putIK hX hP rfl fp_12_349 hS (by omega) (by omega) (fun h307 => ?_)
                                    refine r_ex hX hP 1 (pc' := 109) (st' := []) (lo' := [(0, (2, (Ad E 1))), (1, (0, z265))]) rfl ?_
                                    refine r_eqG (X := X) (hq_up (hq_up (hq_base _ _ _ _) rfl) rfl) ?_
                                    exact ih109 (behind_109 + 1) _ h307 (by omega) (by omega) (by omega)
                                  · skip
                                    refine r_ex hX hP 1 (pc' := 139) (st' := [(2, (Ad E 1)), (2, (Ad E 1))]) (lo' := [(0, (2, (Ad E 1))), (1, (0, z265))]) rfl ?_
                                    refine r_getL hX hP rfl fl_12_364 hS (fun wf308 wf308e wf308a wf308b => ?_)
                                    refine r_ldc2 hX hP rfl (v := 32) (tbg sg9 133 rfl rfl) ?_
                                    refine r_ex hX hP 1 (pc' := 146) (st' := [(1, (wf308 * 32)), (2, (Ad E 1))]) (lo' := [(0, (2, (Ad E 1))), (1, (0, z265))]) rfl ?_
                                    refine r_hvL hX (fun w309 w309a w309b w309e => ?_)
                                    refine r_ex hX hP 2 (pc' := 148) (st' := [(2, (Ad E 1)), (2, (Ad E 1)), (1, w309), (2, (Ad E 1))]) (lo' := [(0, (2, (Ad E 1))), (1, (0, z265))]) rfl ?_
                                    refine r_getKI hX hP rfl fl_12_349 hS (x := behind_109) behind_109_e ?_
                                    refine r_callV gd hX hP rfl cv_12_355 hS (d' := 0) (mc' := 0) (ms' := 0) (as' := [(0, behind_109)]) (st := [(1, w309), (2, (Ad E 1))]) (by decide) (by decide) (by decide) rfl rfl (Nat.le_of_ble_eq_true rfl) (c_X12_look E S (hv [84, 87] [] (up (up (up (hv [83] [] (up G 1 (Ad E 1) 83 bf1) Gk8) 1 (Ad E 1) 84 at_8) 1 (Ad E 1) 82 1) 1 (Ad E 1) 87 0) Gk109) behind_109 hS tf3 tf3e (by omega) (by omega)) ?_
                                    rintro _ _ _ ⟨rfl, rfl, z310, rfl, (⟨z310a, z310b, f311⟩ | ⟨rfl, f312⟩)⟩
                                    · skip
                                      refine r_i2l hX hP rfl (by omega) (by omega) ?_
                                      refine r_ex hX hP 1 (pc' := 156) (st' := [(1, (w309 + z310)), (2, (Ad E 1))]) (lo' := [(0, (2, (Ad E 1))), (1, (0, z265))]) rfl ?_
                                      refine r_hvL hX (fun w313 w313a w313b w313e => ?_)
                                      refine r_ldc2 hX hP rfl (v := 96) (tbg sg9 134 rfl rfl) ?_
                                      refine r_ex hX hP 1 (pc' := 160) (st' := [(1, (w313 - 96)), (2, (Ad E 1))]) (lo' := [(0, (2, (Ad E 1))), (1, (0, z265))]) rfl ?_
                                      refine r_hvL hX (fun w314 w314a w314b w314e => ?_)
                                      refine r_ex hX hP 1 (pc' := 166) (st' := [(1, w314), (2, (Ad E 1))]) (lo' := [(0, (2, (Ad E 1))), (1, (0, z265))]) rfl ?_
                                      refine r_putLK hX hP rfl fp_12_364 hS (by omega) (by omega) (fun h315 => ?_)
                                      refine r_ex hX hP 2 (pc' := 171) (st' := [(2, (Ad E 1)), (2, (Ad E 1))]) (lo' := [(0, (2, (Ad E 1))), (1, (0, z265))]) rfl ?_
                                      refine r_getKI hX hP rfl fl_12_349 hS (x := behind_109) behind_109_e ?_
                                      refine r_ex hX hP 2 (pc' := 176) (st' := [(0, (behind_109 + 1)), (2, (Ad E 1))]) (lo' := [(0, (2, (Ad E 1))), (1, (0, z265))]) rfl ?_
                                      refine r_putIK hX hP rfl fp_12_349 hS (by omega) (by omega) (fun h316 => ?_)
                                      refine r_ex hX hP 1 (pc' := 109) (st' := []) (lo' := [(0, (2, (Ad E 1))), (1, (0, z265))]) rfl ?_
                                      refine r_eqG (X := X) (hq_up (hq_up (hq_base _ _ _ _) rfl) rfl) ?_
                                      exact ih109 (behind_109 + 1) _ h316 (by omega) (by omega) (by omega)
                                    · skip
                                      refine r_i2l hX hP rfl (by omega) (by omega) ?_
                                      refine r_ex hX hP 1 (pc' := 156) (st' := [(1, (w309 + 0)), (2, (Ad E 1))]) (lo' := [(0, (2, (Ad E 1))), (1, (0, z265))]) rfl ?_
                                      refine r_ldc2 hX hP rfl (v := 96) (tbg sg9 134 rfl rfl) ?_
                                      refine r_ex hX hP 1 (pc' := 160) (st' := [(1, ((w309 + 0) - 96)), (2, (Ad E 1))]) (lo' := [(0, (2, (Ad E 1))), (1, (0, z265))]) rfl ?_
                                      refine r_hvL hX (fun w317 w317a w317b w317e => ?_)
                                      refine r_ex hX hP 1 (pc' := 166) (st' := [(1, w317), (2, (Ad E 1))]) (lo' := [(0, (2, (Ad E 1))), (1, (0, z265))]) rfl ?_
                                      refine r_putLK hX hP rfl fp_12_364 hS (by omega) (by omega) (fun h318 => ?_)
                                      refine r_ex hX hP 2 (pc' := 171) (st' := [(2, (Ad E 1)), (2, (Ad E 1))]) (lo' := [(0, (2, (Ad E 1))), (1, (0, z265))]) rfl ?_
                                      refine r_getKI hX hP rfl fl_12_349 hS (x := behind_109) behind_109_e ?_
                                      refine r_ex hX hP 2 (pc' := 176) (st' := [(0, (behind_109 + 1)), (2, (Ad E 1))]) (lo' := [(0, (2, (Ad E 1))), (1, (0, z265))]) rfl ?_
                                      refine r_putIK hX hP rfl fp_12_349 hS (by omega) (by omega) (fun h319 => ?_)
                                      refine r_ex hX hP 1 (pc' := 109) (st' := []) (lo' := [(0, (2, (Ad E 1))), (1, (0, z265))]) rfl ?_
                                      refine r_eqG (X := X) (hq_up (hq_up (hq_base _ _ _ _) rfl) rfl) ?_
                                      exact ih109 (behind_109 + 1) _ h319 (by omega) (by omega) (by omega)
                              · skip
                                refine r_if_eq hX hP rfl (tgt := 182) rfl (by omega) (by omega) (fun c320 => ?_) (fun c320 => ?_)
                                · skip
                                  refine r_ex hX hP 2 (pc' := 184) (st' := [(2, (Ad E 1)), (2, (Ad E 1))]) (lo' := [(0, (2, (Ad E 1))), (1, (0, z265))]) rfl ?_
                                  refine r_getKI hX hP rfl fl_12_349 hS (x := behind_109) behind_109_e ?_
                                  refine r_ex hX hP 1 (pc' := 188) (st' := [(2, (Ad E 1)), (0, behind_109), (2, (Ad E 1))]) (lo' := [(0, (2, (Ad E 1))), (1, (0, z265))]) rfl ?_
                                  refine r_getKI hX hP rfl fl_12_352 hS (x := at_8) at_8_e ?_
                                  refine r_ex hX hP 1 (pc' := 192) (st' := [(0, (behind_109 - at_8)), (2, (Ad E 1))]) (lo' := [(0, (2, (Ad E 1))), (1, (0, z265))]) rfl ?_
                                  refine r_putIK hX hP rfl fp_12_373 hS (by omega) (by omega) (fun h321 => ?_)
                                  refine r_ex hX hP 1 (pc' := 354) (st' := []) (lo' := [(0, (2, (Ad E 1))), (1, (0, z265))]) rfl ?_
                                  exact r_retV hX hP rfl rfl (by omega) (by omega) ⟨rfl, ⟨_, (hq_up (hq_loop (hq_up (hq_up (hq_up (hq_loop (hq_up (hq_refl _ _ _) rfl) rfl) rfl) rfl) rfl) rfl) rfl).symm⟩, rfl, trivial⟩
                                · skip
                                  exfalso; omega
                        refine r_eqG (X := X) (hq_refl [84, 87] [] _) ?_
                        exact loop109 ((400 - at_8) + 1).toNat at_8 _ h263 (by omega) (by omega) (by omega)
                    · skip
                      refine r_if_eq hX hP rfl (tgt := 198) rfl (by omega) (by omega) (fun c322 => ?_) (fun c322 => ?_)
                      · skip
                        refine r_ex hX hP 1 (pc' := 199) (st' := [(0, z265)]) (lo' := [(0, (2, (Ad E 1))), (1, (0, z265))]) rfl ?_
                        refine r_callS gd hX hP rfl cs_12_376 (d' := 0) (mc' := 0) (ms' := 0) (as' := [(0, z265)]) (st := []) (by decide) (by decide) (by decide) rfl rfl (Nat.le_of_ble_eq_true rfl) (c_X12_isDigit E S (up (hv [83] [] (up G 1 (Ad E 1) 83 bf1) Gk8) 1 (Ad E 1) 84 at_8) z265 (by omega) (by omega)) ?_
                        rintro _ _ _ ⟨rfl, rfl, z323, rfl, (⟨rfl, f324, f325⟩ | ⟨rfl, f326⟩)⟩
                        · skip
                          refine r_if_eq hX hP rfl (tgt := 300) rfl (by omega) (by omega) (fun c327 => ?_) (fun c327 => ?_)
                          · skip
                            exfalso; omega
                          · skip
                            refine r_ex hX hP 2 (pc' := 207) (st' := [(0, 0), (2, (Ad E 1))]) (lo' := [(0, (2, (Ad E 1))), (1, (0, z265))]) rfl ?_
                            refine r_putIK hX hP rfl fp_12_379 hS (by omega) (by omega) (fun h328 => ?_)
                            have loop210 : ∀ (n : Nat) (behind_210 : Int) (Gk210 : Gh), behind_210 = (hv [84, 85] [] (up (up (hv [83] [] (up G 1 (Ad E 1) 83 bf1) Gk8) 1 (Ad E 1) 84 at_8) 1 (Ad E 1) 85 0) Gk210) 1 (Ad E 1) 84 → 0 ≤ behind_210 → behind_210 ≤ 400 → 400 - behind_210 < (n : Int) → X 0 0 210 [] [(0, (2, (Ad E 1))), (1, (0, z265))] S (hv [84, 85] [] (up (up (hv [83] [] (up G 1 (Ad E 1) 83 bf1) Gk8) 1 (Ad E 1) 84 at_8) 1 (Ad E 1) 85 0) Gk210) := by
                              intro n
                              induction n with
                              | zero => intro behind_210 Gk210 behind_210_e y210_0 y210_1 ym210; exfalso; omega
                              | succ n ih210 =>
                                intro behind_210 Gk210 behind_210_e y210_0 y210_1 ym210
                                refine r_ex hX hP 2 (pc' := 212) (st' := [(2, (Ad E 1)), (2, (Ad E 1))]) (lo' := [(0, (2, (Ad E 1))), (1, (0, z265))]) rfl ?_
                                refine r_getKI hX hP rfl fl_12_349 hS (x := behind_210) behind_210_e ?_
                                refine r_callV gd hX hP rfl cv_12_355 hS (d' := 0) (mc' := 0) (ms' := 0) (as' := [(0, behind_210)]) (st := []) (by decide) (by decide) (by decide) rfl rfl (Nat.le_of_ble_eq_true rfl) (c_X12_look E S (hv [84, 85] [] (up (up (hv [83] [] (up G 1 (Ad E 1) 83 bf1) Gk8) 1 (Ad E 1) 84 at_8) 1 (Ad E 1) 85 0) Gk210) behind_210 hS tf3 tf3e (by omega) (by omega)) ?_
                                rintro _ _ _ ⟨rfl, rfl, z329, rfl, (⟨z329a, z329b, f330⟩ | ⟨rfl, f331⟩)⟩
                                · skip
                                  refine r_callS gd hX hP rfl cs_12_376 (d' := 0) (mc' := 0) (ms' := 0) (as' := [(0, z329)]) (st := []) (by decide) (by decide) (by decide) rfl rfl (Nat.le_of_ble_eq_true rfl) (c_X12_isDigit E S (hv [84, 85] [] (up (up (hv [83] [] (up G 1 (Ad E 1) 83 bf1) Gk8) 1 (Ad E 1) 84 at_8) 1 (Ad E 1) 85 0) Gk210) z329 (by omega) (by omega)) ?_
                                  rintro _ _ _ ⟨rfl, rfl, z332, rfl, (⟨rfl, f333, f334⟩ | ⟨rfl, f335⟩)⟩
                                  · skip
                                    refine r_if_eq hX hP rfl (tgt := 274) rfl (by omega) (by omega) (fun c336 => ?_) (fun c336 => ?_)
                                    · skip
                                      exfalso; omega
                                    · skip
                                      refine r_ex hX hP 1 (pc' := 225) (st' := [(2, (Ad E 1))]) (lo' := [(0, (2, (Ad E 1))), (1, (0, z265))]) rfl ?_
                                      refine r_getKI hX hP rfl fl_12_349 hS (x := behind_210) behind_210_e ?_
                                      refine r_ex hX hP 1 (pc' := 229) (st' := [(2, (Ad E 1)), (0, behind_210)]) (lo' := [(0, (2, (Ad E 1))), (1, (0, z265))]) rfl ?_
                                      refine r_getKI hX hP rfl fl_12_352 hS (x := at_8) at_8_e ?_
                                      refine r_ex hX hP 2 (pc' := 235) (st' := [(0, 7), (0, (behind_210 - at_8))]) (lo' := [(0, (2, (Ad E 1))), (1, (0, z265))]) rfl ?_
                                      refine r_ic_ge hX hP rfl (tgt := 261) rfl (by omega) (by omega) (by omega) (by omega) (fun c337 => ?_) (fun c337 => ?_)
                                      · skip
                                        refine r_ex hX hP 2 (pc' := 263) (st' := [(2, (Ad E 1)), (2, (Ad E 1))]) (lo' := [(0, (2, (Ad E 1))), (1, (0, z265))]) rfl ?_
                                        refine r_getKI hX hP rfl fl_12_349 hS (x := behind_210) behind_210_e ?_
                                        refine r_ex hX hP 2 (pc' := 268) (st' := [(0, (behind_210 + 1)), (2, (Ad E 1))]) (lo' := [(0, (2, (Ad E 1))), (1, (0, z265))]) rfl ?_
                                        refine r_putIK hX hP rfl fp_12_349 hS (by omega) (by omega) (fun h338 => ?_)
                                        refine r_ex hX hP 1 (pc' := 210) (st' := []) (lo' := [(0, (2, (Ad E 1))), (1, (0, z265))]) rfl ?_
                                        refine r_eqG (X := X) (hq_up (hq_base _ _ _ _) rfl) ?_
                                        exact ih210 (behind_210 + 1) _ h338 (by omega) (by omega) (by omega)
                                      · skip
                                        refine r_ex hX hP 3 (pc' := 242) (st' := [(2, (Ad E 1)), (0, 10), (2, (Ad E 1))]) (lo' := [(0, (2, (Ad E 1))), (1, (0, z265))]) rfl ?_
                                        refine r_getI hX hP rfl fl_12_379 hS (fun nf339 nf339e nf339a nf339b => ?_)
                                        refine r_ex hX hP 1 (pc' := 246) (st' := [(0, (10 * nf339)), (2, (Ad E 1))]) (lo' := [(0, (2, (Ad E 1))), (1, (0, z265))]) rfl ?_
                                        refine r_hvI hX (fun w340 w340a w340b w340e => ?_)
                                        refine r_ex hX hP 2 (pc' := 248) (st' := [(2, (Ad E 1)), (2, (Ad E 1)), (0, w340), (2, (Ad E 1))]) (lo' := [(0, (2, (Ad E 1))), (1, (0, z265))]) rfl ?_
                                        refine r_getKI hX hP rfl fl_12_349 hS (x := behind_210) behind_210_e ?_
                                        refine r_callV gd hX hP rfl cv_12_355 hS (d' := 0) (mc' := 0) (ms' := 0) (as' := [(0, behind_210)]) (st := [(0, w340), (2, (Ad E 1))]) (by decide) (by decide) (by decide) rfl rfl (Nat.le_of_ble_eq_true rfl) (c_X12_look E S (hv [84, 85] [] (up (up (hv [83] [] (up G 1 (Ad E 1) 83 bf1) Gk8) 1 (Ad E 1) 84 at_8) 1 (Ad E 1) 85 0) Gk210) behind_210 hS tf3 tf3e (by omega) (by omega)) ?_
                                        rintro _ _ _ ⟨rfl, rfl, z341, rfl, (⟨z341a, z341b, f342⟩ | ⟨rfl, f343⟩)⟩
                                        · skip
                                          refine r_ex hX hP 1 (pc' := 255) (st' := [(0, (w340 + z341)), (2, (Ad E 1))]) (lo' := [(0, (2, (Ad E 1))), (1, (0, z265))]) rfl ?_
                                          refine r_hvI hX (fun w344 w344a w344b w344e => ?_)
                                          refine r_ex hX hP 2 (pc' := 258) (st' := [(0, (w344 - 48)), (2, (Ad E 1))]) (lo' := [(0, (2, (Ad E 1))), (1, (0, z265))]) rfl ?_
                                          refine r_hvI hX (fun w345 w345a w345b w345e => ?_)
                                          refine r_putIK hX hP rfl fp_12_379 hS (by omega) (by omega) (fun h346 => ?_)
                                          refine r_ex hX hP 2 (pc' := 263) (st' := [(2, (Ad E 1)), (2, (Ad E 1))]) (lo' := [(0, (2, (Ad E 1))), (1, (0, z265))]) rfl ?_
                                          refine r_getKI hX hP rfl fl_12_349 hS (x := behind_210) behind_210_e ?_
                                          refine r_ex hX hP 2 (pc' := 268) (st' := [(0, (behind_210 + 1)), (2, (Ad E 1))]) (lo' := [(0, (2, (Ad E 1))), (1, (0, z265))]) rfl ?_
                                          refine r_putIK hX hP rfl fp_12_349 hS (by omega) (by omega) (fun h347 => ?_)
                                          refine r_ex hX hP 1 (pc' := 210) (st' := []) (lo' := [(0, (2, (Ad E 1))), (1, (0, z265))]) rfl ?_
                                          refine r_eqG (X := X) (hq_up (hq_up (hq_base _ _ _ _) rfl) rfl) ?_
                                          exact ih210 (behind_210 + 1) _ h347 (by omega) (by omega) (by omega)
                                        · skip
                                          refine r_ex hX hP 3 (pc' := 258) (st' := [(0, ((w340 + 0) - 48)), (2, (Ad E 1))]) (lo' := [(0, (2, (Ad E 1))), (1, (0, z265))]) rfl ?_
                                          refine r_hvI hX (fun w348 w348a w348b w348e => ?_)
                                          refine r_putIK hX hP rfl fp_12_379 hS (by omega) (by omega) (fun h349 => ?_)
                                          refine r_ex hX hP 2 (pc' := 263) (st' := [(2, (Ad E 1)), (2, (Ad E 1))]) (lo' := [(0, (2, (Ad E 1))), (1, (0, z265))]) rfl ?_
                                          refine r_getKI hX hP rfl fl_12_349 hS (x := behind_210) behind_210_e ?_
                                          refine r_ex hX hP 2 (pc' := 268) (st' := [(0, (behind_210 + 1)), (2, (Ad E 1))]) (lo' := [(0, (2, (Ad E 1))), (1, (0, z265))]) rfl ?_
                                          refine r_putIK hX hP rfl fp_12_349 hS (by omega) (by omega) (fun h350 => ?_)
                                          refine r_ex hX hP 1 (pc' := 210) (st' := []) (lo' := [(0, (2, (Ad E 1))), (1, (0, z265))]) rfl ?_
                                          refine r_eqG (X := X) (hq_up (hq_up (hq_base _ _ _ _) rfl) rfl) ?_
                                          exact ih210 (behind_210 + 1) _ h350 (by omega) (by omega) (by omega)
                                  · skip
                                    refine r_if_eq hX hP rfl (tgt := 274) rfl (by omega) (by omega) (fun c351 => ?_) (fun c351 => ?_)
                                    · skip
                                      refine r_ex hX hP 2 (pc' := 276) (st' := [(2, (Ad E 1)), (2, (Ad E 1))]) (lo' := [(0, (2, (Ad E 1))), (1, (0, z265))]) rfl ?_
                                      refine r_getKI hX hP rfl fl_12_349 hS (x := behind_210) behind_210_e ?_
                                      refine r_ex hX hP 1 (pc' := 280) (st' := [(2, (Ad E 1)), (0, behind_210), (2, (Ad E 1))]) (lo' := [(0, (2, (Ad E 1))), (1, (0, z265))]) rfl ?_
                                      refine r_getKI hX hP rfl fl_12_352 hS (x := at_8) at_8_e ?_
                                      refine r_ex hX hP 2 (pc' := 286) (st' := [(0, 7), (0, (behind_210 - at_8)), (2, (Ad E 1))]) (lo' := [(0, (2, (Ad E 1))), (1, (0, z265))]) rfl ?_
                                      refine r_ic_le hX hP rfl (tgt := 293) rfl (by omega) (by omega) (by omega) (by omega) (fun c352 => ?_) (fun c352 => ?_)
                                      · skip
                                        refine r_ex hX hP 1 (pc' := 294) (st' := [(0, 2), (2, (Ad E 1))]) (lo' := [(0, (2, (Ad E 1))), (1, (0, z265))]) rfl ?_
                                        refine r_putIK hX hP rfl fp_12_358 hS (by omega) (by omega) (fun h353 => ?_)
                                        refine r_ex hX hP 1 (pc' := 354) (st' := []) (lo' := [(0, (2, (Ad E 1))), (1, (0, z265))]) rfl ?_
                                        exact r_retV hX hP rfl rfl (by omega) (by omega) ⟨rfl, ⟨_, (hq_up (hq_loop (hq_up (hq_up (hq_loop (hq_up (hq_refl _ _ _) rfl) rfl) rfl) rfl) rfl) rfl).symm⟩, rfl, trivial⟩
                                      · skip
                                        refine r_ex hX hP 2 (pc' := 294) (st' := [(0, 4), (2, (Ad E 1))]) (lo' := [(0, (2, (Ad E 1))), (1, (0, z265))]) rfl ?_
                                        refine r_putIK hX hP rfl fp_12_358 hS (by omega) (by omega) (fun h354 => ?_)
                                        refine r_ex hX hP 1 (pc' := 354) (st' := []) (lo' := [(0, (2, (Ad E 1))), (1, (0, z265))]) rfl ?_
                                        exact r_retV hX hP rfl rfl (by omega) (by omega) ⟨rfl, ⟨_, (hq_up (hq_loop (hq_up (hq_up (hq_loop (hq_up (hq_refl _ _ _) rfl) rfl) rfl) rfl) rfl) rfl).symm⟩, rfl, trivial⟩
                                    · skip
                                      exfalso; omega
                                · skip
                                  refine r_callS gd hX hP rfl cs_12_376 (d' := 0) (mc' := 0) (ms' := 0) (as' := [(0, 0)]) (st := []) (by decide) (by decide) (by decide) rfl rfl (Nat.le_of_ble_eq_true rfl) (c_X12_isDigit E S (hv [84, 85] [] (up (up (hv [83] [] (up G 1 (Ad E 1) 83 bf1) Gk8) 1 (Ad E 1) 84 at_8) 1 (Ad E 1) 85 0) Gk210) 0 (by omega) (by omega)) ?_
                                  rintro _ _ _ ⟨rfl, rfl, z355, rfl, (⟨rfl, f356, f357⟩ | ⟨rfl, f358⟩)⟩
                                  · skip
                                    refine r_if_eq hX hP rfl (tgt := 274) rfl (by omega) (by omega) (fun c359 => ?_) (fun c359 => ?_)
                                    · skip
                                      exfalso; omega
                                    · skip
                                      refine r_ex hX hP 1 (pc' := 225) (st' := [(2, (Ad E 1))]) (lo' := [(0, (2, (Ad E 1))), (1, (0, z265))]) rfl ?_
                                      refine r_getKI hX hP rfl fl_12_349 hS (x := behind_210) behind_210_e ?_
                                      refine r_ex hX hP 1 (pc' := 229) (st' := [(2, (Ad E 1)), (0, behind_210)]) (lo' := [(0, (2, (Ad E 1))), (1, (0, z265))]) rfl ?_
                                      refine r_getKI hX hP rfl fl_12_352 hS (x := at_8) at_8_e ?_
                                      refine r_ex hX hP 2 (pc' := 235) (st' := [(0, 7), (0, (behind_210 - at_8))]) (lo' := [(0, (2, (Ad E 1))), (1, (0, z265))]) rfl ?_
                                      refine r_ic_ge hX hP rfl (tgt := 261) rfl (by omega) (by omega) (by omega) (by omega) (fun c360 => ?_) (fun c360 => ?_)
                                      · skip
                                        refine r_ex hX hP 2 (pc' := 263) (st' := [(2, (Ad E 1)), (2, (Ad E 1))]) (lo' := [(0, (2, (Ad E 1))), (1, (0, z265))]) rfl ?_
                                        refine r_getKI hX hP rfl fl_12_349 hS (x := behind_210) behind_210_e ?_
                                        refine r_ex hX hP 2 (pc' := 268) (st' := [(0, (behind_210 + 1)), (2, (Ad E 1))]) (lo' := [(0, (2, (Ad E 1))), (1, (0, z265))]) rfl ?_
                                        refine r_putIK hX hP rfl fp_12_349 hS (by omega) (by omega) (fun h361 => ?_)
                                        refine r_ex hX hP 1 (pc' := 210) (st' := []) (lo' := [(0, (2, (Ad E 1))), (1, (0, z265))]) rfl ?_
                                        refine r_eqG (X := X) (hq_up (hq_base _ _ _ _) rfl) ?_
                                        exact ih210 (behind_210 + 1) _ h361 (by omega) (by omega) (by omega)
                                      · skip
                                        refine r_ex hX hP 3 (pc' := 242) (st' := [(2, (Ad E 1)), (0, 10), (2, (Ad E 1))]) (lo' := [(0, (2, (Ad E 1))), (1, (0, z265))]) rfl ?_
                                        refine r_getI hX hP rfl fl_12_379 hS (fun nf362 nf362e nf362a nf362b => ?_)
                                        refine r_ex hX hP 1 (pc' := 246) (st' := [(0, (10 * nf362)), (2, (Ad E 1))]) (lo' := [(0, (2, (Ad E 1))), (1, (0, z265))]) rfl ?_
                                        refine r_hvI hX (fun w363 w363a w363b w363e => ?_)
                                        refine r_ex hX hP 2 (pc' := 248) (st' := [(2, (Ad E 1)), (2, (Ad E 1)), (0, w363), (2, (Ad E 1))]) (lo' := [(0, (2, (Ad E 1))), (1, (0, z265))]) rfl ?_
                                        refine r_getKI hX hP rfl fl_12_349 hS (x := behind_210) behind_210_e ?_
                                        refine r_callV gd hX hP rfl cv_12_355 hS (d' := 0) (mc' := 0) (ms' := 0) (as' := [(0, behind_210)]) (st := [(0, w363), (2, (Ad E 1))]) (by decide) (by decide) (by decide) rfl rfl (Nat.le_of_ble_eq_true rfl) (c_X12_look E S (hv [84, 85] [] (up (up (hv [83] [] (up G 1 (Ad E 1) 83 bf1) Gk8) 1 (Ad E 1) 84 at_8) 1 (Ad E 1) 85 0) Gk210) behind_210 hS tf3 tf3e (by omega) (by omega)) ?_
                                        rintro _ _ _ ⟨rfl, rfl, z364, rfl, (⟨z364a, z364b, f365⟩ | ⟨rfl, f366⟩)⟩
                                        · skip
                                          refine r_ex hX hP 1 (pc' := 255) (st' := [(0, (w363 + z364)), (2, (Ad E 1))]) (lo' := [(0, (2, (Ad E 1))), (1, (0, z265))]) rfl ?_
                                          refine r_hvI hX (fun w367 w367a w367b w367e => ?_)
                                          refine r_ex hX hP 2 (pc' := 258) (st' := [(0, (w367 - 48)), (2, (Ad E 1))]) (lo' := [(0, (2, (Ad E 1))), (1, (0, z265))]) rfl ?_
                                          refine r_hvI hX (fun w368 w368a w368b w368e => ?_)
                                          refine r_putIK hX hP rfl fp_12_379 hS (by omega) (by omega) (fun h369 => ?_)
                                          refine r_ex hX hP 2 (pc' := 263) (st' := [(2, (Ad E 1)), (2, (Ad E 1))]) (lo' := [(0, (2, (Ad E 1))), (1, (0, z265))]) rfl ?_
                                          refine r_getKI hX hP rfl fl_12_349 hS (x := behind_210) behind_210_e ?_
                                          refine r_ex hX hP 2 (pc' := 268) (st' := [(0, (behind_210 + 1)), (2, (Ad E 1))]) (lo' := [(0, (2, (Ad E 1))), (1, (0, z265))]) rfl ?_
                                          refine r_putIK hX hP rfl fp_12_349 hS (by omega) (by omega) (fun h370 => ?_)
                                          refine r_ex hX hP 1 (pc' := 210) (st' := []) (lo' := [(0, (2, (Ad E 1))), (1, (0, z265))]) rfl ?_
                                          refine r_eqG (X := X) (hq_up (hq_up (hq_base _ _ _ _) rfl) rfl) ?_
                                          exact ih210 (behind_210 + 1) _ h370 (by omega) (by omega) (by omega)
                                        · skip
                                          refine r_ex hX hP 3 (pc' := 258) (st' := [(0, ((w363 + 0) - 48)), (2, (Ad E 1))]) (lo' := [(0, (2, (Ad E 1))), (1, (0, z265))]) rfl ?_
                                          refine r_hvI hX (fun w371 w371a w371b w371e => ?_)
                                          refine r_putIK hX hP rfl fp_12_379 hS (by omega) (by omega) (fun h372 => ?_)
                                          refine r_ex hX hP 2 (pc' := 263) (st' := [(2, (Ad E 1)), (2, (Ad E 1))]) (lo' := [(0, (2, (Ad E 1))), (1, (0, z265))]) rfl ?_
                                          refine r_getKI hX hP rfl fl_12_349 hS (x := behind_210) behind_210_e ?_
                                          refine r_ex hX hP 2 (pc' := 268) (st' := [(0, (behind_210 + 1)), (2, (Ad E 1))]) (lo' := [(0, (2, (Ad E 1))), (1, (0, z265))]) rfl ?_
                                          refine r_putIK hX hP rfl fp_12_349 hS (by omega) (by omega) (fun h373 => ?_)
                                          refine r_ex hX hP 1 (pc' := 210) (st' := []) (lo' := [(0, (2, (Ad E 1))), (1, (0, z265))]) rfl ?_
                                          refine r_eqG (X := X) (hq_up (hq_up (hq_base _ _ _ _) rfl) rfl) ?_
                                          exact ih210 (behind_210 + 1) _ h373 (by omega) (by omega) (by omega)
                                  · skip
                                    refine r_if_eq hX hP rfl (tgt := 274) rfl (by omega) (by omega) (fun c374 => ?_) (fun c374 => ?_)
                                    · skip
                                      refine r_ex hX hP 2 (pc' := 276) (st' := [(2, (Ad E 1)), (2, (Ad E 1))]) (lo' := [(0, (2, (Ad E 1))), (1, (0, z265))]) rfl ?_
                                      refine r_getKI hX hP rfl fl_12_349 hS (x := behind_210) behind_210_e ?_
                                      refine r_ex hX hP 1 (pc' := 280) (st' := [(2, (Ad E 1)), (0, behind_210), (2, (Ad E 1))]) (lo' := [(0, (2, (Ad E 1))), (1, (0, z265))]) rfl ?_
                                      refine r_getKI hX hP rfl fl_12_352 hS (x := at_8) at_8_e ?_
                                      refine r_ex hX hP 2 (pc' := 286) (st' := [(0, 7), (0, (behind_210 - at_8)), (2, (Ad E 1))]) (lo' := [(0, (2, (Ad E 1))), (1, (0, z265))]) rfl ?_
                                      refine r_ic_le hX hP rfl (tgt := 293) rfl (by omega) (by omega) (by omega) (by omega) (fun c375 => ?_) (fun c375 => ?_)
                                      · skip
                                        refine r_ex hX hP 1 (pc' := 294) (st' := [(0, 2), (2, (Ad E 1))]) (lo' := [(0, (2, (Ad E 1))), (1, (0, z265))]) rfl ?_
                                        refine r_putIK hX hP rfl fp_12_358 hS (by omega) (by omega) (fun h376 => ?_)
                                        refine r_ex hX hP 1 (pc' := 354) (st' := []) (lo' := [(0, (2, (Ad E 1))), (1, (0, z265))]) rfl ?_
                                        exact r_retV hX hP rfl rfl (by omega) (by omega) ⟨rfl, ⟨_, (hq_up (hq_loop (hq_up (hq_up (hq_loop (hq_up (hq_refl _ _ _) rfl) rfl) rfl) rfl) rfl) rfl).symm⟩, rfl, trivial⟩
                                      · skip
                                        refine r_ex hX hP 2 (pc' := 294) (st' := [(0, 4), (2, (Ad E 1))]) (lo' := [(0, (2, (Ad E 1))), (1, (0, z265))]) rfl ?_
                                        refine r_putIK hX hP rfl fp_12_358 hS (by omega) (by omega) (fun h377 => ?_)
                                        refine r_ex hX hP 1 (pc' := 354) (st' := []) (lo' := [(0, (2, (Ad E 1))), (1, (0, z265))]) rfl ?_
                                        exact r_retV hX hP rfl rfl (by omega) (by omega) ⟨rfl, ⟨_, (hq_up (hq_loop (hq_up (hq_up (hq_loop (hq_up (hq_refl _ _ _) rfl) rfl) rfl) rfl) rfl) rfl).symm⟩, rfl, trivial⟩
                                    · skip
                                      exfalso; omega
                            refine r_eqG (X := X) (hq_refl [84, 85] [] _) ?_
                            exact loop210 ((400 - at_8) + 1).toNat at_8 _ h263 (by omega) (by omega) (by omega)
                        · skip
                          refine r_if_eq hX hP rfl (tgt := 300) rfl (by omega) (by omega) (fun c378 => ?_) (fun c378 => ?_)
                          · skip
                            refine r_ex hX hP 2 (pc' := 302) (st' := [(2, (Ad E 1)), (2, (Ad E 1))]) (lo' := [(0, (2, (Ad E 1))), (1, (0, z265))]) rfl ?_
                            refine r_getKI hX hP rfl fl_12_352 hS (x := at_8) at_8_e ?_
                            refine r_ex hX hP 2 (pc' := 307) (st' := [(0, (at_8 + 1)), (2, (Ad E 1))]) (lo' := [(0, (2, (Ad E 1))), (1, (0, z265))]) rfl ?_
                            refine r_putIK hX hP rfl fp_12_349 hS (by omega) (by omega) (fun h379 => ?_)
                            refine r_ex hX hP 2 (pc' := 312) (st' := [(0, z265), (2, (Ad E 1))]) (lo' := [(0, (2, (Ad E 1))), (1, (0, z265))]) rfl ?_
                            refine r_putIK hX hP rfl fp_12_379 hS (by omega) (by omega) (fun h380 => ?_)
                            refine r_ex hX hP 3 (pc' := 319) (st' := [(0, 59), (0, z265), (2, (Ad E 1))]) (lo' := [(0, (2, (Ad E 1))), (1, (0, z265))]) rfl ?_
                            refine r_ic_eq hX hP rfl (tgt := 346) rfl (by omega) (by omega) (by omega) (by omega) (fun c381 => ?_) (fun c381 => ?_)
                            · skip
                              refine r_ex hX hP 2 (pc' := 351) (st' := [(0, 3), (2, (Ad E 1))]) (lo' := [(0, (2, (Ad E 1))), (1, (0, z265))]) rfl ?_
                              refine r_putIK hX hP rfl fp_12_358 hS (by omega) (by omega) (fun h382 => ?_)
                              exact r_retV hX hP rfl rfl (by omega) (by omega) ⟨rfl, ⟨_, (hq_up (hq_up (hq_up (hq_up (hq_loop (hq_up (hq_refl _ _ _) rfl) rfl) rfl) rfl) rfl) rfl).symm⟩, rfl, trivial⟩
                            · skip
                              refine r_ex hX hP 2 (pc' := 325) (st' := [(0, 123), (0, z265), (2, (Ad E 1))]) (lo' := [(0, (2, (Ad E 1))), (1, (0, z265))]) rfl ?_
                              refine r_ic_eq hX hP rfl (tgt := 346) rfl (by omega) (by omega) (by omega) (by omega) (fun c383 => ?_) (fun c383 => ?_)
                              · skip
                                refine r_ex hX hP 2 (pc' := 351) (st' := [(0, 3), (2, (Ad E 1))]) (lo' := [(0, (2, (Ad E 1))), (1, (0, z265))]) rfl ?_
                                refine r_putIK hX hP rfl fp_12_358 hS (by omega) (by omega) (fun h384 => ?_)
                                exact r_retV hX hP rfl rfl (by omega) (by omega) ⟨rfl, ⟨_, (hq_up (hq_up (hq_up (hq_up (hq_loop (hq_up (hq_refl _ _ _) rfl) rfl) rfl) rfl) rfl) rfl).symm⟩, rfl, trivial⟩
                              · skip
                                refine r_ex hX hP 2 (pc' := 331) (st' := [(0, 125), (0, z265), (2, (Ad E 1))]) (lo' := [(0, (2, (Ad E 1))), (1, (0, z265))]) rfl ?_
                                refine r_ic_eq hX hP rfl (tgt := 346) rfl (by omega) (by omega) (by omega) (by omega) (fun c385 => ?_) (fun c385 => ?_)
                                · skip
                                  refine r_ex hX hP 2 (pc' := 351) (st' := [(0, 3), (2, (Ad E 1))]) (lo' := [(0, (2, (Ad E 1))), (1, (0, z265))]) rfl ?_
                                  refine r_putIK hX hP rfl fp_12_358 hS (by omega) (by omega) (fun h386 => ?_)
                                  exact r_retV hX hP rfl rfl (by omega) (by omega) ⟨rfl, ⟨_, (hq_up (hq_up (hq_up (hq_up (hq_loop (hq_up (hq_refl _ _ _) rfl) rfl) rfl) rfl) rfl) rfl).symm⟩, rfl, trivial⟩
                                · skip
                                  refine r_ex hX hP 2 (pc' := 337) (st' := [(0, 60), (0, z265), (2, (Ad E 1))]) (lo' := [(0, (2, (Ad E 1))), (1, (0, z265))]) rfl ?_
                                  refine r_ic_eq hX hP rfl (tgt := 346) rfl (by omega) (by omega) (by omega) (by omega) (fun c387 => ?_) (fun c387 => ?_)
                                  · skip
                                    refine r_ex hX hP 2 (pc' := 351) (st' := [(0, 3), (2, (Ad E 1))]) (lo' := [(0, (2, (Ad E 1))), (1, (0, z265))]) rfl ?_
                                    refine r_putIK hX hP rfl fp_12_358 hS (by omega) (by omega) (fun h388 => ?_)
                                    exact r_retV hX hP rfl rfl (by omega) (by omega) ⟨rfl, ⟨_, (hq_up (hq_up (hq_up (hq_up (hq_loop (hq_up (hq_refl _ _ _) rfl) rfl) rfl) rfl) rfl) rfl).symm⟩, rfl, trivial⟩
                                  · skip
                                    refine r_ex hX hP 2 (pc' := 343) (st' := [(0, 62), (0, z265), (2, (Ad E 1))]) (lo' := [(0, (2, (Ad E 1))), (1, (0, z265))]) rfl ?_
                                    refine r_ic_ne hX hP rfl (tgt := 350) rfl (by omega) (by omega) (by omega) (by omega) (fun c389 => ?_) (fun c389 => ?_)
                                    · skip
                                      refine r_ex hX hP 1 (pc' := 351) (st' := [(0, 4), (2, (Ad E 1))]) (lo' := [(0, (2, (Ad E 1))), (1, (0, z265))]) rfl ?_
                                      refine r_putIK hX hP rfl fp_12_358 hS (by omega) (by omega) (fun h390 => ?_)
                                      exact r_retV hX hP rfl rfl (by omega) (by omega) ⟨rfl, ⟨_, (hq_up (hq_up (hq_up (hq_up (hq_loop (hq_up (hq_refl _ _ _) rfl) rfl) rfl) rfl) rfl) rfl).symm⟩, rfl, trivial⟩
                                    · skip
                                      refine r_ex hX hP 2 (pc' := 351) (st' := [(0, 3), (2, (Ad E 1))]) (lo' := [(0, (2, (Ad E 1))), (1, (0, z265))]) rfl ?_
                                      refine r_putIK hX hP rfl fp_12_358 hS (by omega) (by omega) (fun h391 => ?_)
                                      exact r_retV hX hP rfl rfl (by omega) (by omega) ⟨rfl, ⟨_, (hq_up (hq_up (hq_up (hq_up (hq_loop (hq_up (hq_refl _ _ _) rfl) rfl) rfl) rfl) rfl) rfl).symm⟩, rfl, trivial⟩
                          · skip
                            exfalso; omega
                      · skip
                        exfalso; omega
                  · skip
                    refine r_ex hX hP 2 (pc' := 93) (st' := [(0, 0)]) (lo' := [(0, (2, (Ad E 1))), (1, (0, 0))]) rfl ?_
                    refine r_callS gd hX hP rfl cs_12_361 (d' := 0) (mc' := 0) (ms' := 0) (as' := [(0, 0)]) (st := []) (by decide) (by decide) (by decide) rfl rfl (Nat.le_of_ble_eq_true rfl) (c_X12_isLetter E S (up (hv [83] [] (up G 1 (Ad E 1) 83 bf1) Gk8) 1 (Ad E 1) 84 at_8) 0 (by omega) (by omega)) ?_
                    rintro _ _ _ ⟨rfl, rfl, z392, rfl, (⟨rfl, f393, f394⟩ | ⟨rfl, f395⟩)⟩
                    · skip
                      refine r_if_eq hX hP rfl (tgt := 198) rfl (by omega) (by omega) (fun c396 => ?_) (fun c396 => ?_)
                      · skip
                        exfalso; omega
                      · skip
                        refine r_ex hX hP 2 (pc' := 101) (st' := [(0, 1), (2, (Ad E 1))]) (lo' := [(0, (2, (Ad E 1))), (1, (0, 0))]) rfl ?_
                        refine r_putIK hX hP rfl fp_12_358 hS (by omega) (by omega) (fun h397 => ?_)
                        refine r_ex hX hP 2 (pc' := 106) (st' := [(1, 0), (2, (Ad E 1))]) (lo' := [(0, (2, (Ad E 1))), (1, (0, 0))]) rfl ?_
                        refine r_putLK hX hP rfl fp_12_364 hS (by omega) (by omega) (fun h398 => ?_)
                        have loop109 : ∀ (n : Nat) (behind_109 : Int) (Gk109 : Gh), behind_109 = (hv [84, 87] [] (up (up (up (hv [83] [] (up G 1 (Ad E 1) 83 bf1) Gk8) 1 (Ad E 1) 84 at_8) 1 (Ad E 1) 82 1) 1 (Ad E 1) 87 0) Gk109) 1 (Ad E 1) 84 → 0 ≤ behind_109 → behind_109 ≤ 400 → 400 - behind_109 < (n : Int) → X 0 0 109 [] [(0, (2, (Ad E 1))), (1, (0, 0))] S (hv [84, 87] [] (up (up (up (hv [83] [] (up G 1 (Ad E 1) 83 bf1) Gk8) 1 (Ad E 1) 84 at_8) 1 (Ad E 1) 82 1) 1 (Ad E 1) 87 0) Gk109) := by
                          intro n
                          induction n with
                          | zero => intro behind_109 Gk109 behind_109_e y109_0 y109_1 ym109; exfalso; omega
                          | succ n ih109 =>
                            intro behind_109 Gk109 behind_109_e y109_0 y109_1 ym109
                            refine r_ex hX hP 2 (pc' := 111) (st' := [(2, (Ad E 1)), (2, (Ad E 1))]) (lo' := [(0, (2, (Ad E 1))), (1, (0, 0))]) rfl ?_
                            refine r_getKI hX hP rfl fl_12_349 hS (x := behind_109) behind_109_e ?_
                            refine r_callV gd hX hP rfl cv_12_355 hS (d' := 0) (mc' := 0) (ms' := 0) (as' := [(0, behind_109)]) (st := []) (by decide) (by decide) (by decide) rfl rfl (Nat.le_of_ble_eq_true rfl) (c_X12_look E S (hv [84, 87] [] (up (up (up (hv [83] [] (up G 1 (Ad E 1) 83 bf1) Gk8) 1 (Ad E 1) 84 at_8) 1 (Ad E 1) 82 1) 1 (Ad E 1) 87 0) Gk109) behind_109 hS tf3 tf3e (by omega) (by omega)) ?_
                            rintro _ _ _ ⟨rfl, rfl, z399, rfl, (⟨z399a, z399b, f400⟩ | ⟨rfl, f401⟩)⟩
                            · skip
                              refine r_callS gd hX hP rfl cs_12_361 (d' := 0) (mc' := 0) (ms' := 0) (as' := [(0, z399)]) (st := []) (by decide) (by decide) (by decide) rfl rfl (Nat.le_of_ble_eq_true rfl) (c_X12_isLetter E S (hv [84, 87] [] (up (up (up (hv [83] [] (up G 1 (Ad E 1) 83 bf1) Gk8) 1 (Ad E 1) 84 at_8) 1 (Ad E 1) 82 1) 1 (Ad E 1) 87 0) Gk109) z399 (by omega) (by omega)) ?_
                              rintro _ _ _ ⟨rfl, rfl, z402, rfl, (⟨rfl, f403, f404⟩ | ⟨rfl, f405⟩)⟩
                              · skip
                                refine r_if_eq hX hP rfl (tgt := 182) rfl (by omega) (by omega) (fun c406 => ?_) (fun c406 => ?_)
                                · skip
                                  exfalso; omega
                                · skip
                                  refine r_ex hX hP 2 (pc' := 125) (st' := [(2, (Ad E 1)), (2, (Ad E 1))]) (lo' := [(0, (2, (Ad E 1))), (1, (0, 0))]) rfl ?_
                                  refine r_getKI hX hP rfl fl_12_349 hS (x := behind_109) behind_109_e ?_
                                  refine r_ex hX hP 1 (pc' := 129) (st' := [(2, (Ad E 1)), (0, behind_109), (2, (Ad E 1))]) (lo' := [(0, (2, (Ad E 1))), (1, (0, 0))]) rfl ?_
                                  refine r_getKI hX hP rfl fl_12_352 hS (x := at_8) at_8_e ?_
                                  refine r_ex hX hP 2 (pc' := 135) (st' := [(0, 12), (0, (behind_109 - at_8)), (2, (Ad E 1))]) (lo' := [(0, (2, (Ad E 1))), (1, (0, 0))]) rfl ?_
                                  refine r_ic_ge hX hP rfl (tgt := 163) rfl (by omega) (by omega) (by omega) (by omega) (fun c407 => ?_) (fun c407 => ?_)
                                  · skip
                                    refine r_ldc2 hX hP rfl (v := (-1)) (tbg sg9 135 rfl rfl) ?_
                                    refine r_putLK hX hP rfl fp_12_364 hS (by omega) (by omega) (fun h408 => ?_)
                                    refine r_ex hX hP 2 (pc' := 171) (st' := [(2, (Ad E 1)), (2, (Ad E 1))]) (lo' := [(0, (2, (Ad E 1))), (1, (0, 0))]) rfl ?_
                                    refine r_getKI hX hP rfl fl_12_349 hS (x := behind_109) behind_109_e ?_
                                    refine r_ex hX hP 2 (pc' := 176) (st' := [(0, (behind_109 + 1)), (2, (Ad E 1))]) (lo' := [(0, (2, (Ad E 1))), (1, (0, 0))]) rfl ?_
                                    refine r_putIK hX hP rfl fp_12_349 hS (by omega) (by omega) (fun h409 => ?_)
                                    refine r_ex hX hP 1 (pc' := 109) (st' := []) (lo' := [(0, (2, (Ad E 1))), (1, (0, 0))]) rfl ?_
                                    refine r_eqG (X := X) (hq_up (hq_up (hq_base _ _ _ _) rfl) rfl) ?_
                                    exact ih109 (behind_109 + 1) _ h409 (by omega) (by omega) (by omega)
                                  · skip
                                    refine r_ex hX hP 1 (pc' := 139) (st' := [(2, (Ad E 1)), (2, (Ad E 1))]) (lo' := [(0, (2, (Ad E 1))), (1, (0, 0))]) rfl ?_
                                    refine r_getL hX hP rfl fl_12_364 hS (fun wf410 wf410e wf410a wf410b => ?_)
                                    refine r_ldc2 hX hP rfl (v := 32) (tbg sg9 133 rfl rfl) ?_
                                    refine r_ex hX hP 1 (pc' := 146) (st' := [(1, (wf410 * 32)), (2, (Ad E 1))]) (lo' := [(0, (2, (Ad E 1))), (1, (0, 0))]) rfl ?_
                                    refine r_hvL hX (fun w411 w411a w411b w411e => ?_)
                                    refine r_ex hX hP 2 (pc' := 148) (st' := [(2, (Ad E 1)), (2, (Ad E 1)), (1, w411), (2, (Ad E 1))]) (lo' := [(0, (2, (Ad E 1))), (1, (0, 0))]) rfl ?_
                                    refine r_getKI hX hP rfl fl_12_349 hS (x := behind_109) behind_109_e ?_
                                    refine r_callV gd hX hP rfl cv_12_355 hS (d' := 0) (mc' := 0) (ms' := 0) (as' := [(0, behind_109)]) (st := [(1, w411), (2, (Ad E 1))]) (by decide) (by decide) (by decide) rfl rfl (Nat.le_of_ble_eq_true rfl) (c_X12_look E S (hv [84, 87] [] (up (up (up (hv [83] [] (up G 1 (Ad E 1) 83 bf1) Gk8) 1 (Ad E 1) 84 at_8) 1 (Ad E 1) 82 1) 1 (Ad E 1) 87 0) Gk109) behind_109 hS tf3 tf3e (by omega) (by omega)) ?_
                                    rintro _ _ _ ⟨rfl, rfl, z412, rfl, (⟨z412a, z412b, f413⟩ | ⟨rfl, f414⟩)⟩
                                    · skip
                                      refine r_i2l hX hP rfl (by omega) (by omega) ?_
                                      refine r_ex hX hP 1 (pc' := 156) (st' := [(1, (w411 + z412)), (2, (Ad E 1))]) (lo' := [(0, (2, (Ad E 1))), (1, (0, 0))]) rfl ?_
                                      refine r_hvL hX (fun w415 w415a w415b w415e => ?_)
                                      refine r_ldc2 hX hP rfl (v := 96) (tbg sg9 134 rfl rfl) ?_
                                      refine r_ex hX hP 1 (pc' := 160) (st' := [(1, (w415 - 96)), (2, (Ad E 1))]) (lo' := [(0, (2, (Ad E 1))), (1, (0, 0))]) rfl ?_
                                      refine r_hvL hX (fun w416 w416a w416b w416e => ?_)
                                      refine r_ex hX hP 1 (pc' := 166) (st' := [(1, w416), (2, (Ad E 1))]) (lo' := [(0, (2, (Ad E 1))), (1, (0, 0))]) rfl ?_
                                      refine r_putLK hX hP rfl fp_12_364 hS (by omega) (by omega) (fun h417 => ?_)
                                      refine r_ex hX hP 2 (pc' := 171) (st' := [(2, (Ad E 1)), (2, (Ad E 1))]) (lo' := [(0, (2, (Ad E 1))), (1, (0, 0))]) rfl ?_
                                      refine r_getKI hX hP rfl fl_12_349 hS (x := behind_109) behind_109_e ?_
                                      refine r_ex hX hP 2 (pc' := 176) (st' := [(0, (behind_109 + 1)), (2, (Ad E 1))]) (lo' := [(0, (2, (Ad E 1))), (1, (0, 0))]) rfl ?_
                                      refine r_putIK hX hP rfl fp_12_349 hS (by omega) (by omega) (fun h418 => ?_)
                                      refine r_ex hX hP 1 (pc' := 109) (st' := []) (lo' := [(0, (2, (Ad E 1))), (1, (0, 0))]) rfl ?_
                                      refine r_eqG (X := X) (hq_up (hq_up (hq_base _ _ _ _) rfl) rfl) ?_
                                      exact ih109 (behind_109 + 1) _ h418 (by omega) (by omega) (by omega)
                                    · skip
                                      refine r_i2l hX hP rfl (by omega) (by omega) ?_
                                      refine r_ex hX hP 1 (pc' := 156) (st' := [(1, (w411 + 0)), (2, (Ad E 1))]) (lo' := [(0, (2, (Ad E 1))), (1, (0, 0))]) rfl ?_
                                      refine r_ldc2 hX hP rfl (v := 96) (tbg sg9 134 rfl rfl) ?_
                                      refine r_ex hX hP 1 (pc' := 160) (st' := [(1, ((w411 + 0) - 96)), (2, (Ad E 1))]) (lo' := [(0, (2, (Ad E 1))), (1, (0, 0))]) rfl ?_
                                      refine r_hvL hX (fun w419 w419a w419b w419e => ?_)
                                      refine r_ex hX hP 1 (pc' := 166) (st' := [(1, w419), (2, (Ad E 1))]) (lo' := [(0, (2, (Ad E 1))), (1, (0, 0))]) rfl ?_
                                      refine r_putLK hX hP rfl fp_12_364 hS (by omega) (by omega) (fun h420 => ?_)
                                      refine r_ex hX hP 2 (pc' := 171) (st' := [(2, (Ad E 1)), (2, (Ad E 1))]) (lo' := [(0, (2, (Ad E 1))), (1, (0, 0))]) rfl ?_
                                      refine r_getKI hX hP rfl fl_12_349 hS (x := behind_109) behind_109_e ?_
                                      refine r_ex hX hP 2 (pc' := 176) (st' := [(0, (behind_109 + 1)), (2, (Ad E 1))]) (lo' := [(0, (2, (Ad E 1))), (1, (0, 0))]) rfl ?_
                                      refine r_putIK hX hP rfl fp_12_349 hS (by omega) (by omega) (fun h421 => ?_)
                                      refine r_ex hX hP 1 (pc' := 109) (st' := []) (lo' := [(0, (2, (Ad E 1))), (1, (0, 0))]) rfl ?_
                                      refine r_eqG (X := X) (hq_up (hq_up (hq_base _ _ _ _) rfl) rfl) ?_
                                      exact ih109 (behind_109 + 1) _ h421 (by omega) (by omega) (by omega)
                              · skip
                                refine r_if_eq hX hP rfl (tgt := 182) rfl (by omega) (by omega) (fun c422 => ?_) (fun c422 => ?_)
                                · skip
                                  refine r_ex hX hP 2 (pc' := 184) (st' := [(2, (Ad E 1)), (2, (Ad E 1))]) (lo' := [(0, (2, (Ad E 1))), (1, (0, 0))]) rfl ?_
                                  refine r_getKI hX hP rfl fl_12_349 hS (x := behind_109) behind_109_e ?_
                                  refine r_ex hX hP 1 (pc' := 188) (st' := [(2, (Ad E 1)), (0, behind_109), (2, (Ad E 1))]) (lo' := [(0, (2, (Ad E 1))), (1, (0, 0))]) rfl ?_
                                  refine r_getKI hX hP rfl fl_12_352 hS (x := at_8) at_8_e ?_
                                  refine r_ex hX hP 1 (pc' := 192) (st' := [(0, (behind_109 - at_8)), (2, (Ad E 1))]) (lo' := [(0, (2, (Ad E 1))), (1, (0, 0))]) rfl ?_
                                  refine r_putIK hX hP rfl fp_12_373 hS (by omega) (by omega) (fun h423 => ?_)
                                  refine r_ex hX hP 1 (pc' := 354) (st' := []) (lo' := [(0, (2, (Ad E 1))), (1, (0, 0))]) rfl ?_
                                  exact r_retV hX hP rfl rfl (by omega) (by omega) ⟨rfl, ⟨_, (hq_up (hq_loop (hq_up (hq_up (hq_up (hq_loop (hq_up (hq_refl _ _ _) rfl) rfl) rfl) rfl) rfl) rfl) rfl).symm⟩, rfl, trivial⟩
                                · skip
                                  exfalso; omega
                            · skip
                              refine r_callS gd hX hP rfl cs_12_361 (d' := 0) (mc' := 0) (ms' := 0) (as' := [(0, 0)]) (st := []) (by decide) (by decide) (by decide) rfl rfl (Nat.le_of_ble_eq_true rfl) (c_X12_isLetter E S (hv [84, 87] [] (up (up (up (hv [83] [] (up G 1 (Ad E 1) 83 bf1) Gk8) 1 (Ad E 1) 84 at_8) 1 (Ad E 1) 82 1) 1 (Ad E 1) 87 0) Gk109) 0 (by omega) (by omega)) ?_
                              rintro _ _ _ ⟨rfl, rfl, z424, rfl, (⟨rfl, f425, f426⟩ | ⟨rfl, f427⟩)⟩
                              · skip
                                refine r_if_eq hX hP rfl (tgt := 182) rfl (by omega) (by omega) (fun c428 => ?_) (fun c428 => ?_)
                                · skip
                                  exfalso; omega
                                · skip
                                  refine r_ex hX hP 2 (pc' := 125) (st' := [(2, (Ad E 1)), (2, (Ad E 1))]) (lo' := [(0, (2, (Ad E 1))), (1, (0, 0))]) rfl ?_
                                  refine r_getKI hX hP rfl fl_12_349 hS (x := behind_109) behind_109_e ?_
                                  refine r_ex hX hP 1 (pc' := 129) (st' := [(2, (Ad E 1)), (0, behind_109), (2, (Ad E 1))]) (lo' := [(0, (2, (Ad E 1))), (1, (0, 0))]) rfl ?_
                                  refine r_getKI hX hP rfl fl_12_352 hS (x := at_8) at_8_e ?_
                                  refine r_ex hX hP 2 (pc' := 135) (st' := [(0, 12), (0, (behind_109 - at_8)), (2, (Ad E 1))]) (lo' := [(0, (2, (Ad E 1))), (1, (0, 0))]) rfl ?_
                                  refine r_ic_ge hX hP rfl (tgt := 163) rfl (by omega) (by omega) (by omega) (by omega) (fun c429 => ?_) (fun c429 => ?_)
                                  · skip
                                    refine r_ldc2 hX hP rfl (v := (-1)) (tbg sg9 135 rfl rfl) ?_
                                    refine r_putLK hX hP rfl fp_12_364 hS (by omega) (by omega) (fun h430 => ?_)
                                    refine r_ex hX hP 2 (pc' := 171) (st' := [(2, (Ad E 1)), (2, (Ad E 1))]) (lo' := [(0, (2, (Ad E 1))), (1, (0, 0))]) rfl ?_
                                    refine r_getKI hX hP rfl fl_12_349 hS (x := behind_109) behind_109_e ?_
                                    refine r_ex hX hP 2 (pc' := 176) (st' := [(0, (behind_109 + 1)), (2, (Ad E 1))]) (lo' := [(0, (2, (Ad E 1))), (1, (0, 0))]) rfl ?_
                                    refine r_putIK hX hP rfl fp_12_349 hS (by omega) (by omega) (fun h431 => ?_)
                                    refine r_ex hX hP 1 (pc' := 109) (st' := []) (lo' := [(0, (2, (Ad E 1))), (1, (0, 0))]) rfl ?_
                                    refine r_eqG (X := X) (hq_up (hq_up (hq_base _ _ _ _) rfl) rfl) ?_
                                    exact ih109 (behind_109 + 1) _ h431 (by omega) (by omega) (by omega)
                                  · skip
                                    refine r_ex hX hP 1 (pc' := 139) (st' := [(2, (Ad E 1)), (2, (Ad E 1))]) (lo' := [(0, (2, (Ad E 1))), (1, (0, 0))]) rfl ?_
                                    refine r_getL hX hP rfl fl_12_364 hS (fun wf432 wf432e wf432a wf432b => ?_)
                                    refine r_ldc2 hX hP rfl (v := 32) (tbg sg9 133 rfl rfl) ?_
                                    refine r_ex hX hP 1 (pc' := 146) (st' := [(1, (wf432 * 32)), (2, (Ad E 1))]) (lo' := [(0, (2, (Ad E 1))), (1, (0, 0))]) rfl ?_
                                    refine r_hvL hX (fun w433 w433a w433b w433e => ?_)
                                    refine r_ex hX hP 2 (pc' := 148) (st' := [(2, (Ad E 1)), (2, (Ad E 1)), (1, w433), (2, (Ad E 1))]) (lo' := [(0, (2, (Ad E 1))), (1, (0, 0))]) rfl ?_
                                    refine r_getKI hX hP rfl fl_12_349 hS (x := behind_109) behind_109_e ?_
                                    refine r_callV gd hX hP rfl cv_12_355 hS (d' := 0) (mc' := 0) (ms' := 0) (as' := [(0, behind_109)]) (st := [(1, w433), (2, (Ad E 1))]) (by decide) (by decide) (by decide) rfl rfl (Nat.le_of_ble_eq_true rfl) (c_X12_look E S (hv [84, 87] [] (up (up (up (hv [83] [] (up G 1 (Ad E 1) 83 bf1) Gk8) 1 (Ad E 1) 84 at_8) 1 (Ad E 1) 82 1) 1 (Ad E 1) 87 0) Gk109) behind_109 hS tf3 tf3e (by omega) (by omega)) ?_
                                    rintro _ _ _ ⟨rfl, rfl, z434, rfl, (⟨z434a, z434b, f435⟩ | ⟨rfl, f436⟩)⟩
                                    · skip
                                      refine r_i2l hX hP rfl (by omega) (by omega) ?_
                                      refine r_ex hX hP 1 (pc' := 156) (st' := [(1, (w433 + z434)), (2, (Ad E 1))]) (lo' := [(0, (2, (Ad E 1))), (1, (0, 0))]) rfl ?_
                                      refine r_hvL hX (fun w437 w437a w437b w437e => ?_)
                                      refine r_ldc2 hX hP rfl (v := 96) (tbg sg9 134 rfl rfl) ?_
                                      refine r_ex hX hP 1 (pc' := 160) (st' := [(1, (w437 - 96)), (2, (Ad E 1))]) (lo' := [(0, (2, (Ad E 1))), (1, (0, 0))]) rfl ?_
                                      refine r_hvL hX (fun w438 w438a w438b w438e => ?_)
                                      refine r_ex hX hP 1 (pc' := 166) (st' := [(1, w438), (2, (Ad E 1))]) (lo' := [(0, (2, (Ad E 1))), (1, (0, 0))]) rfl ?_
                                      refine r_putLK hX hP rfl fp_12_364 hS (by omega) (by omega) (fun h439 => ?_)
                                      refine r_ex hX hP 2 (pc' := 171) (st' := [(2, (Ad E 1)), (2, (Ad E 1))]) (lo' := [(0, (2, (Ad E 1))), (1, (0, 0))]) rfl ?_
                                      refine r_getKI hX hP rfl fl_12_349 hS (x := behind_109) behind_109_e ?_
                                      refine r_ex hX hP 2 (pc' := 176) (st' := [(0, (behind_109 + 1)), (2, (Ad E 1))]) (lo' := [(0, (2, (Ad E 1))), (1, (0, 0))]) rfl ?_
                                      refine r_putIK hX hP rfl fp_12_349 hS (by omega) (by omega) (fun h440 => ?_)
                                      refine r_ex hX hP 1 (pc' := 109) (st' := []) (lo' := [(0, (2, (Ad E 1))), (1, (0, 0))]) rfl ?_
                                      refine r_eqG (X := X) (hq_up (hq_up (hq_base _ _ _ _) rfl) rfl) ?_
                                      exact ih109 (behind_109 + 1) _ h440 (by omega) (by omega) (by omega)
                                    · skip
                                      refine r_i2l hX hP rfl (by omega) (by omega) ?_
                                      refine r_ex hX hP 1 (pc' := 156) (st' := [(1, (w433 + 0)), (2, (Ad E 1))]) (lo' := [(0, (2, (Ad E 1))), (1, (0, 0))]) rfl ?_
                                      refine r_ldc2 hX hP rfl (v := 96) (tbg sg9 134 rfl rfl) ?_
                                      refine r_ex hX hP 1 (pc' := 160) (st' := [(1, ((w433 + 0) - 96)), (2, (Ad E 1))]) (lo' := [(0, (2, (Ad E 1))), (1, (0, 0))]) rfl ?_
                                      refine r_hvL hX (fun w441 w441a w441b w441e => ?_)
                                      refine r_ex hX hP 1 (pc' := 166) (st' := [(1, w441), (2, (Ad E 1))]) (lo' := [(0, (2, (Ad E 1))), (1, (0, 0))]) rfl ?_
                                      refine r_putLK hX hP rfl fp_12_364 hS (by omega) (by omega) (fun h442 => ?_)
                                      refine r_ex hX hP 2 (pc' := 171) (st' := [(2, (Ad E 1)), (2, (Ad E 1))]) (lo' := [(0, (2, (Ad E 1))), (1, (0, 0))]) rfl ?_
                                      refine r_getKI hX hP rfl fl_12_349 hS (x := behind_109) behind_109_e ?_
                                      refine r_ex hX hP 2 (pc' := 176) (st' := [(0, (behind_109 + 1)), (2, (Ad E 1))]) (lo' := [(0, (2, (Ad E 1))), (1, (0, 0))]) rfl ?_
                                      refine r_putIK hX hP rfl fp_12_349 hS (by omega) (by omega) (fun h443 => ?_)
                                      refine r_ex hX hP 1 (pc' := 109) (st' := []) (lo' := [(0, (2, (Ad E 1))), (1, (0, 0))]) rfl ?_
                                      refine r_eqG (X := X) (hq_up (hq_up (hq_base _ _ _ _) rfl) rfl) ?_
                                      exact ih109 (behind_109 + 1) _ h443 (by omega) (by omega) (by omega)
                              · skip
                                refine r_if_eq hX hP rfl (tgt := 182) rfl (by omega) (by omega) (fun c444 => ?_) (fun c444 => ?_)
                                · skip
                                  refine r_ex hX hP 2 (pc' := 184) (st' := [(2, (Ad E 1)), (2, (Ad E 1))]) (lo' := [(0, (2, (Ad E 1))), (1, (0, 0))]) rfl ?_
                                  refine r_getKI hX hP rfl fl_12_349 hS (x := behind_109) behind_109_e ?_
                                  refine r_ex hX hP 1 (pc' := 188) (st' := [(2, (Ad E 1)), (0, behind_109), (2, (Ad E 1))]) (lo' := [(0, (2, (Ad E 1))), (1, (0, 0))]) rfl ?_
                                  refine r_getKI hX hP rfl fl_12_352 hS (x := at_8) at_8_e ?_
                                  refine r_ex hX hP 1 (pc' := 192) (st' := [(0, (behind_109 - at_8)), (2, (Ad E 1))]) (lo' := [(0, (2, (Ad E 1))), (1, (0, 0))]) rfl ?_
                                  refine r_putIK hX hP rfl fp_12_373 hS (by omega) (by omega) (fun h445 => ?_)
                                  refine r_ex hX hP 1 (pc' := 354) (st' := []) (lo' := [(0, (2, (Ad E 1))), (1, (0, 0))]) rfl ?_
                                  exact r_retV hX hP rfl rfl (by omega) (by omega) ⟨rfl, ⟨_, (hq_up (hq_loop (hq_up (hq_up (hq_up (hq_loop (hq_up (hq_refl _ _ _) rfl) rfl) rfl) rfl) rfl) rfl) rfl).symm⟩, rfl, trivial⟩
                                · skip
                                  exfalso; omega
                        refine r_eqG (X := X) (hq_refl [84, 87] [] _) ?_
                        exact loop109 ((400 - at_8) + 1).toNat at_8 _ h263 (by omega) (by omega) (by omega)
                    · skip
                      refine r_if_eq hX hP rfl (tgt := 198) rfl (by omega) (by omega) (fun c446 => ?_) (fun c446 => ?_)
                      · skip
                        refine r_ex hX hP 1 (pc' := 199) (st' := [(0, 0)]) (lo' := [(0, (2, (Ad E 1))), (1, (0, 0))]) rfl ?_
                        refine r_callS gd hX hP rfl cs_12_376 (d' := 0) (mc' := 0) (ms' := 0) (as' := [(0, 0)]) (st := []) (by decide) (by decide) (by decide) rfl rfl (Nat.le_of_ble_eq_true rfl) (c_X12_isDigit E S (up (hv [83] [] (up G 1 (Ad E 1) 83 bf1) Gk8) 1 (Ad E 1) 84 at_8) 0 (by omega) (by omega)) ?_
                        rintro _ _ _ ⟨rfl, rfl, z447, rfl, (⟨rfl, f448, f449⟩ | ⟨rfl, f450⟩)⟩
                        · skip
                          refine r_if_eq hX hP rfl (tgt := 300) rfl (by omega) (by omega) (fun c451 => ?_) (fun c451 => ?_)
                          · skip
                            exfalso; omega
                          · skip
                            refine r_ex hX hP 2 (pc' := 207) (st' := [(0, 0), (2, (Ad E 1))]) (lo' := [(0, (2, (Ad E 1))), (1, (0, 0))]) rfl ?_
                            refine r_putIK hX hP rfl fp_12_379 hS (by omega) (by omega) (fun h452 => ?_)
                            have loop210 : ∀ (n : Nat) (behind_210 : Int) (Gk210 : Gh), behind_210 = (hv [84, 85] [] (up (up (hv [83] [] (up G 1 (Ad E 1) 83 bf1) Gk8) 1 (Ad E 1) 84 at_8) 1 (Ad E 1) 85 0) Gk210) 1 (Ad E 1) 84 → 0 ≤ behind_210 → behind_210 ≤ 400 → 400 - behind_210 < (n : Int) → X 0 0 210 [] [(0, (2, (Ad E 1))), (1, (0, 0))] S (hv [84, 85] [] (up (up (hv [83] [] (up G 1 (Ad E 1) 83 bf1) Gk8) 1 (Ad E 1) 84 at_8) 1 (Ad E 1) 85 0) Gk210) := by
                              intro n
                              induction n with
                              | zero => intro behind_210 Gk210 behind_210_e y210_0 y210_1 ym210; exfalso; omega
                              | succ n ih210 =>
                                intro behind_210 Gk210 behind_210_e y210_0 y210_1 ym210
                                refine r_ex hX hP 2 (pc' := 212) (st' := [(2, (Ad E 1)), (2, (Ad E 1))]) (lo' := [(0, (2, (Ad E 1))), (1, (0, 0))]) rfl ?_
                                refine r_getKI hX hP rfl fl_12_349 hS (x := behind_210) behind_210_e ?_
                                refine r_callV gd hX hP rfl cv_12_355 hS (d' := 0) (mc' := 0) (ms' := 0) (as' := [(0, behind_210)]) (st := []) (by decide) (by decide) (by decide) rfl rfl (Nat.le_of_ble_eq_true rfl) (c_X12_look E S (hv [84, 85] [] (up (up (hv [83] [] (up G 1 (Ad E 1) 83 bf1) Gk8) 1 (Ad E 1) 84 at_8) 1 (Ad E 1) 85 0) Gk210) behind_210 hS tf3 tf3e (by omega) (by omega)) ?_
                                rintro _ _ _ ⟨rfl, rfl, z453, rfl, (⟨z453a, z453b, f454⟩ | ⟨rfl, f455⟩)⟩
                                · skip
                                  refine r_callS gd hX hP rfl cs_12_376 (d' := 0) (mc' := 0) (ms' := 0) (as' := [(0, z453)]) (st := []) (by decide) (by decide) (by decide) rfl rfl (Nat.le_of_ble_eq_true rfl) (c_X12_isDigit E S (hv [84, 85] [] (up (up (hv [83] [] (up G 1 (Ad E 1) 83 bf1) Gk8) 1 (Ad E 1) 84 at_8) 1 (Ad E 1) 85 0) Gk210) z453 (by omega) (by omega)) ?_
                                  rintro _ _ _ ⟨rfl, rfl, z456, rfl, (⟨rfl, f457, f458⟩ | ⟨rfl, f459⟩)⟩
                                  · skip
                                    refine r_if_eq hX hP rfl (tgt := 274) rfl (by omega) (by omega) (fun c460 => ?_) (fun c460 => ?_)
                                    · skip
                                      exfalso; omega
                                    · skip
                                      refine r_ex hX hP 1 (pc' := 225) (st' := [(2, (Ad E 1))]) (lo' := [(0, (2, (Ad E 1))), (1, (0, 0))]) rfl ?_
                                      refine r_getKI hX hP rfl fl_12_349 hS (x := behind_210) behind_210_e ?_
                                      refine r_ex hX hP 1 (pc' := 229) (st' := [(2, (Ad E 1)), (0, behind_210)]) (lo' := [(0, (2, (Ad E 1))), (1, (0, 0))]) rfl ?_
                                      refine r_getKI hX hP rfl fl_12_352 hS (x := at_8) at_8_e ?_
                                      refine r_ex hX hP 2 (pc' := 235) (st' := [(0, 7), (0, (behind_210 - at_8))]) (lo' := [(0, (2, (Ad E 1))), (1, (0, 0))]) rfl ?_
                                      refine r_ic_ge hX hP rfl (tgt := 261) rfl (by omega) (by omega) (by omega) (by omega) (fun c461 => ?_) (fun c461 => ?_)
                                      · skip
                                        refine r_ex hX hP 2 (pc' := 263) (st' := [(2, (Ad E 1)), (2, (Ad E 1))]) (lo' := [(0, (2, (Ad E 1))), (1, (0, 0))]) rfl ?_
                                        refine r_getKI hX hP rfl fl_12_349 hS (x := behind_210) behind_210_e ?_
                                        refine r_ex hX hP 2 (pc' := 268) (st' := [(0, (behind_210 + 1)), (2, (Ad E 1))]) (lo' := [(0, (2, (Ad E 1))), (1, (0, 0))]) rfl ?_
                                        refine r_putIK hX hP rfl fp_12_349 hS (by omega) (by omega) (fun h462 => ?_)
                                        refine r_ex hX hP 1 (pc' := 210) (st' := []) (lo' := [(0, (2, (Ad E 1))), (1, (0, 0))]) rfl ?_
                                        refine r_eqG (X := X) (hq_up (hq_base _ _ _ _) rfl) ?_
                                        exact ih210 (behind_210 + 1) _ h462 (by omega) (by omega) (by omega)
                                      · skip
                                        refine r_ex hX hP 3 (pc' := 242) (st' := [(2, (Ad E 1)), (0, 10), (2, (Ad E 1))]) (lo' := [(0, (2, (Ad E 1))), (1, (0, 0))]) rfl ?_
                                        refine r_getI hX hP rfl fl_12_379 hS (fun nf463 nf463e nf463a nf463b => ?_)
                                        refine r_ex hX hP 1 (pc' := 246) (st' := [(0, (10 * nf463)), (2, (Ad E 1))]) (lo' := [(0, (2, (Ad E 1))), (1, (0, 0))]) rfl ?_
                                        refine r_hvI hX (fun w464 w464a w464b w464e => ?_)
                                        refine r_ex hX hP 2 (pc' := 248) (st' := [(2, (Ad E 1)), (2, (Ad E 1)), (0, w464), (2, (Ad E 1))]) (lo' := [(0, (2, (Ad E 1))), (1, (0, 0))]) rfl ?_
                                        refine r_getKI hX hP rfl fl_12_349 hS (x := behind_210) behind_210_e ?_
                                        refine r_callV gd hX hP rfl cv_12_355 hS (d' := 0) (mc' := 0) (ms' := 0) (as' := [(0, behind_210)]) (st := [(0, w464), (2, (Ad E 1))]) (by decide) (by decide) (by decide) rfl rfl (Nat.le_of_ble_eq_true rfl) (c_X12_look E S (hv [84, 85] [] (up (up (hv [83] [] (up G 1 (Ad E 1) 83 bf1) Gk8) 1 (Ad E 1) 84 at_8) 1 (Ad E 1) 85 0) Gk210) behind_210 hS tf3 tf3e (by omega) (by omega)) ?_
                                        rintro _ _ _ ⟨rfl, rfl, z465, rfl, (⟨z465a, z465b, f466⟩ | ⟨rfl, f467⟩)⟩
                                        · skip
                                          refine r_ex hX hP 1 (pc' := 255) (st' := [(0, (w464 + z465)), (2, (Ad E 1))]) (lo' := [(0, (2, (Ad E 1))), (1, (0, 0))]) rfl ?_
                                          refine r_hvI hX (fun w468 w468a w468b w468e => ?_)
                                          refine r_ex hX hP 2 (pc' := 258) (st' := [(0, (w468 - 48)), (2, (Ad E 1))]) (lo' := [(0, (2, (Ad E 1))), (1, (0, 0))]) rfl ?_
                                          refine r_hvI hX (fun w469 w469a w469b w469e => ?_)
                                          refine r_putIK hX hP rfl fp_12_379 hS (by omega) (by omega) (fun h470 => ?_)
                                          refine r_ex hX hP 2 (pc' := 263) (st' := [(2, (Ad E 1)), (2, (Ad E 1))]) (lo' := [(0, (2, (Ad E 1))), (1, (0, 0))]) rfl ?_
                                          refine r_getKI hX hP rfl fl_12_349 hS (x := behind_210) behind_210_e ?_
                                          refine r_ex hX hP 2 (pc' := 268) (st' := [(0, (behind_210 + 1)), (2, (Ad E 1))]) (lo' := [(0, (2, (Ad E 1))), (1, (0, 0))]) rfl ?_
                                          refine r_putIK hX hP rfl fp_12_349 hS (by omega) (by omega) (fun h471 => ?_)
                                          refine r_ex hX hP 1 (pc' := 210) (st' := []) (lo' := [(0, (2, (Ad E 1))), (1, (0, 0))]) rfl ?_
                                          refine r_eqG (X := X) (hq_up (hq_up (hq_base _ _ _ _) rfl) rfl) ?_
                                          exact ih210 (behind_210 + 1) _ h471 (by omega) (by omega) (by omega)
                                        · skip
                                          refine r_ex hX hP 3 (pc' := 258) (st' := [(0, ((w464 + 0) - 48)), (2, (Ad E 1))]) (lo' := [(0, (2, (Ad E 1))), (1, (0, 0))]) rfl ?_
                                          refine r_hvI hX (fun w472 w472a w472b w472e => ?_)
                                          refine r_putIK hX hP rfl fp_12_379 hS (by omega) (by omega) (fun h473 => ?_)
                                          refine r_ex hX hP 2 (pc' := 263) (st' := [(2, (Ad E 1)), (2, (Ad E 1))]) (lo' := [(0, (2, (Ad E 1))), (1, (0, 0))]) rfl ?_
                                          refine r_getKI hX hP rfl fl_12_349 hS (x := behind_210) behind_210_e ?_
                                          refine r_ex hX hP 2 (pc' := 268) (st' := [(0, (behind_210 + 1)), (2, (Ad E 1))]) (lo' := [(0, (2, (Ad E 1))), (1, (0, 0))]) rfl ?_
                                          refine r_putIK hX hP rfl fp_12_349 hS (by omega) (by omega) (fun h474 => ?_)
                                          refine r_ex hX hP 1 (pc' := 210) (st' := []) (lo' := [(0, (2, (Ad E 1))), (1, (0, 0))]) rfl ?_
                                          refine r_eqG (X := X) (hq_up (hq_up (hq_base _ _ _ _) rfl) rfl) ?_
                                          exact ih210 (behind_210 + 1) _ h474 (by omega) (by omega) (by omega)
                                  · skip
                                    refine r_if_eq hX hP rfl (tgt := 274) rfl (by omega) (by omega) (fun c475 => ?_) (fun c475 => ?_)
                                    · skip
                                      refine r_ex hX hP 2 (pc' := 276) (st' := [(2, (Ad E 1)), (2, (Ad E 1))]) (lo' := [(0, (2, (Ad E 1))), (1, (0, 0))]) rfl ?_
                                      refine r_getKI hX hP rfl fl_12_349 hS (x := behind_210) behind_210_e ?_
                                      refine r_ex hX hP 1 (pc' := 280) (st' := [(2, (Ad E 1)), (0, behind_210), (2, (Ad E 1))]) (lo' := [(0, (2, (Ad E 1))), (1, (0, 0))]) rfl ?_
                                      refine r_getKI hX hP rfl fl_12_352 hS (x := at_8) at_8_e ?_
                                      refine r_ex hX hP 2 (pc' := 286) (st' := [(0, 7), (0, (behind_210 - at_8)), (2, (Ad E 1))]) (lo' := [(0, (2, (Ad E 1))), (1, (0, 0))]) rfl ?_
                                      refine r_ic_le hX hP rfl (tgt := 293) rfl (by omega) (by omega) (by omega) (by omega) (fun c476 => ?_) (fun c476 => ?_)
                                      · skip
                                        refine r_ex hX hP 1 (pc' := 294) (st' := [(0, 2), (2, (Ad E 1))]) (lo' := [(0, (2, (Ad E 1))), (1, (0, 0))]) rfl ?_
                                        refine r_putIK hX hP rfl fp_12_358 hS (by omega) (by omega) (fun h477 => ?_)
                                        refine r_ex hX hP 1 (pc' := 354) (st' := []) (lo' := [(0, (2, (Ad E 1))), (1, (0, 0))]) rfl ?_
                                        exact r_retV hX hP rfl rfl (by omega) (by omega) ⟨rfl, ⟨_, (hq_up (hq_loop (hq_up (hq_up (hq_loop (hq_up (hq_refl _ _ _) rfl) rfl) rfl) rfl) rfl) rfl).symm⟩, rfl, trivial⟩
                                      · skip
                                        refine r_ex hX hP 2 (pc' := 294) (st' := [(0, 4), (2, (Ad E 1))]) (lo' := [(0, (2, (Ad E 1))), (1, (0, 0))]) rfl ?_
                                        refine r_putIK hX hP rfl fp_12_358 hS (by omega) (by omega) (fun h478 => ?_)
                                        refine r_ex hX hP 1 (pc' := 354) (st' := []) (lo' := [(0, (2, (Ad E 1))), (1, (0, 0))]) rfl ?_
                                        exact r_retV hX hP rfl rfl (by omega) (by omega) ⟨rfl, ⟨_, (hq_up (hq_loop (hq_up (hq_up (hq_loop (hq_up (hq_refl _ _ _) rfl) rfl) rfl) rfl) rfl) rfl).symm⟩, rfl, trivial⟩
                                    · skip
                                      exfalso; omega
                                · skip
                                  refine r_callS gd hX hP rfl cs_12_376 (d' := 0) (mc' := 0) (ms' := 0) (as' := [(0, 0)]) (st := []) (by decide) (by decide) (by decide) rfl rfl (Nat.le_of_ble_eq_true rfl) (c_X12_isDigit E S (hv [84, 85] [] (up (up (hv [83] [] (up G 1 (Ad E 1) 83 bf1) Gk8) 1 (Ad E 1) 84 at_8) 1 (Ad E 1) 85 0) Gk210) 0 (by omega) (by omega)) ?_
                                  rintro _ _ _ ⟨rfl, rfl, z479, rfl, (⟨rfl, f480, f481⟩ | ⟨rfl, f482⟩)⟩
                                  · skip
                                    refine r_if_eq hX hP rfl (tgt := 274) rfl (by omega) (by omega) (fun c483 => ?_) (fun c483 => ?_)
                                    · skip
                                      exfalso; omega
                                    · skip
                                      refine r_ex hX hP 1 (pc' := 225) (st' := [(2, (Ad E 1))]) (lo' := [(0, (2, (Ad E 1))), (1, (0, 0))]) rfl ?_
                                      refine r_getKI hX hP rfl fl_12_349 hS (x := behind_210) behind_210_e ?_
                                      refine r_ex hX hP 1 (pc' := 229) (st' := [(2, (Ad E 1)), (0, behind_210)]) (lo' := [(0, (2, (Ad E 1))), (1, (0, 0))]) rfl ?_
                                      refine r_getKI hX hP rfl fl_12_352 hS (x := at_8) at_8_e ?_
                                      refine r_ex hX hP 2 (pc' := 235) (st' := [(0, 7), (0, (behind_210 - at_8))]) (lo' := [(0, (2, (Ad E 1))), (1, (0, 0))]) rfl ?_
                                      refine r_ic_ge hX hP rfl (tgt := 261) rfl (by omega) (by omega) (by omega) (by omega) (fun c484 => ?_) (fun c484 => ?_)
                                      · skip
                                        refine r_ex hX hP 2 (pc' := 263) (st' := [(2, (Ad E 1)), (2, (Ad E 1))]) (lo' := [(0, (2, (Ad E 1))), (1, (0, 0))]) rfl ?_
                                        refine r_getKI hX hP rfl fl_12_349 hS (x := behind_210) behind_210_e ?_
                                        refine r_ex hX hP 2 (pc' := 268) (st' := [(0, (behind_210 + 1)), (2, (Ad E 1))]) (lo' := [(0, (2, (Ad E 1))), (1, (0, 0))]) rfl ?_
                                        refine r_putIK hX hP rfl fp_12_349 hS (by omega) (by omega) (fun h485 => ?_)
                                        refine r_ex hX hP 1 (pc' := 210) (st' := []) (lo' := [(0, (2, (Ad E 1))), (1, (0, 0))]) rfl ?_
                                        refine r_eqG (X := X) (hq_up (hq_base _ _ _ _) rfl) ?_
                                        exact ih210 (behind_210 + 1) _ h485 (by omega) (by omega) (by omega)
                                      · skip
                                        refine r_ex hX hP 3 (pc' := 242) (st' := [(2, (Ad E 1)), (0, 10), (2, (Ad E 1))]) (lo' := [(0, (2, (Ad E 1))), (1, (0, 0))]) rfl ?_
                                        refine r_getI hX hP rfl fl_12_379 hS (fun nf486 nf486e nf486a nf486b => ?_)
                                        refine r_ex hX hP 1 (pc' := 246) (st' := [(0, (10 * nf486)), (2, (Ad E 1))]) (lo' := [(0, (2, (Ad E 1))), (1, (0, 0))]) rfl ?_
                                        refine r_hvI hX (fun w487 w487a w487b w487e => ?_)
                                        refine r_ex hX hP 2 (pc' := 248) (st' := [(2, (Ad E 1)), (2, (Ad E 1)), (0, w487), (2, (Ad E 1))]) (lo' := [(0, (2, (Ad E 1))), (1, (0, 0))]) rfl ?_
                                        refine r_getKI hX hP rfl fl_12_349 hS (x := behind_210) behind_210_e ?_
                                        refine r_callV gd hX hP rfl cv_12_355 hS (d' := 0) (mc' := 0) (ms' := 0) (as' := [(0, behind_210)]) (st := [(0, w487), (2, (Ad E 1))]) (by decide) (by decide) (by decide) rfl rfl (Nat.le_of_ble_eq_true rfl) (c_X12_look E S (hv [84, 85] [] (up (up (hv [83] [] (up G 1 (Ad E 1) 83 bf1) Gk8) 1 (Ad E 1) 84 at_8) 1 (Ad E 1) 85 0) Gk210) behind_210 hS tf3 tf3e (by omega) (by omega)) ?_
                                        rintro _ _ _ ⟨rfl, rfl, z488, rfl, (⟨z488a, z488b, f489⟩ | ⟨rfl, f490⟩)⟩
                                        · skip
                                          refine r_ex hX hP 1 (pc' := 255) (st' := [(0, (w487 + z488)), (2, (Ad E 1))]) (lo' := [(0, (2, (Ad E 1))), (1, (0, 0))]) rfl ?_
                                          refine r_hvI hX (fun w491 w491a w491b w491e => ?_)
                                          refine r_ex hX hP 2 (pc' := 258) (st' := [(0, (w491 - 48)), (2, (Ad E 1))]) (lo' := [(0, (2, (Ad E 1))), (1, (0, 0))]) rfl ?_
                                          refine r_hvI hX (fun w492 w492a w492b w492e => ?_)
                                          refine r_putIK hX hP rfl fp_12_379 hS (by omega) (by omega) (fun h493 => ?_)
                                          refine r_ex hX hP 2 (pc' := 263) (st' := [(2, (Ad E 1)), (2, (Ad E 1))]) (lo' := [(0, (2, (Ad E 1))), (1, (0, 0))]) rfl ?_
                                          refine r_getKI hX hP rfl fl_12_349 hS (x := behind_210) behind_210_e ?_
                                          refine r_ex hX hP 2 (pc' := 268) (st' := [(0, (behind_210 + 1)), (2, (Ad E 1))]) (lo' := [(0, (2, (Ad E 1))), (1, (0, 0))]) rfl ?_
                                          refine r_putIK hX hP rfl fp_12_349 hS (by omega) (by omega) (fun h494 => ?_)
                                          refine r_ex hX hP 1 (pc' := 210) (st' := []) (lo' := [(0, (2, (Ad E 1))), (1, (0, 0))]) rfl ?_
                                          refine r_eqG (X := X) (hq_up (hq_up (hq_base _ _ _ _) rfl) rfl) ?_
                                          exact ih210 (behind_210 + 1) _ h494 (by omega) (by omega) (by omega)
                                        · skip
                                          refine r_ex hX hP 3 (pc' := 258) (st' := [(0, ((w487 + 0) - 48)), (2, (Ad E 1))]) (lo' := [(0, (2, (Ad E 1))), (1, (0, 0))]) rfl ?_
                                          refine r_hvI hX (fun w495 w495a w495b w495e => ?_)
                                          refine r_putIK hX hP rfl fp_12_379 hS (by omega) (by omega) (fun h496 => ?_)
                                          refine r_ex hX hP 2 (pc' := 263) (st' := [(2, (Ad E 1)), (2, (Ad E 1))]) (lo' := [(0, (2, (Ad E 1))), (1, (0, 0))]) rfl ?_
                                          refine r_getKI hX hP rfl fl_12_349 hS (x := behind_210) behind_210_e ?_
                                          refine r_ex hX hP 2 (pc' := 268) (st' := [(0, (behind_210 + 1)), (2, (Ad E 1))]) (lo' := [(0, (2, (Ad E 1))), (1, (0, 0))]) rfl ?_
                                          refine r_putIK hX hP rfl fp_12_349 hS (by omega) (by omega) (fun h497 => ?_)
                                          refine r_ex hX hP 1 (pc' := 210) (st' := []) (lo' := [(0, (2, (Ad E 1))), (1, (0, 0))]) rfl ?_
                                          refine r_eqG (X := X) (hq_up (hq_up (hq_base _ _ _ _) rfl) rfl) ?_
                                          exact ih210 (behind_210 + 1) _ h497 (by omega) (by omega) (by omega)
                                  · skip
                                    refine r_if_eq hX hP rfl (tgt := 274) rfl (by omega) (by omega) (fun c498 => ?_) (fun c498 => ?_)
                                    · skip
                                      refine r_ex hX hP 2 (pc' := 276) (st' := [(2, (Ad E 1)), (2, (Ad E 1))]) (lo' := [(0, (2, (Ad E 1))), (1, (0, 0))]) rfl ?_
                                      refine r_getKI hX hP rfl fl_12_349 hS (x := behind_210) behind_210_e ?_
                                      refine r_ex hX hP 1 (pc' := 280) (st' := [(2, (Ad E 1)), (0, behind_210), (2, (Ad E 1))]) (lo' := [(0, (2, (Ad E 1))), (1, (0, 0))]) rfl ?_
                                      refine r_getKI hX hP rfl fl_12_352 hS (x := at_8) at_8_e ?_
                                      refine r_ex hX hP 2 (pc' := 286) (st' := [(0, 7), (0, (behind_210 - at_8)), (2, (Ad E 1))]) (lo' := [(0, (2, (Ad E 1))), (1, (0, 0))]) rfl ?_
                                      refine r_ic_le hX hP rfl (tgt := 293) rfl (by omega) (by omega) (by omega) (by omega) (fun c499 => ?_) (fun c499 => ?_)
                                      · skip
                                        refine r_ex hX hP 1 (pc' := 294) (st' := [(0, 2), (2, (Ad E 1))]) (lo' := [(0, (2, (Ad E 1))), (1, (0, 0))]) rfl ?_
                                        refine r_putIK hX hP rfl fp_12_358 hS (by omega) (by omega) (fun h500 => ?_)
                                        refine r_ex hX hP 1 (pc' := 354) (st' := []) (lo' := [(0, (2, (Ad E 1))), (1, (0, 0))]) rfl ?_
                                        exact r_retV hX hP rfl rfl (by omega) (by omega) ⟨rfl, ⟨_, (hq_up (hq_loop (hq_up (hq_up (hq_loop (hq_up (hq_refl _ _ _) rfl) rfl) rfl) rfl) rfl) rfl).symm⟩, rfl, trivial⟩
                                      · skip
                                        refine r_ex hX hP 2 (pc' := 294) (st' := [(0, 4), (2, (Ad E 1))]) (lo' := [(0, (2, (Ad E 1))), (1, (0, 0))]) rfl ?_
                                        refine r_putIK hX hP rfl fp_12_358 hS (by omega) (by omega) (fun h501 => ?_)
                                        refine r_ex hX hP 1 (pc' := 354) (st' := []) (lo' := [(0, (2, (Ad E 1))), (1, (0, 0))]) rfl ?_
                                        exact r_retV hX hP rfl rfl (by omega) (by omega) ⟨rfl, ⟨_, (hq_up (hq_loop (hq_up (hq_up (hq_loop (hq_up (hq_refl _ _ _) rfl) rfl) rfl) rfl) rfl) rfl).symm⟩, rfl, trivial⟩
                                    · skip
                                      exfalso; omega
                            refine r_eqG (X := X) (hq_refl [84, 85] [] _) ?_
                            exact loop210 ((400 - at_8) + 1).toNat at_8 _ h263 (by omega) (by omega) (by omega)
                        · skip
                          refine r_if_eq hX hP rfl (tgt := 300) rfl (by omega) (by omega) (fun c502 => ?_) (fun c502 => ?_)
                          · skip
                            refine r_ex hX hP 2 (pc' := 302) (st' := [(2, (Ad E 1)), (2, (Ad E 1))]) (lo' := [(0, (2, (Ad E 1))), (1, (0, 0))]) rfl ?_
                            refine r_getKI hX hP rfl fl_12_352 hS (x := at_8) at_8_e ?_
                            refine r_ex hX hP 2 (pc' := 307) (st' := [(0, (at_8 + 1)), (2, (Ad E 1))]) (lo' := [(0, (2, (Ad E 1))), (1, (0, 0))]) rfl ?_
                            refine r_putIK hX hP rfl fp_12_349 hS (by omega) (by omega) (fun h503 => ?_)
                            refine r_ex hX hP 2 (pc' := 312) (st' := [(0, 0), (2, (Ad E 1))]) (lo' := [(0, (2, (Ad E 1))), (1, (0, 0))]) rfl ?_
                            refine r_putIK hX hP rfl fp_12_379 hS (by omega) (by omega) (fun h504 => ?_)
                            refine r_ex hX hP 3 (pc' := 319) (st' := [(0, 59), (0, 0), (2, (Ad E 1))]) (lo' := [(0, (2, (Ad E 1))), (1, (0, 0))]) rfl ?_
                            refine r_ic_eq hX hP rfl (tgt := 346) rfl (by omega) (by omega) (by omega) (by omega) (fun c505 => ?_) (fun c505 => ?_)
                            · skip
                              exfalso; omega
                            · skip
                              refine r_ex hX hP 2 (pc' := 325) (st' := [(0, 123), (0, 0), (2, (Ad E 1))]) (lo' := [(0, (2, (Ad E 1))), (1, (0, 0))]) rfl ?_
                              refine r_ic_eq hX hP rfl (tgt := 346) rfl (by omega) (by omega) (by omega) (by omega) (fun c506 => ?_) (fun c506 => ?_)
                              · skip
                                exfalso; omega
                              · skip
                                refine r_ex hX hP 2 (pc' := 331) (st' := [(0, 125), (0, 0), (2, (Ad E 1))]) (lo' := [(0, (2, (Ad E 1))), (1, (0, 0))]) rfl ?_
                                refine r_ic_eq hX hP rfl (tgt := 346) rfl (by omega) (by omega) (by omega) (by omega) (fun c507 => ?_) (fun c507 => ?_)
                                · skip
                                  exfalso; omega
                                · skip
                                  refine r_ex hX hP 2 (pc' := 337) (st' := [(0, 60), (0, 0), (2, (Ad E 1))]) (lo' := [(0, (2, (Ad E 1))), (1, (0, 0))]) rfl ?_
                                  refine r_ic_eq hX hP rfl (tgt := 346) rfl (by omega) (by omega) (by omega) (by omega) (fun c508 => ?_) (fun c508 => ?_)
                                  · skip
                                    exfalso; omega
                                  · skip
                                    refine r_ex hX hP 2 (pc' := 343) (st' := [(0, 62), (0, 0), (2, (Ad E 1))]) (lo' := [(0, (2, (Ad E 1))), (1, (0, 0))]) rfl ?_
                                    refine r_ic_ne hX hP rfl (tgt := 350) rfl (by omega) (by omega) (by omega) (by omega) (fun c509 => ?_) (fun c509 => ?_)
                                    · skip
                                      refine r_ex hX hP 1 (pc' := 351) (st' := [(0, 4), (2, (Ad E 1))]) (lo' := [(0, (2, (Ad E 1))), (1, (0, 0))]) rfl ?_
                                      refine r_putIK hX hP rfl fp_12_358 hS (by omega) (by omega) (fun h510 => ?_)
                                      exact r_retV hX hP rfl rfl (by omega) (by omega) ⟨rfl, ⟨_, (hq_up (hq_up (hq_up (hq_up (hq_loop (hq_up (hq_refl _ _ _) rfl) rfl) rfl) rfl) rfl) rfl).symm⟩, rfl, trivial⟩
                                    · skip
                                      exfalso; omega
                          · skip
                            exfalso; omega
                      · skip
                        exfalso; omega
                · skip
                  refine r_ex hX hP 2 (pc' := 79) (st' := [(0, 0), (2, (Ad E 1))]) (lo' := [(0, (2, (Ad E 1)))]) rfl ?_
                  refine r_putIK hX hP rfl fp_12_358 hS (by omega) (by omega) (fun h511 => ?_)
                  exact r_retV hX hP rfl rfl (by omega) (by omega) ⟨rfl, ⟨_, (hq_up (hq_up (hq_loop (hq_up (hq_refl _ _ _) rfl) rfl) rfl) rfl).symm⟩, rfl, trivial⟩
              · skip
                refine r_ex hX hP 2 (pc' := 47) (st' := [(2, (Ad E 1)), (2, (Ad E 1))]) (lo' := [(0, (2, (Ad E 1)))]) rfl ?_
                refine r_getKI hX hP rfl fl_12_352 hS (x := at_8) at_8_e ?_
                refine r_ex hX hP 2 (pc' := 52) (st' := [(0, (at_8 + 1)), (2, (Ad E 1))]) (lo' := [(0, (2, (Ad E 1)))]) rfl ?_
                refine r_putIK hX hP rfl fp_12_352 hS (by omega) (by omega) (fun h512 => ?_)
                refine r_ex hX hP 1 (pc' := 8) (st' := []) (lo' := [(0, (2, (Ad E 1)))]) rfl ?_
                refine r_eqG (X := X) (hq_up (hq_base _ _ _ _) rfl) ?_
                exact ih8 (at_8 + 1) _ h512 (by omega) (by omega) (by omega)
            · skip
              refine r_ex hX hP 1 (pc' := 42) (st' := [(0, 32), (0, 0)]) (lo' := [(0, (2, (Ad E 1)))]) rfl ?_
              refine r_ic_ne hX hP rfl (tgt := 58) rfl (by omega) (by omega) (by omega) (by omega) (fun c513 => ?_) (fun c513 => ?_)
              · skip
                refine r_ex hX hP 2 (pc' := 60) (st' := [(2, (Ad E 1)), (2, (Ad E 1))]) (lo' := [(0, (2, (Ad E 1)))]) rfl ?_
                refine r_getKI hX hP rfl fl_12_352 hS (x := at_8) at_8_e ?_
                refine r_putIK hX hP rfl fp_12_349 hS (by omega) (by omega) (fun h514 => ?_)
                refine r_ex hX hP 1 (pc' := 67) (st' := [(2, (Ad E 1))]) (lo' := [(0, (2, (Ad E 1)))]) rfl ?_
                refine r_getKI hX hP rfl fl_12_352 hS (x := at_8) at_8_e ?_
                refine r_ex hX hP 1 (pc' := 71) (st' := [(2, (Ad E 1)), (0, at_8)]) (lo' := [(0, (2, (Ad E 1)))]) rfl ?_
                refine r_getKI hX hP rfl fl_12_346 hS (x := tf3) tf3e ?_
                refine r_ic_lt hX hP rfl (tgt := 83) rfl (by omega) (by omega) (by omega) (by omega) (fun c515 => ?_) (fun c515 => ?_)
                · skip
                  refine r_ex hX hP 2 (pc' := 85) (st' := [(2, (Ad E 1)), (2, (Ad E 1))]) (lo' := [(0, (2, (Ad E 1)))]) rfl ?_
                  refine r_getKI hX hP rfl fl_12_352 hS (x := at_8) at_8_e ?_
                  refine r_callV gd hX hP rfl cv_12_355 hS (d' := 0) (mc' := 0) (ms' := 0) (as' := [(0, at_8)]) (st := []) (by decide) (by decide) (by decide) rfl rfl (Nat.le_of_ble_eq_true rfl) (c_X12_look E S (up (hv [83] [] (up G 1 (Ad E 1) 83 bf1) Gk8) 1 (Ad E 1) 84 at_8) at_8 hS tf3 tf3e (by omega) (by omega)) ?_
                  rintro _ _ _ ⟨rfl, rfl, z516, rfl, (⟨z516a, z516b, f517⟩ | ⟨rfl, f518⟩)⟩
                  · skip
                    refine r_ex hX hP 2 (pc' := 93) (st' := [(0, z516)]) (lo' := [(0, (2, (Ad E 1))), (1, (0, z516))]) rfl ?_
                    refine r_callS gd hX hP rfl cs_12_361 (d' := 0) (mc' := 0) (ms' := 0) (as' := [(0, z516)]) (st := []) (by decide) (by decide) (by decide) rfl rfl (Nat.le_of_ble_eq_true rfl) (c_X12_isLetter E S (up (hv [83] [] (up G 1 (Ad E 1) 83 bf1) Gk8) 1 (Ad E 1) 84 at_8) z516 (by omega) (by omega)) ?_
                    rintro _ _ _ ⟨rfl, rfl, z519, rfl, (⟨rfl, f520, f521⟩ | ⟨rfl, f522⟩)⟩
                    · skip
                      refine r_if_eq hX hP rfl (tgt := 198) rfl (by omega) (by omega) (fun c523 => ?_) (fun c523 => ?_)
                      · skip
                        exfalso; omega
                      · skip
                        refine r_ex hX hP 2 (pc' := 101) (st' := [(0, 1), (2, (Ad E 1))]) (lo' := [(0, (2, (Ad E 1))), (1, (0, z516))]) rfl ?_
                        refine r_putIK hX hP rfl fp_12_358 hS (by omega) (by omega) (fun h524 => ?_)
                        refine r_ex hX hP 2 (pc' := 106) (st' := [(1, 0), (2, (Ad E 1))]) (lo' := [(0, (2, (Ad E 1))), (1, (0, z516))]) rfl ?_
                        refine r_putLK hX hP rfl fp_12_364 hS (by omega) (by omega) (fun h525 => ?_)
                        have loop109 : ∀ (n : Nat) (behind_109 : Int) (Gk109 : Gh), behind_109 = (hv [84, 87] [] (up (up (up (hv [83] [] (up G 1 (Ad E 1) 83 bf1) Gk8) 1 (Ad E 1) 84 at_8) 1 (Ad E 1) 82 1) 1 (Ad E 1) 87 0) Gk109) 1 (Ad E 1) 84 → 0 ≤ behind_109 → behind_109 ≤ 400 → 400 - behind_109 < (n : Int) → X 0 0 109 [] [(0, (2, (Ad E 1))), (1, (0, z516))] S (hv [84, 87] [] (up (up (up (hv [83] [] (up G 1 (Ad E 1) 83 bf1) Gk8) 1 (Ad E 1) 84 at_8) 1 (Ad E 1) 82 1) 1 (Ad E 1) 87 0) Gk109) := by
                          intro n
                          induction n with
                          | zero => intro behind_109 Gk109 behind_109_e y109_0 y109_1 ym109; exfalso; omega
                          | succ n ih109 =>
                            intro behind_109 Gk109 behind_109_e y109_0 y109_1 ym109
                            refine r_ex hX hP 2 (pc' := 111) (st' := [(2, (Ad E 1)), (2, (Ad E 1))]) (lo' := [(0, (2, (Ad E 1))), (1, (0, z516))]) rfl ?_
                            refine r_getKI hX hP rfl fl_12_349 hS (x := behind_109) behind_109_e ?_
                            refine r_callV gd hX hP rfl cv_12_355 hS (d' := 0) (mc' := 0) (ms' := 0) (as' := [(0, behind_109)]) (st := []) (by decide) (by decide) (by decide) rfl rfl (Nat.le_of_ble_eq_true rfl) (c_X12_look E S (hv [84, 87] [] (up (up (up (hv [83] [] (up G 1 (Ad E 1) 83 bf1) Gk8) 1 (Ad E 1) 84 at_8) 1 (Ad E 1) 82 1) 1 (Ad E 1) 87 0) Gk109) behind_109 hS tf3 tf3e (by omega) (by omega)) ?_
                            rintro _ _ _ ⟨rfl, rfl, z526, rfl, (⟨z526a, z526b, f527⟩ | ⟨rfl, f528⟩)⟩
                            · skip
                              refine r_callS gd hX hP rfl cs_12_361 (d' := 0) (mc' := 0) (ms' := 0) (as' := [(0, z526)]) (st := []) (by decide) (by decide) (by decide) rfl rfl (Nat.le_of_ble_eq_true rfl) (c_X12_isLetter E S (hv [84, 87] [] (up (up (up (hv [83] [] (up G 1 (Ad E 1) 83 bf1) Gk8) 1 (Ad E 1) 84 at_8) 1 (Ad E 1) 82 1) 1 (Ad E 1) 87 0) Gk109) z526 (by omega) (by omega)) ?_
                              rintro _ _ _ ⟨rfl, rfl, z529, rfl, (⟨rfl, f530, f531⟩ | ⟨rfl, f532⟩)⟩
                              · skip
                                refine r_if_eq hX hP rfl (tgt := 182) rfl (by omega) (by omega) (fun c533 => ?_) (fun c533 => ?_)
                                · skip
                                  exfalso; omega
                                · skip
                                  refine r_ex hX hP 2 (pc' := 125) (st' := [(2, (Ad E 1)), (2, (Ad E 1))]) (lo' := [(0, (2, (Ad E 1))), (1, (0, z516))]) rfl ?_
                                  refine r_getKI hX hP rfl fl_12_349 hS (x := behind_109) behind_109_e ?_
                                  refine r_ex hX hP 1 (pc' := 129) (st' := [(2, (Ad E 1)), (0, behind_109), (2, (Ad E 1))]) (lo' := [(0, (2, (Ad E 1))), (1, (0, z516))]) rfl ?_
                                  refine r_getKI hX hP rfl fl_12_352 hS (x := at_8) at_8_e ?_
                                  refine r_ex hX hP 2 (pc' := 135) (st' := [(0, 12), (0, (behind_109 - at_8)), (2, (Ad E 1))]) (lo' := [(0, (2, (Ad E 1))), (1, (0, z516))]) rfl ?_
                                  refine r_ic_ge hX hP rfl (tgt := 163) rfl (by omega) (by omega) (by omega) (by omega) (fun c534 => ?_) (fun c534 => ?_)
                                  · skip
                                    refine r_ldc2 hX hP rfl (v := (-1)) (tbg sg9 135 rfl rfl) ?_
                                    refine r_putLK hX hP rfl fp_12_364 hS (by omega) (by omega) (fun h535 => ?_)
                                    refine r_ex hX hP 2 (pc' := 171) (st' := [(2, (Ad E 1)), (2, (Ad E 1))]) (lo' := [(0, (2, (Ad E 1))), (1, (0, z516))]) rfl ?_
                                    refine r_getKI hX hP rfl fl_12_349 hS (x := behind_109) behind_109_e ?_
                                    refine r_ex hX hP 2 (pc' := 176) (st' := [(0, (behind_109 + 1)), (2, (Ad E 1))]) (lo' := [(0, (2, (Ad E 1))), (1, (0, z516))]) rfl ?_
                                    refine r_putIK hX hP rfl fp_12_349 hS (by omega) (by omega) (fun h536 => ?_)
                                    refine r_ex hX hP 1 (pc' := 109) (st' := []) (lo' := [(0, (2, (Ad E 1))), (1, (0, z516))]) rfl ?_
                                    refine r_eqG (X := X) (hq_up (hq_up (hq_base _ _ _ _) rfl) rfl) ?_
                                    exact ih109 (behind_109 + 1) _ h536 (by omega) (by omega) (by omega)
                                  · skip
                                    refine r_ex hX hP 1 (pc' := 139) (st' := [(2, (Ad E 1)), (2, (Ad E 1))]) (lo' := [(0, (2, (Ad E 1))), (1, (0, z516))]) rfl ?_
                                    refine r_getL hX hP rfl fl_12_364 hS (fun wf537 wf537e wf537a wf537b => ?_)
                                    refine r_ldc2 hX hP rfl (v := 32) (tbg sg9 133 rfl rfl) ?_
                                    refine r_ex hX hP 1 (pc' := 146) (st' := [(1, (wf537 * 32)), (2, (Ad E 1))]) (lo' := [(0, (2, (Ad E 1))), (1, (0, z516))]) rfl ?_
                                    refine r_hvL hX (fun w538 w538a w538b w538e => ?_)
                                    refine r_ex hX hP 2 (pc' := 148) (st' := [(2, (Ad E 1)), (2, (Ad E 1)), (1, w538), (2, (Ad E 1))]) (lo' := [(0, (2, (Ad E 1))), (1, (0, z516))]) rfl ?_
                                    refine r_getKI hX hP rfl fl_12_349 hS (x := behind_109) behind_109_e ?_
                                    refine r_callV gd hX hP rfl cv_12_355 hS (d' := 0) (mc' := 0) (ms' := 0) (as' := [(0, behind_109)]) (st := [(1, w538), (2, (Ad E 1))]) (by decide) (by decide) (by decide) rfl rfl (Nat.le_of_ble_eq_true rfl) (c_X12_look E S (hv [84, 87] [] (up (up (up (hv [83] [] (up G 1 (Ad E 1) 83 bf1) Gk8) 1 (Ad E 1) 84 at_8) 1 (Ad E 1) 82 1) 1 (Ad E 1) 87 0) Gk109) behind_109 hS tf3 tf3e (by omega) (by omega)) ?_
                                    rintro _ _ _ ⟨rfl, rfl, z539, rfl, (⟨z539a, z539b, f540⟩ | ⟨rfl, f541⟩)⟩
                                    · skip
                                      refine r_i2l hX hP rfl (by omega) (by omega) ?_
                                      refine r_ex hX hP 1 (pc' := 156) (st' := [(1, (w538 + z539)), (2, (Ad E 1))]) (lo' := [(0, (2, (Ad E 1))), (1, (0, z516))]) rfl ?_
                                      refine r_hvL hX (fun w542 w542a w542b w542e => ?_)
                                      refine r_ldc2 hX hP rfl (v := 96) (tbg sg9 134 rfl rfl) ?_
                                      refine r_ex hX hP 1 (pc' := 160) (st' := [(1, (w542 - 96)), (2, (Ad E 1))]) (lo' := [(0, (2, (Ad E 1))), (1, (0, z516))]) rfl ?_
                                      refine r_hvL hX (fun w543 w543a w543b w543e => ?_)
                                      refine r_ex hX hP 1 (pc' := 166) (st' := [(1, w543), (2, (Ad E 1))]) (lo' := [(0, (2, (Ad E 1))), (1, (0, z516))]) rfl ?_
                                      refine r_putLK hX hP rfl fp_12_364 hS (by omega) (by omega) (fun h544 => ?_)
                                      refine r_ex hX hP 2 (pc' := 171) (st' := [(2, (Ad E 1)), (2, (Ad E 1))]) (lo' := [(0, (2, (Ad E 1))), (1, (0, z516))]) rfl ?_
                                      refine r_getKI hX hP rfl fl_12_349 hS (x := behind_109) behind_109_e ?_
                                      refine r_ex hX hP 2 (pc' := 176) (st' := [(0, (behind_109 + 1)), (2, (Ad E 1))]) (lo' := [(0, (2, (Ad E 1))), (1, (0, z516))]) rfl ?_
                                      refine r_putIK hX hP rfl fp_12_349 hS (by omega) (by omega) (fun h545 => ?_)
                                      refine r_ex hX hP 1 (pc' := 109) (st' := []) (lo' := [(0, (2, (Ad E 1))), (1, (0, z516))]) rfl ?_
                                      refine r_eqG (X := X) (hq_up (hq_up (hq_base _ _ _ _) rfl) rfl) ?_
                                      exact ih109 (behind_109 + 1) _ h545 (by omega) (by omega) (by omega)
                                    · skip
                                      refine r_i2l hX hP rfl (by omega) (by omega) ?_
                                      refine r_ex hX hP 1 (pc' := 156) (st' := [(1, (w538 + 0)), (2, (Ad E 1))]) (lo' := [(0, (2, (Ad E 1))), (1, (0, z516))]) rfl ?_
                                      refine r_ldc2 hX hP rfl (v := 96) (tbg sg9 134 rfl rfl) ?_
                                      refine r_ex hX hP 1 (pc' := 160) (st' := [(1, ((w538 + 0) - 96)), (2, (Ad E 1))]) (lo' := [(0, (2, (Ad E 1))), (1, (0, z516))]) rfl ?_
                                      refine r_hvL hX (fun w546 w546a w546b w546e => ?_)
                                      refine r_ex hX hP 1 (pc' := 166) (st' := [(1, w546), (2, (Ad E 1))]) (lo' := [(0, (2, (Ad E 1))), (1, (0, z516))]) rfl ?_
                                      refine r_putLK hX hP rfl fp_12_364 hS (by omega) (by omega) (fun h547 => ?_)
                                      refine r_ex hX hP 2 (pc' := 171) (st' := [(2, (Ad E 1)), (2, (Ad E 1))]) (lo' := [(0, (2, (Ad E 1))), (1, (0, z516))]) rfl ?_
                                      refine r_getKI hX hP rfl fl_12_349 hS (x := behind_109) behind_109_e ?_
                                      refine r_ex hX hP 2 (pc' := 176) (st' := [(0, (behind_109 + 1)), (2, (Ad E 1))]) (lo' := [(0, (2, (Ad E 1))), (1, (0, z516))]) rfl ?_
                                      refine r_putIK hX hP rfl fp_12_349 hS (by omega) (by omega) (fun h548 => ?_)
                                      refine r_ex hX hP 1 (pc' := 109) (st' := []) (lo' := [(0, (2, (Ad E 1))), (1, (0, z516))]) rfl ?_
                                      refine r_eqG (X := X) (hq_up (hq_up (hq_base _ _ _ _) rfl) rfl) ?_
                                      exact ih109 (behind_109 + 1) _ h548 (by omega) (by omega) (by omega)
                              · skip
                                refine r_if_eq hX hP rfl (tgt := 182) rfl (by omega) (by omega) (fun c549 => ?_) (fun c549 => ?_)
                                · skip
                                  refine r_ex hX hP 2 (pc' := 184) (st' := [(2, (Ad E 1)), (2, (Ad E 1))]) (lo' := [(0, (2, (Ad E 1))), (1, (0, z516))]) rfl ?_
                                  refine r_getKI hX hP rfl fl_12_349 hS (x := behind_109) behind_109_e ?_
                                  refine r_ex hX hP 1 (pc' := 188) (st' := [(2, (Ad E 1)), (0, behind_109), (2, (Ad E 1))]) (lo' := [(0, (2, (Ad E 1))), (1, (0, z516))]) rfl ?_
                                  refine r_getKI hX hP rfl fl_12_352 hS (x := at_8) at_8_e ?_
                                  refine r_ex hX hP 1 (pc' := 192) (st' := [(0, (behind_109 - at_8)), (2, (Ad E 1))]) (lo' := [(0, (2, (Ad E 1))), (1, (0, z516))]) rfl ?_
                                  refine r_putIK hX hP rfl fp_12_373 hS (by omega) (by omega) (fun h550 => ?_)
                                  refine r_ex hX hP 1 (pc' := 354) (st' := []) (lo' := [(0, (2, (Ad E 1))), (1, (0, z516))]) rfl ?_
                                  exact r_retV hX hP rfl rfl (by omega) (by omega) ⟨rfl, ⟨_, (hq_up (hq_loop (hq_up (hq_up (hq_up (hq_loop (hq_up (hq_refl _ _ _) rfl) rfl) rfl) rfl) rfl) rfl) rfl).symm⟩, rfl, trivial⟩
                                · skip
                                  exfalso; omega
                            · skip
                              refine r_callS gd hX hP rfl cs_12_361 (d' := 0) (mc' := 0) (ms' := 0) (as' := [(0, 0)]) (st := []) (by decide) (by decide) (by decide) rfl rfl (Nat.le_of_ble_eq_true rfl) (c_X12_isLetter E S (hv [84, 87] [] (up (up (up (hv [83] [] (up G 1 (Ad E 1) 83 bf1) Gk8) 1 (Ad E 1) 84 at_8) 1 (Ad E 1) 82 1) 1 (Ad E 1) 87 0) Gk109) 0 (by omega) (by omega)) ?_
                              rintro _ _ _ ⟨rfl, rfl, z551, rfl, (⟨rfl, f552, f553⟩ | ⟨rfl, f554⟩)⟩
                              · skip
                                refine r_if_eq hX hP rfl (tgt := 182) rfl (by omega) (by omega) (fun c555 => ?_) (fun c555 => ?_)
                                · skip
                                  exfalso; omega
                                · skip
                                  refine r_ex hX hP 2 (pc' := 125) (st' := [(2, (Ad E 1)), (2, (Ad E 1))]) (lo' := [(0, (2, (Ad E 1))), (1, (0, z516))]) rfl ?_
                                  refine r_getKI hX hP rfl fl_12_349 hS (x := behind_109) behind_109_e ?_
                                  refine r_ex hX hP 1 (pc' := 129) (st' := [(2, (Ad E 1)), (0, behind_109), (2, (Ad E 1))]) (lo' := [(0, (2, (Ad E 1))), (1, (0, z516))]) rfl ?_
                                  refine r_getKI hX hP rfl fl_12_352 hS (x := at_8) at_8_e ?_
                                  refine r_ex hX hP 2 (pc' := 135) (st' := [(0, 12), (0, (behind_109 - at_8)), (2, (Ad E 1))]) (lo' := [(0, (2, (Ad E 1))), (1, (0, z516))]) rfl ?_
                                  refine r_ic_ge hX hP rfl (tgt := 163) rfl (by omega) (by omega) (by omega) (by omega) (fun c556 => ?_) (fun c556 => ?_)
                                  · skip
                                    refine r_ldc2 hX hP rfl (v := (-1)) (tbg sg9 135 rfl rfl) ?_
                                    refine r_putLK hX hP rfl fp_12_364 hS (by omega) (by omega) (fun h557 => ?_)
                                    refine r_ex hX hP 2 (pc' := 171) (st' := [(2, (Ad E 1)), (2, (Ad E 1))]) (lo' := [(0, (2, (Ad E 1))), (1, (0, z516))]) rfl ?_
                                    refine r_getKI hX hP rfl fl_12_349 hS (x := behind_109) behind_109_e ?_
                                    refine r_ex hX hP 2 (pc' := 176) (st' := [(0, (behind_109 + 1)), (2, (Ad E 1))]) (lo' := [(0, (2, (Ad E 1))), (1, (0, z516))]) rfl ?_
                                    refine r_putIK hX hP rfl fp_12_349 hS (by omega) (by omega) (fun h558 => ?_)
                                    refine r_ex hX hP 1 (pc' := 109) (st' := []) (lo' := [(0, (2, (Ad E 1))), (1, (0, z516))]) rfl ?_
                                    refine r_eqG (X := X) (hq_up (hq_up (hq_base _ _ _ _) rfl) rfl) ?_
                                    exact ih109 (behind_109 + 1) _ h558 (by omega) (by omega) (by omega)
                                  · skip
                                    refine r_ex hX hP 1 (pc' := 139) (st' := [(2, (Ad E 1)), (2, (Ad E 1))]) (lo' := [(0, (2, (Ad E 1))), (1, (0, z516))]) rfl ?_
                                    refine r_getL hX hP rfl fl_12_364 hS (fun wf559 wf559e wf559a wf559b => ?_)
                                    refine r_ldc2 hX hP rfl (v := 32) (tbg sg9 133 rfl rfl) ?_
                                    refine r_ex hX hP 1 (pc' := 146) (st' := [(1, (wf559 * 32)), (2, (Ad E 1))]) (lo' := [(0, (2, (Ad E 1))), (1, (0, z516))]) rfl ?_
                                    refine r_hvL hX (fun w560 w560a w560b w560e => ?_)
                                    refine r_ex hX hP 2 (pc' := 148) (st' := [(2, (Ad E 1)), (2, (Ad E 1)), (1, w560), (2, (Ad E 1))]) (lo' := [(0, (2, (Ad E 1))), (1, (0, z516))]) rfl ?_
                                    refine r_getKI hX hP rfl fl_12_349 hS (x := behind_109) behind_109_e ?_
                                    refine r_callV gd hX hP rfl cv_12_355 hS (d' := 0) (mc' := 0) (ms' := 0) (as' := [(0, behind_109)]) (st := [(1, w560), (2, (Ad E 1))]) (by decide) (by decide) (by decide) rfl rfl (Nat.le_of_ble_eq_true rfl) (c_X12_look E S (hv [84, 87] [] (up (up (up (hv [83] [] (up G 1 (Ad E 1) 83 bf1) Gk8) 1 (Ad E 1) 84 at_8) 1 (Ad E 1) 82 1) 1 (Ad E 1) 87 0) Gk109) behind_109 hS tf3 tf3e (by omega) (by omega)) ?_
                                    rintro _ _ _ ⟨rfl, rfl, z561, rfl, (⟨z561a, z561b, f562⟩ | ⟨rfl, f563⟩)⟩
                                    · skip
                                      refine r_i2l hX hP rfl (by omega) (by omega) ?_
                                      refine r_ex hX hP 1 (pc' := 156) (st' := [(1, (w560 + z561)), (2, (Ad E 1))]) (lo' := [(0, (2, (Ad E 1))), (1, (0, z516))]) rfl ?_
                                      refine r_hvL hX (fun w564 w564a w564b w564e => ?_)
                                      refine r_ldc2 hX hP rfl (v := 96) (tbg sg9 134 rfl rfl) ?_
                                      refine r_ex hX hP 1 (pc' := 160) (st' := [(1, (w564 - 96)), (2, (Ad E 1))]) (lo' := [(0, (2, (Ad E 1))), (1, (0, z516))]) rfl ?_
                                      refine r_hvL hX (fun w565 w565a w565b w565e => ?_)
                                      refine r_ex hX hP 1 (pc' := 166) (st' := [(1, w565), (2, (Ad E 1))]) (lo' := [(0, (2, (Ad E 1))), (1, (0, z516))]) rfl ?_
                                      refine r_putLK hX hP rfl fp_12_364 hS (by omega) (by omega) (fun h566 => ?_)
                                      refine r_ex hX hP 2 (pc' := 171) (st' := [(2, (Ad E 1)), (2, (Ad E 1))]) (lo' := [(0, (2, (Ad E 1))), (1, (0, z516))]) rfl ?_
                                      refine r_getKI hX hP rfl fl_12_349 hS (x := behind_109) behind_109_e ?_
                                      refine r_ex hX hP 2 (pc' := 176) (st' := [(0, (behind_109 + 1)), (2, (Ad E 1))]) (lo' := [(0, (2, (Ad E 1))), (1, (0, z516))]) rfl ?_
                                      refine r_putIK hX hP rfl fp_12_349 hS (by omega) (by omega) (fun h567 => ?_)
                                      refine r_ex hX hP 1 (pc' := 109) (st' := []) (lo' := [(0, (2, (Ad E 1))), (1, (0, z516))]) rfl ?_
                                      refine r_eqG (X := X) (hq_up (hq_up (hq_base _ _ _ _) rfl) rfl) ?_
                                      exact ih109 (behind_109 + 1) _ h567 (by omega) (by omega) (by omega)
                                    · skip
                                      refine r_i2l hX hP rfl (by omega) (by omega) ?_
                                      refine r_ex hX hP 1 (pc' := 156) (st' := [(1, (w560 + 0)), (2, (Ad E 1))]) (lo' := [(0, (2, (Ad E 1))), (1, (0, z516))]) rfl ?_
                                      refine r_ldc2 hX hP rfl (v := 96) (tbg sg9 134 rfl rfl) ?_
                                      refine r_ex hX hP 1 (pc' := 160) (st' := [(1, ((w560 + 0) - 96)), (2, (Ad E 1))]) (lo' := [(0, (2, (Ad E 1))), (1, (0, z516))]) rfl ?_
                                      refine r_hvL hX (fun w568 w568a w568b w568e => ?_)
                                      refine r_ex hX hP 1 (pc' := 166) (st' := [(1, w568), (2, (Ad E 1))]) (lo' := [(0, (2, (Ad E 1))), (1, (0, z516))]) rfl ?_
                                      refine r_putLK hX hP rfl fp_12_364 hS (by omega) (by omega) (fun h569 => ?_)
                                      refine r_ex hX hP 2 (pc' := 171) (st' := [(2, (Ad E 1)), (2, (Ad E 1))]) (lo' := [(0, (2, (Ad E 1))), (1, (0, z516))]) rfl ?_
                                      refine r_getKI hX hP rfl fl_12_349 hS (x := behind_109) behind_109_e ?_
                                      refine r_ex hX hP 2 (pc' := 176) (st' := [(0, (behind_109 + 1)), (2, (Ad E 1))]) (lo' := [(0, (2, (Ad E 1))), (1, (0, z516))]) rfl ?_
                                      refine r_putIK hX hP rfl fp_12_349 hS (by omega) (by omega) (fun h570 => ?_)
                                      refine r_ex hX hP 1 (pc' := 109) (st' := []) (lo' := [(0, (2, (Ad E 1))), (1, (0, z516))]) rfl ?_
                                      refine r_eqG (X := X) (hq_up (hq_up (hq_base _ _ _ _) rfl) rfl) ?_
                                      exact ih109 (behind_109 + 1) _ h570 (by omega) (by omega) (by omega)
                              · skip
                                refine r_if_eq hX hP rfl (tgt := 182) rfl (by omega) (by omega) (fun c571 => ?_) (fun c571 => ?_)
                                · skip
                                  refine r_ex hX hP 2 (pc' := 184) (st' := [(2, (Ad E 1)), (2, (Ad E 1))]) (lo' := [(0, (2, (Ad E 1))), (1, (0, z516))]) rfl ?_
                                  refine r_getKI hX hP rfl fl_12_349 hS (x := behind_109) behind_109_e ?_
                                  refine r_ex hX hP 1 (pc' := 188) (st' := [(2, (Ad E 1)), (0, behind_109), (2, (Ad E 1))]) (lo' := [(0, (2, (Ad E 1))), (1, (0, z516))]) rfl ?_
                                  refine r_getKI hX hP rfl fl_12_352 hS (x := at_8) at_8_e ?_
                                  refine r_ex hX hP 1 (pc' := 192) (st' := [(0, (behind_109 - at_8)), (2, (Ad E 1))]) (lo' := [(0, (2, (Ad E 1))), (1, (0, z516))]) rfl ?_
                                  refine r_putIK hX hP rfl fp_12_373 hS (by omega) (by omega) (fun h572 => ?_)
                                  refine r_ex hX hP 1 (pc' := 354) (st' := []) (lo' := [(0, (2, (Ad E 1))), (1, (0, z516))]) rfl ?_
                                  exact r_retV hX hP rfl rfl (by omega) (by omega) ⟨rfl, ⟨_, (hq_up (hq_loop (hq_up (hq_up (hq_up (hq_loop (hq_up (hq_refl _ _ _) rfl) rfl) rfl) rfl) rfl) rfl) rfl).symm⟩, rfl, trivial⟩
                                · skip
                                  exfalso; omega
                        refine r_eqG (X := X) (hq_refl [84, 87] [] _) ?_
                        exact loop109 ((400 - at_8) + 1).toNat at_8 _ h514 (by omega) (by omega) (by omega)
                    · skip
                      refine r_if_eq hX hP rfl (tgt := 198) rfl (by omega) (by omega) (fun c573 => ?_) (fun c573 => ?_)
                      · skip
                        refine r_ex hX hP 1 (pc' := 199) (st' := [(0, z516)]) (lo' := [(0, (2, (Ad E 1))), (1, (0, z516))]) rfl ?_
                        refine r_callS gd hX hP rfl cs_12_376 (d' := 0) (mc' := 0) (ms' := 0) (as' := [(0, z516)]) (st := []) (by decide) (by decide) (by decide) rfl rfl (Nat.le_of_ble_eq_true rfl) (c_X12_isDigit E S (up (hv [83] [] (up G 1 (Ad E 1) 83 bf1) Gk8) 1 (Ad E 1) 84 at_8) z516 (by omega) (by omega)) ?_
                        rintro _ _ _ ⟨rfl, rfl, z574, rfl, (⟨rfl, f575, f576⟩ | ⟨rfl, f577⟩)⟩
                        · skip
                          refine r_if_eq hX hP rfl (tgt := 300) rfl (by omega) (by omega) (fun c578 => ?_) (fun c578 => ?_)
                          · skip
                            exfalso; omega
                          · skip
                            refine r_ex hX hP 2 (pc' := 207) (st' := [(0, 0), (2, (Ad E 1))]) (lo' := [(0, (2, (Ad E 1))), (1, (0, z516))]) rfl ?_
                            refine r_putIK hX hP rfl fp_12_379 hS (by omega) (by omega) (fun h579 => ?_)
                            have loop210 : ∀ (n : Nat) (behind_210 : Int) (Gk210 : Gh), behind_210 = (hv [84, 85] [] (up (up (hv [83] [] (up G 1 (Ad E 1) 83 bf1) Gk8) 1 (Ad E 1) 84 at_8) 1 (Ad E 1) 85 0) Gk210) 1 (Ad E 1) 84 → 0 ≤ behind_210 → behind_210 ≤ 400 → 400 - behind_210 < (n : Int) → X 0 0 210 [] [(0, (2, (Ad E 1))), (1, (0, z516))] S (hv [84, 85] [] (up (up (hv [83] [] (up G 1 (Ad E 1) 83 bf1) Gk8) 1 (Ad E 1) 84 at_8) 1 (Ad E 1) 85 0) Gk210) := by
                              intro n
                              induction n with
                              | zero => intro behind_210 Gk210 behind_210_e y210_0 y210_1 ym210; exfalso; omega
                              | succ n ih210 =>
                                intro behind_210 Gk210 behind_210_e y210_0 y210_1 ym210
                                refine r_ex hX hP 2 (pc' := 212) (st' := [(2, (Ad E 1)), (2, (Ad E 1))]) (lo' := [(0, (2, (Ad E 1))), (1, (0, z516))]) rfl ?_
                                refine r_getKI hX hP rfl fl_12_349 hS (x := behind_210) behind_210_e ?_
                                refine r_callV gd hX hP rfl cv_12_355 hS (d' := 0) (mc' := 0) (ms' := 0) (as' := [(0, behind_210)]) (st := []) (by decide) (by decide) (by decide) rfl rfl (Nat.le_of_ble_eq_true rfl) (c_X12_look E S (hv [84, 85] [] (up (up (hv [83] [] (up G 1 (Ad E 1) 83 bf1) Gk8) 1 (Ad E 1) 84 at_8) 1 (Ad E 1) 85 0) Gk210) behind_210 hS tf3 tf3e (by omega) (by omega)) ?_
                                rintro _ _ _ ⟨rfl, rfl, z580, rfl, (⟨z580a, z580b, f581⟩ | ⟨rfl, f582⟩)⟩
                                · skip
                                  refine r_callS gd hX hP rfl cs_12_376 (d' := 0) (mc' := 0) (ms' := 0) (as' := [(0, z580)]) (st := []) (by decide) (by decide) (by decide) rfl rfl (Nat.le_of_ble_eq_true rfl) (c_X12_isDigit E S (hv [84, 85] [] (up (up (hv [83] [] (up G 1 (Ad E 1) 83 bf1) Gk8) 1 (Ad E 1) 84 at_8) 1 (Ad E 1) 85 0) Gk210) z580 (by omega) (by omega)) ?_
                                  rintro _ _ _ ⟨rfl, rfl, z583, rfl, (⟨rfl, f584, f585⟩ | ⟨rfl, f586⟩)⟩
                                  · skip
                                    refine r_if_eq hX hP rfl (tgt := 274) rfl (by omega) (by omega) (fun c587 => ?_) (fun c587 => ?_)
                                    · skip
                                      exfalso; omega
                                    · skip
                                      refine r_ex hX hP 1 (pc' := 225) (st' := [(2, (Ad E 1))]) (lo' := [(0, (2, (Ad E 1))), (1, (0, z516))]) rfl ?_
                                      refine r_getKI hX hP rfl fl_12_349 hS (x := behind_210) behind_210_e ?_
                                      refine r_ex hX hP 1 (pc' := 229) (st' := [(2, (Ad E 1)), (0, behind_210)]) (lo' := [(0, (2, (Ad E 1))), (1, (0, z516))]) rfl ?_
                                      refine r_getKI hX hP rfl fl_12_352 hS (x := at_8) at_8_e ?_
                                      refine r_ex hX hP 2 (pc' := 235) (st' := [(0, 7), (0, (behind_210 - at_8))]) (lo' := [(0, (2, (Ad E 1))), (1, (0, z516))]) rfl ?_
                                      refine r_ic_ge hX hP rfl (tgt := 261) rfl (by omega) (by omega) (by omega) (by omega) (fun c588 => ?_) (fun c588 => ?_)
                                      · skip
                                        refine r_ex hX hP 2 (pc' := 263) (st' := [(2, (Ad E 1)), (2, (Ad E 1))]) (lo' := [(0, (2, (Ad E 1))), (1, (0, z516))]) rfl ?_
                                        refine r_getKI hX hP rfl fl_12_349 hS (x := behind_210) behind_210_e ?_
                                        refine r_ex hX hP 2 (pc' := 268) (st' := [(0, (behind_210 + 1)), (2, (Ad E 1))]) (lo' := [(0, (2, (Ad E 1))), (1, (0, z516))]) rfl ?_
                                        refine r_putIK hX hP rfl fp_12_349 hS (by omega) (by omega) (fun h589 => ?_)
                                        refine r_ex hX hP 1 (pc' := 210) (st' := []) (lo' := [(0, (2, (Ad E 1))), (1, (0, z516))]) rfl ?_
                                        refine r_eqG (X := X) (hq_up (hq_base _ _ _ _) rfl) ?_
                                        exact ih210 (behind_210 + 1) _ h589 (by omega) (by omega) (by omega)
                                      · skip
                                        refine r_ex hX hP 3 (pc' := 242) (st' := [(2, (Ad E 1)), (0, 10), (2, (Ad E 1))]) (lo' := [(0, (2, (Ad E 1))), (1, (0, z516))]) rfl ?_
                                        refine r_getI hX hP rfl fl_12_379 hS (fun nf590 nf590e nf590a nf590b => ?_)
                                        refine r_ex hX hP 1 (pc' := 246) (st' := [(0, (10 * nf590)), (2, (Ad E 1))]) (lo' := [(0, (2, (Ad E 1))), (1, (0, z516))]) rfl ?_
                                        refine r_hvI hX (fun w591 w591a w591b w591e => ?_)
                                        refine r_ex hX hP 2 (pc' := 248) (st' := [(2, (Ad E 1)), (2, (Ad E 1)), (0, w591), (2, (Ad E 1))]) (lo' := [(0, (2, (Ad E 1))), (1, (0, z516))]) rfl ?_
                                        refine r_getKI hX hP rfl fl_12_349 hS (x := behind_210) behind_210_e ?_
                                        refine r_callV gd hX hP rfl cv_12_355 hS (d' := 0) (mc' := 0) (ms' := 0) (as' := [(0, behind_210)]) (st := [(0, w591), (2, (Ad E 1))]) (by decide) (by decide) (by decide) rfl rfl (Nat.le_of_ble_eq_true rfl) (c_X12_look E S (hv [84, 85] [] (up (up (hv [83] [] (up G 1 (Ad E 1) 83 bf1) Gk8) 1 (Ad E 1) 84 at_8) 1 (Ad E 1) 85 0) Gk210) behind_210 hS tf3 tf3e (by omega) (by omega)) ?_
                                        rintro _ _ _ ⟨rfl, rfl, z592, rfl, (⟨z592a, z592b, f593⟩ | ⟨rfl, f594⟩)⟩
                                        · skip
                                          refine r_ex hX hP 1 (pc' := 255) (st' := [(0, (w591 + z592)), (2, (Ad E 1))]) (lo' := [(0, (2, (Ad E 1))), (1, (0, z516))]) rfl ?_
                                          refine r_hvI hX (fun w595 w595a w595b w595e => ?_)
                                          refine r_ex hX hP 2 (pc' := 258) (st' := [(0, (w595 - 48)), (2, (Ad E 1))]) (lo' := [(0, (2, (Ad E 1))), (1, (0, z516))]) rfl ?_
                                          refine r_hvI hX (fun w596 w596a w596b w596e => ?_)
                                          refine r_putIK hX hP rfl fp_12_379 hS (by omega) (by omega) (fun h597 => ?_)
                                          refine r_ex hX hP 2 (pc' := 263) (st' := [(2, (Ad E 1)), (2, (Ad E 1))]) (lo' := [(0, (2, (Ad E 1))), (1, (0, z516))]) rfl ?_
                                          refine r_getKI hX hP rfl fl_12_349 hS (x := behind_210) behind_210_e ?_
                                          refine r_ex hX hP 2 (pc' := 268) (st' := [(0, (behind_210 + 1)), (2, (Ad E 1))]) (lo' := [(0, (2, (Ad E 1))), (1, (0, z516))]) rfl ?_
                                          refine r_putIK hX hP rfl fp_12_349 hS (by omega) (by omega) (fun h598 => ?_)
                                          refine r_ex hX hP 1 (pc' := 210) (st' := []) (lo' := [(0, (2, (Ad E 1))), (1, (0, z516))]) rfl ?_
                                          refine r_eqG (X := X) (hq_up (hq_up (hq_base _ _ _ _) rfl) rfl) ?_
                                          exact ih210 (behind_210 + 1) _ h598 (by omega) (by omega) (by omega)
                                        · skip
                                          refine r_ex hX hP 3 (pc' := 258) (st' := [(0, ((w591 + 0) - 48)), (2, (Ad E 1))]) (lo' := [(0, (2, (Ad E 1))), (1, (0, z516))]) rfl ?_
                                          refine r_hvI hX (fun w599 w599a w599b w599e => ?_)
                                          refine r_putIK hX hP rfl fp_12_379 hS (by omega) (by omega) (fun h600 => ?_)
                                          refine r_ex hX hP 2 (pc' := 263) (st' := [(2, (Ad E 1)), (2, (Ad E 1))]) (lo' := [(0, (2, (Ad E 1))), (1, (0, z516))]) rfl ?_
                                          refine r_getKI hX hP rfl fl_12_349 hS (x := behind_210) behind_210_e ?_
                                          refine r_ex hX hP 2 (pc' := 268) (st' := [(0, (behind_210 + 1)), (2, (Ad E 1))]) (lo' := [(0, (2, (Ad E 1))), (1, (0, z516))]) rfl ?_
                                          refine r_putIK hX hP rfl fp_12_349 hS (by omega) (by omega) (fun h601 => ?_)
                                          refine r_ex hX hP 1 (pc' := 210) (st' := []) (lo' := [(0, (2, (Ad E 1))), (1, (0, z516))]) rfl ?_
                                          refine r_eqG (X := X) (hq_up (hq_up (hq_base _ _ _ _) rfl) rfl) ?_
                                          exact ih210 (behind_210 + 1) _ h601 (by omega) (by omega) (by omega)
                                  · skip
                                    refine r_if_eq hX hP rfl (tgt := 274) rfl (by omega) (by omega) (fun c602 => ?_) (fun c602 => ?_)
                                    · skip
                                      refine r_ex hX hP 2 (pc' := 276) (st' := [(2, (Ad E 1)), (2, (Ad E 1))]) (lo' := [(0, (2, (Ad E 1))), (1, (0, z516))]) rfl ?_
                                      refine r_getKI hX hP rfl fl_12_349 hS (x := behind_210) behind_210_e ?_
                                      refine r_ex hX hP 1 (pc' := 280) (st' := [(2, (Ad E 1)), (0, behind_210), (2, (Ad E 1))]) (lo' := [(0, (2, (Ad E 1))), (1, (0, z516))]) rfl ?_
                                      refine r_getKI hX hP rfl fl_12_352 hS (x := at_8) at_8_e ?_
                                      refine r_ex hX hP 2 (pc' := 286) (st' := [(0, 7), (0, (behind_210 - at_8)), (2, (Ad E 1))]) (lo' := [(0, (2, (Ad E 1))), (1, (0, z516))]) rfl ?_
                                      refine r_ic_le hX hP rfl (tgt := 293) rfl (by omega) (by omega) (by omega) (by omega) (fun c603 => ?_) (fun c603 => ?_)
                                      · skip
                                        refine r_ex hX hP 1 (pc' := 294) (st' := [(0, 2), (2, (Ad E 1))]) (lo' := [(0, (2, (Ad E 1))), (1, (0, z516))]) rfl ?_
                                        refine r_putIK hX hP rfl fp_12_358 hS (by omega) (by omega) (fun h604 => ?_)
                                        refine r_ex hX hP 1 (pc' := 354) (st' := []) (lo' := [(0, (2, (Ad E 1))), (1, (0, z516))]) rfl ?_
                                        exact r_retV hX hP rfl rfl (by omega) (by omega) ⟨rfl, ⟨_, (hq_up (hq_loop (hq_up (hq_up (hq_loop (hq_up (hq_refl _ _ _) rfl) rfl) rfl) rfl) rfl) rfl).symm⟩, rfl, trivial⟩
                                      · skip
                                        refine r_ex hX hP 2 (pc' := 294) (st' := [(0, 4), (2, (Ad E 1))]) (lo' := [(0, (2, (Ad E 1))), (1, (0, z516))]) rfl ?_
                                        refine r_putIK hX hP rfl fp_12_358 hS (by omega) (by omega) (fun h605 => ?_)
                                        refine r_ex hX hP 1 (pc' := 354) (st' := []) (lo' := [(0, (2, (Ad E 1))), (1, (0, z516))]) rfl ?_
                                        exact r_retV hX hP rfl rfl (by omega) (by omega) ⟨rfl, ⟨_, (hq_up (hq_loop (hq_up (hq_up (hq_loop (hq_up (hq_refl _ _ _) rfl) rfl) rfl) rfl) rfl) rfl).symm⟩, rfl, trivial⟩
                                    · skip
                                      exfalso; omega
                                · skip
                                  refine r_callS gd hX hP rfl cs_12_376 (d' := 0) (mc' := 0) (ms' := 0) (as' := [(0, 0)]) (st := []) (by decide) (by decide) (by decide) rfl rfl (Nat.le_of_ble_eq_true rfl) (c_X12_isDigit E S (hv [84, 85] [] (up (up (hv [83] [] (up G 1 (Ad E 1) 83 bf1) Gk8) 1 (Ad E 1) 84 at_8) 1 (Ad E 1) 85 0) Gk210) 0 (by omega) (by omega)) ?_
                                  rintro _ _ _ ⟨rfl, rfl, z606, rfl, (⟨rfl, f607, f608⟩ | ⟨rfl, f609⟩)⟩
                                  · skip
                                    refine r_if_eq hX hP rfl (tgt := 274) rfl (by omega) (by omega) (fun c610 => ?_) (fun c610 => ?_)
                                    · skip
                                      exfalso; omega
                                    · skip
                                      refine r_ex hX hP 1 (pc' := 225) (st' := [(2, (Ad E 1))]) (lo' := [(0, (2, (Ad E 1))), (1, (0, z516))]) rfl ?_
                                      refine r_getKI hX hP rfl fl_12_349 hS (x := behind_210) behind_210_e ?_
                                      refine r_ex hX hP 1 (pc' := 229) (st' := [(2, (Ad E 1)), (0, behind_210)]) (lo' := [(0, (2, (Ad E 1))), (1, (0, z516))]) rfl ?_
                                      refine r_getKI hX hP rfl fl_12_352 hS (x := at_8) at_8_e ?_
                                      refine r_ex hX hP 2 (pc' := 235) (st' := [(0, 7), (0, (behind_210 - at_8))]) (lo' := [(0, (2, (Ad E 1))), (1, (0, z516))]) rfl ?_
                                      refine r_ic_ge hX hP rfl (tgt := 261) rfl (by omega) (by omega) (by omega) (by omega) (fun c611 => ?_) (fun c611 => ?_)
                                      · skip
                                        refine r_ex hX hP 2 (pc' := 263) (st' := [(2, (Ad E 1)), (2, (Ad E 1))]) (lo' := [(0, (2, (Ad E 1))), (1, (0, z516))]) rfl ?_
                                        refine r_getKI hX hP rfl fl_12_349 hS (x := behind_210) behind_210_e ?_
                                        refine r_ex hX hP 2 (pc' := 268) (st' := [(0, (behind_210 + 1)), (2, (Ad E 1))]) (lo' := [(0, (2, (Ad E 1))), (1, (0, z516))]) rfl ?_
                                        refine r_putIK hX hP rfl fp_12_349 hS (by omega) (by omega) (fun h612 => ?_)
                                        refine r_ex hX hP 1 (pc' := 210) (st' := []) (lo' := [(0, (2, (Ad E 1))), (1, (0, z516))]) rfl ?_
                                        refine r_eqG (X := X) (hq_up (hq_base _ _ _ _) rfl) ?_
                                        exact ih210 (behind_210 + 1) _ h612 (by omega) (by omega) (by omega)
                                      · skip
                                        refine r_ex hX hP 3 (pc' := 242) (st' := [(2, (Ad E 1)), (0, 10), (2, (Ad E 1))]) (lo' := [(0, (2, (Ad E 1))), (1, (0, z516))]) rfl ?_
                                        refine r_getI hX hP rfl fl_12_379 hS (fun nf613 nf613e nf613a nf613b => ?_)
                                        refine r_ex hX hP 1 (pc' := 246) (st' := [(0, (10 * nf613)), (2, (Ad E 1))]) (lo' := [(0, (2, (Ad E 1))), (1, (0, z516))]) rfl ?_
                                        refine r_hvI hX (fun w614 w614a w614b w614e => ?_)
                                        refine r_ex hX hP 2 (pc' := 248) (st' := [(2, (Ad E 1)), (2, (Ad E 1)), (0, w614), (2, (Ad E 1))]) (lo' := [(0, (2, (Ad E 1))), (1, (0, z516))]) rfl ?_
                                        refine r_getKI hX hP rfl fl_12_349 hS (x := behind_210) behind_210_e ?_
                                        refine r_callV gd hX hP rfl cv_12_355 hS (d' := 0) (mc' := 0) (ms' := 0) (as' := [(0, behind_210)]) (st := [(0, w614), (2, (Ad E 1))]) (by decide) (by decide) (by decide) rfl rfl (Nat.le_of_ble_eq_true rfl) (c_X12_look E S (hv [84, 85] [] (up (up (hv [83] [] (up G 1 (Ad E 1) 83 bf1) Gk8) 1 (Ad E 1) 84 at_8) 1 (Ad E 1) 85 0) Gk210) behind_210 hS tf3 tf3e (by omega) (by omega)) ?_
                                        rintro _ _ _ ⟨rfl, rfl, z615, rfl, (⟨z615a, z615b, f616⟩ | ⟨rfl, f617⟩)⟩
                                        · skip
                                          refine r_ex hX hP 1 (pc' := 255) (st' := [(0, (w614 + z615)), (2, (Ad E 1))]) (lo' := [(0, (2, (Ad E 1))), (1, (0, z516))]) rfl ?_
                                          refine r_hvI hX (fun w618 w618a w618b w618e => ?_)
                                          refine r_ex hX hP 2 (pc' := 258) (st' := [(0, (w618 - 48)), (2, (Ad E 1))]) (lo' := [(0, (2, (Ad E 1))), (1, (0, z516))]) rfl ?_
                                          refine r_hvI hX (fun w619 w619a w619b w619e => ?_)
                                          refine r_putIK hX hP rfl fp_12_379 hS (by omega) (by omega) (fun h620 => ?_)
                                          refine r_ex hX hP 2 (pc' := 263) (st' := [(2, (Ad E 1)), (2, (Ad E 1))]) (lo' := [(0, (2, (Ad E 1))), (1, (0, z516))]) rfl ?_
                                          refine r_getKI hX hP rfl fl_12_349 hS (x := behind_210) behind_210_e ?_
                                          refine r_ex hX hP 2 (pc' := 268) (st' := [(0, (behind_210 + 1)), (2, (Ad E 1))]) (lo' := [(0, (2, (Ad E 1))), (1, (0, z516))]) rfl ?_
                                          refine r_putIK hX hP rfl fp_12_349 hS (by omega) (by omega) (fun h621 => ?_)
                                          refine r_ex hX hP 1 (pc' := 210) (st' := []) (lo' := [(0, (2, (Ad E 1))), (1, (0, z516))]) rfl ?_
                                          refine r_eqG (X := X) (hq_up (hq_up (hq_base _ _ _ _) rfl) rfl) ?_
                                          exact ih210 (behind_210 + 1) _ h621 (by omega) (by omega) (by omega)
                                        · skip
                                          refine r_ex hX hP 3 (pc' := 258) (st' := [(0, ((w614 + 0) - 48)), (2, (Ad E 1))]) (lo' := [(0, (2, (Ad E 1))), (1, (0, z516))]) rfl ?_
                                          refine r_hvI hX (fun w622 w622a w622b w622e => ?_)
                                          refine r_putIK hX hP rfl fp_12_379 hS (by omega) (by omega) (fun h623 => ?_)
                                          refine r_ex hX hP 2 (pc' := 263) (st' := [(2, (Ad E 1)), (2, (Ad E 1))]) (lo' := [(0, (2, (Ad E 1))), (1, (0, z516))]) rfl ?_
                                          refine r_getKI hX hP rfl fl_12_349 hS (x := behind_210) behind_210_e ?_
                                          refine r_ex hX hP 2 (pc' := 268) (st' := [(0, (behind_210 + 1)), (2, (Ad E 1))]) (lo' := [(0, (2, (Ad E 1))), (1, (0, z516))]) rfl ?_
                                          refine r_putIK hX hP rfl fp_12_349 hS (by omega) (by omega) (fun h624 => ?_)
                                          refine r_ex hX hP 1 (pc' := 210) (st' := []) (lo' := [(0, (2, (Ad E 1))), (1, (0, z516))]) rfl ?_
                                          refine r_eqG (X := X) (hq_up (hq_up (hq_base _ _ _ _) rfl) rfl) ?_
                                          exact ih210 (behind_210 + 1) _ h624 (by omega) (by omega) (by omega)
                                  · skip
                                    refine r_if_eq hX hP rfl (tgt := 274) rfl (by omega) (by omega) (fun c625 => ?_) (fun c625 => ?_)
                                    · skip
                                      refine r_ex hX hP 2 (pc' := 276) (st' := [(2, (Ad E 1)), (2, (Ad E 1))]) (lo' := [(0, (2, (Ad E 1))), (1, (0, z516))]) rfl ?_
                                      refine r_getKI hX hP rfl fl_12_349 hS (x := behind_210) behind_210_e ?_
                                      refine r_ex hX hP 1 (pc' := 280) (st' := [(2, (Ad E 1)), (0, behind_210), (2, (Ad E 1))]) (lo' := [(0, (2, (Ad E 1))), (1, (0, z516))]) rfl ?_
                                      refine r_getKI hX hP rfl fl_12_352 hS (x := at_8) at_8_e ?_
                                      refine r_ex hX hP 2 (pc' := 286) (st' := [(0, 7), (0, (behind_210 - at_8)), (2, (Ad E 1))]) (lo' := [(0, (2, (Ad E 1))), (1, (0, z516))]) rfl ?_
                                      refine r_ic_le hX hP rfl (tgt := 293) rfl (by omega) (by omega) (by omega) (by omega) (fun c626 => ?_) (fun c626 => ?_)
                                      · skip
                                        refine r_ex hX hP 1 (pc' := 294) (st' := [(0, 2), (2, (Ad E 1))]) (lo' := [(0, (2, (Ad E 1))), (1, (0, z516))]) rfl ?_
                                        refine r_putIK hX hP rfl fp_12_358 hS (by omega) (by omega) (fun h627 => ?_)
                                        refine r_ex hX hP 1 (pc' := 354) (st' := []) (lo' := [(0, (2, (Ad E 1))), (1, (0, z516))]) rfl ?_
                                        exact r_retV hX hP rfl rfl (by omega) (by omega) ⟨rfl, ⟨_, (hq_up (hq_loop (hq_up (hq_up (hq_loop (hq_up (hq_refl _ _ _) rfl) rfl) rfl) rfl) rfl) rfl).symm⟩, rfl, trivial⟩
                                      · skip
                                        refine r_ex hX hP 2 (pc' := 294) (st' := [(0, 4), (2, (Ad E 1))]) (lo' := [(0, (2, (Ad E 1))), (1, (0, z516))]) rfl ?_
                                        refine r_putIK hX hP rfl fp_12_358 hS (by omega) (by omega) (fun h628 => ?_)
                                        refine r_ex hX hP 1 (pc' := 354) (st' := []) (lo' := [(0, (2, (Ad E 1))), (1, (0, z516))]) rfl ?_
                                        exact r_retV hX hP rfl rfl (by omega) (by omega) ⟨rfl, ⟨_, (hq_up (hq_loop (hq_up (hq_up (hq_loop (hq_up (hq_refl _ _ _) rfl) rfl) rfl) rfl) rfl) rfl).symm⟩, rfl, trivial⟩
                                    · skip
                                      exfalso; omega
                            refine r_eqG (X := X) (hq_refl [84, 85] [] _) ?_
                            exact loop210 ((400 - at_8) + 1).toNat at_8 _ h514 (by omega) (by omega) (by omega)
                        · skip
                          refine r_if_eq hX hP rfl (tgt := 300) rfl (by omega) (by omega) (fun c629 => ?_) (fun c629 => ?_)
                          · skip
                            refine r_ex hX hP 2 (pc' := 302) (st' := [(2, (Ad E 1)), (2, (Ad E 1))]) (lo' := [(0, (2, (Ad E 1))), (1, (0, z516))]) rfl ?_
                            refine r_getKI hX hP rfl fl_12_352 hS (x := at_8) at_8_e ?_
                            refine r_ex hX hP 2 (pc' := 307) (st' := [(0, (at_8 + 1)), (2, (Ad E 1))]) (lo' := [(0, (2, (Ad E 1))), (1, (0, z516))]) rfl ?_
                            refine r_putIK hX hP rfl fp_12_349 hS (by omega) (by omega) (fun h630 => ?_)
                            refine r_ex hX hP 2 (pc' := 312) (st' := [(0, z516), (2, (Ad E 1))]) (lo' := [(0, (2, (Ad E 1))), (1, (0, z516))]) rfl ?_
                            refine r_putIK hX hP rfl fp_12_379 hS (by omega) (by omega) (fun h631 => ?_)
                            refine r_ex hX hP 3 (pc' := 319) (st' := [(0, 59), (0, z516), (2, (Ad E 1))]) (lo' := [(0, (2, (Ad E 1))), (1, (0, z516))]) rfl ?_
                            refine r_ic_eq hX hP rfl (tgt := 346) rfl (by omega) (by omega) (by omega) (by omega) (fun c632 => ?_) (fun c632 => ?_)
                            · skip
                              refine r_ex hX hP 2 (pc' := 351) (st' := [(0, 3), (2, (Ad E 1))]) (lo' := [(0, (2, (Ad E 1))), (1, (0, z516))]) rfl ?_
                              refine r_putIK hX hP rfl fp_12_358 hS (by omega) (by omega) (fun h633 => ?_)
                              exact r_retV hX hP rfl rfl (by omega) (by omega) ⟨rfl, ⟨_, (hq_up (hq_up (hq_up (hq_up (hq_loop (hq_up (hq_refl _ _ _) rfl) rfl) rfl) rfl) rfl) rfl).symm⟩, rfl, trivial⟩
                            · skip
                              refine r_ex hX hP 2 (pc' := 325) (st' := [(0, 123), (0, z516), (2, (Ad E 1))]) (lo' := [(0, (2, (Ad E 1))), (1, (0, z516))]) rfl ?_
                              refine r_ic_eq hX hP rfl (tgt := 346) rfl (by omega) (by omega) (by omega) (by omega) (fun c634 => ?_) (fun c634 => ?_)
                              · skip
                                refine r_ex hX hP 2 (pc' := 351) (st' := [(0, 3), (2, (Ad E 1))]) (lo' := [(0, (2, (Ad E 1))), (1, (0, z516))]) rfl ?_
                                refine r_putIK hX hP rfl fp_12_358 hS (by omega) (by omega) (fun h635 => ?_)
                                exact r_retV hX hP rfl rfl (by omega) (by omega) ⟨rfl, ⟨_, (hq_up (hq_up (hq_up (hq_up (hq_loop (hq_up (hq_refl _ _ _) rfl) rfl) rfl) rfl) rfl) rfl).symm⟩, rfl, trivial⟩
                              · skip
                                refine r_ex hX hP 2 (pc' := 331) (st' := [(0, 125), (0, z516), (2, (Ad E 1))]) (lo' := [(0, (2, (Ad E 1))), (1, (0, z516))]) rfl ?_
                                refine r_ic_eq hX hP rfl (tgt := 346) rfl (by omega) (by omega) (by omega) (by omega) (fun c636 => ?_) (fun c636 => ?_)
                                · skip
                                  refine r_ex hX hP 2 (pc' := 351) (st' := [(0, 3), (2, (Ad E 1))]) (lo' := [(0, (2, (Ad E 1))), (1, (0, z516))]) rfl ?_
                                  refine r_putIK hX hP rfl fp_12_358 hS (by omega) (by omega) (fun h637 => ?_)
                                  exact r_retV hX hP rfl rfl (by omega) (by omega) ⟨rfl, ⟨_, (hq_up (hq_up (hq_up (hq_up (hq_loop (hq_up (hq_refl _ _ _) rfl) rfl) rfl) rfl) rfl) rfl).symm⟩, rfl, trivial⟩
                                · skip
                                  refine r_ex hX hP 2 (pc' := 337) (st' := [(0, 60), (0, z516), (2, (Ad E 1))]) (lo' := [(0, (2, (Ad E 1))), (1, (0, z516))]) rfl ?_
                                  refine r_ic_eq hX hP rfl (tgt := 346) rfl (by omega) (by omega) (by omega) (by omega) (fun c638 => ?_) (fun c638 => ?_)
                                  · skip
                                    refine r_ex hX hP 2 (pc' := 351) (st' := [(0, 3), (2, (Ad E 1))]) (lo' := [(0, (2, (Ad E 1))), (1, (0, z516))]) rfl ?_
                                    refine r_putIK hX hP rfl fp_12_358 hS (by omega) (by omega) (fun h639 => ?_)
                                    exact r_retV hX hP rfl rfl (by omega) (by omega) ⟨rfl, ⟨_, (hq_up (hq_up (hq_up (hq_up (hq_loop (hq_up (hq_refl _ _ _) rfl) rfl) rfl) rfl) rfl) rfl).symm⟩, rfl, trivial⟩
                                  · skip
                                    refine r_ex hX hP 2 (pc' := 343) (st' := [(0, 62), (0, z516), (2, (Ad E 1))]) (lo' := [(0, (2, (Ad E 1))), (1, (0, z516))]) rfl ?_
                                    refine r_ic_ne hX hP rfl (tgt := 350) rfl (by omega) (by omega) (by omega) (by omega) (fun c640 => ?_) (fun c640 => ?_)
                                    · skip
                                      refine r_ex hX hP 1 (pc' := 351) (st' := [(0, 4), (2, (Ad E 1))]) (lo' := [(0, (2, (Ad E 1))), (1, (0, z516))]) rfl ?_
                                      refine r_putIK hX hP rfl fp_12_358 hS (by omega) (by omega) (fun h641 => ?_)
                                      exact r_retV hX hP rfl rfl (by omega) (by omega) ⟨rfl, ⟨_, (hq_up (hq_up (hq_up (hq_up (hq_loop (hq_up (hq_refl _ _ _) rfl) rfl) rfl) rfl) rfl) rfl).symm⟩, rfl, trivial⟩
                                    · skip
                                      refine r_ex hX hP 2 (pc' := 351) (st' := [(0, 3), (2, (Ad E 1))]) (lo' := [(0, (2, (Ad E 1))), (1, (0, z516))]) rfl ?_
                                      refine r_putIK hX hP rfl fp_12_358 hS (by omega) (by omega) (fun h642 => ?_)
                                      exact r_retV hX hP rfl rfl (by omega) (by omega) ⟨rfl, ⟨_, (hq_up (hq_up (hq_up (hq_up (hq_loop (hq_up (hq_refl _ _ _) rfl) rfl) rfl) rfl) rfl) rfl).symm⟩, rfl, trivial⟩
                          · skip
                            exfalso; omega
                      · skip
                        exfalso; omega
                  · skip
                    refine r_ex hX hP 2 (pc' := 93) (st' := [(0, 0)]) (lo' := [(0, (2, (Ad E 1))), (1, (0, 0))]) rfl ?_
                    refine r_callS gd hX hP rfl cs_12_361 (d' := 0) (mc' := 0) (ms' := 0) (as' := [(0, 0)]) (st := []) (by decide) (by decide) (by decide) rfl rfl (Nat.le_of_ble_eq_true rfl) (c_X12_isLetter E S (up (hv [83] [] (up G 1 (Ad E 1) 83 bf1) Gk8) 1 (Ad E 1) 84 at_8) 0 (by omega) (by omega)) ?_
                    rintro _ _ _ ⟨rfl, rfl, z643, rfl, (⟨rfl, f644, f645⟩ | ⟨rfl, f646⟩)⟩
                    · skip
                      refine r_if_eq hX hP rfl (tgt := 198) rfl (by omega) (by omega) (fun c647 => ?_) (fun c647 => ?_)
                      · skip
                        exfalso; omega
                      · skip
                        refine r_ex hX hP 2 (pc' := 101) (st' := [(0, 1), (2, (Ad E 1))]) (lo' := [(0, (2, (Ad E 1))), (1, (0, 0))]) rfl ?_
                        refine r_putIK hX hP rfl fp_12_358 hS (by omega) (by omega) (fun h648 => ?_)
                        refine r_ex hX hP 2 (pc' := 106) (st' := [(1, 0), (2, (Ad E 1))]) (lo' := [(0, (2, (Ad E 1))), (1, (0, 0))]) rfl ?_
                        refine r_putLK hX hP rfl fp_12_364 hS (by omega) (by omega) (fun h649 => ?_)
                        have loop109 : ∀ (n : Nat) (behind_109 : Int) (Gk109 : Gh), behind_109 = (hv [84, 87] [] (up (up (up (hv [83] [] (up G 1 (Ad E 1) 83 bf1) Gk8) 1 (Ad E 1) 84 at_8) 1 (Ad E 1) 82 1) 1 (Ad E 1) 87 0) Gk109) 1 (Ad E 1) 84 → 0 ≤ behind_109 → behind_109 ≤ 400 → 400 - behind_109 < (n : Int) → X 0 0 109 [] [(0, (2, (Ad E 1))), (1, (0, 0))] S (hv [84, 87] [] (up (up (up (hv [83] [] (up G 1 (Ad E 1) 83 bf1) Gk8) 1 (Ad E 1) 84 at_8) 1 (Ad E 1) 82 1) 1 (Ad E 1) 87 0) Gk109) := by
                          intro n
                          induction n with
                          | zero => intro behind_109 Gk109 behind_109_e y109_0 y109_1 ym109; exfalso; omega
                          | succ n ih109 =>
                            intro behind_109 Gk109 behind_109_e y109_0 y109_1 ym109
                            refine r_ex hX hP 2 (pc' := 111) (st' := [(2, (Ad E 1)), (2, (Ad E 1))]) (lo' := [(0, (2, (Ad E 1))), (1, (0, 0))]) rfl ?_
                            refine r_getKI hX hP rfl fl_12_349 hS (x := behind_109) behind_109_e ?_
                            refine r_callV gd hX hP rfl cv_12_355 hS (d' := 0) (mc' := 0) (ms' := 0) (as' := [(0, behind_109)]) (st := []) (by decide) (by decide) (by decide) rfl rfl (Nat.le_of_ble_eq_true rfl) (c_X12_look E S (hv [84, 87] [] (up (up (up (hv [83] [] (up G 1 (Ad E 1) 83 bf1) Gk8) 1 (Ad E 1) 84 at_8) 1 (Ad E 1) 82 1) 1 (Ad E 1) 87 0) Gk109) behind_109 hS tf3 tf3e (by omega) (by omega)) ?_
                            rintro _ _ _ ⟨rfl, rfl, z650, rfl, (⟨z650a, z650b, f651⟩ | ⟨rfl, f652⟩)⟩
                            · skip
                              refine r_callS gd hX hP rfl cs_12_361 (d' := 0) (mc' := 0) (ms' := 0) (as' := [(0, z650)]) (st := []) (by decide) (by decide) (by decide) rfl rfl (Nat.le_of_ble_eq_true rfl) (c_X12_isLetter E S (hv [84, 87] [] (up (up (up (hv [83] [] (up G 1 (Ad E 1) 83 bf1) Gk8) 1 (Ad E 1) 84 at_8) 1 (Ad E 1) 82 1) 1 (Ad E 1) 87 0) Gk109) z650 (by omega) (by omega)) ?_
                              rintro _ _ _ ⟨rfl, rfl, z653, rfl, (⟨rfl, f654, f655⟩ | ⟨rfl, f656⟩)⟩
                              · skip
                                refine r_if_eq hX hP rfl (tgt := 182) rfl (by omega) (by omega) (fun c657 => ?_) (fun c657 => ?_)
                                · skip
                                  exfalso; omega
                                · skip
                                  refine r_ex hX hP 2 (pc' := 125) (st' := [(2, (Ad E 1)), (2, (Ad E 1))]) (lo' := [(0, (2, (Ad E 1))), (1, (0, 0))]) rfl ?_
                                  refine r_getKI hX hP rfl fl_12_349 hS (x := behind_109) behind_109_e ?_
                                  refine r_ex hX hP 1 (pc' := 129) (st' := [(2, (Ad E 1)), (0, behind_109), (2, (Ad E 1))]) (lo' := [(0, (2, (Ad E 1))), (1, (0, 0))]) rfl ?_
                                  refine r_getKI hX hP rfl fl_12_352 hS (x := at_8) at_8_e ?_
                                  refine r_ex hX hP 2 (pc' := 135) (st' := [(0, 12), (0, (behind_109 - at_8)), (2, (Ad E 1))]) (lo' := [(0, (2, (Ad E 1))), (1, (0, 0))]) rfl ?_
                                  refine r_ic_ge hX hP rfl (tgt := 163) rfl (by omega) (by omega) (by omega) (by omega) (fun c658 => ?_) (fun c658 => ?_)
                                  · skip
                                    refine r_ldc2 hX hP rfl (v := (-1)) (tbg sg9 135 rfl rfl) ?_
                                    refine r_putLK hX hP rfl fp_12_364 hS (by omega) (by omega) (fun h659 => ?_)
                                    refine r_ex hX hP 2 (pc' := 171) (st' := [(2, (Ad E 1)), (2, (Ad E 1))]) (lo' := [(0, (2, (Ad E 1))), (1, (0, 0))]) rfl ?_
                                    refine r_getKI hX hP rfl fl_12_349 hS (x := behind_109) behind_109_e ?_
                                    refine r_ex hX hP 2 (pc' := 176) (st' := [(0, (behind_109 + 1)), (2, (Ad E 1))]) (lo' := [(0, (2, (Ad E 1))), (1, (0, 0))]) rfl ?_
                                    refine r_putIK hX hP rfl fp_12_349 hS (by omega) (by omega) (fun h660 => ?_)
                                    refine r_ex hX hP 1 (pc' := 109) (st' := []) (lo' := [(0, (2, (Ad E 1))), (1, (0, 0))]) rfl ?_
                                    refine r_eqG (X := X) (hq_up (hq_up (hq_base _ _ _ _) rfl) rfl) ?_
                                    exact ih109 (behind_109 + 1) _ h660 (by omega) (by omega) (by omega)
                                  · skip
                                    refine r_ex hX hP 1 (pc' := 139) (st' := [(2, (Ad E 1)), (2, (Ad E 1))]) (lo' := [(0, (2, (Ad E 1))), (1, (0, 0))]) rfl ?_
                                    refine r_getL hX hP rfl fl_12_364 hS (fun wf661 wf661e wf661a wf661b => ?_)
                                    refine r_ldc2 hX hP rfl (v := 32) (tbg sg9 133 rfl rfl) ?_
                                    refine r_ex hX hP 1 (pc' := 146) (st' := [(1, (wf661 * 32)), (2, (Ad E 1))]) (lo' := [(0, (2, (Ad E 1))), (1, (0, 0))]) rfl ?_
                                    refine r_hvL hX (fun w662 w662a w662b w662e => ?_)
                                    refine r_ex hX hP 2 (pc' := 148) (st' := [(2, (Ad E 1)), (2, (Ad E 1)), (1, w662), (2, (Ad E 1))]) (lo' := [(0, (2, (Ad E 1))), (1, (0, 0))]) rfl ?_
                                    refine r_getKI hX hP rfl fl_12_349 hS (x := behind_109) behind_109_e ?_
                                    refine r_callV gd hX hP rfl cv_12_355 hS (d' := 0) (mc' := 0) (ms' := 0) (as' := [(0, behind_109)]) (st := [(1, w662), (2, (Ad E 1))]) (by decide) (by decide) (by decide) rfl rfl (Nat.le_of_ble_eq_true rfl) (c_X12_look E S (hv [84, 87] [] (up (up (up (hv [83] [] (up G 1 (Ad E 1) 83 bf1) Gk8) 1 (Ad E 1) 84 at_8) 1 (Ad E 1) 82 1) 1 (Ad E 1) 87 0) Gk109) behind_109 hS tf3 tf3e (by omega) (by omega)) ?_
                                    rintro _ _ _ ⟨rfl, rfl, z663, rfl, (⟨z663a, z663b, f664⟩ | ⟨rfl, f665⟩)⟩
                                    · skip
                                      refine r_i2l hX hP rfl (by omega) (by omega) ?_
                                      refine r_ex hX hP 1 (pc' := 156) (st' := [(1, (w662 + z663)), (2, (Ad E 1))]) (lo' := [(0, (2, (Ad E 1))), (1, (0, 0))]) rfl ?_
                                      refine r_hvL hX (fun w666 w666a w666b w666e => ?_)
                                      refine r_ldc2 hX hP rfl (v := 96) (tbg sg9 134 rfl rfl) ?_
                                      refine r_ex hX hP 1 (pc' := 160) (st' := [(1, (w666 - 96)), (2, (Ad E 1))]) (lo' := [(0, (2, (Ad E 1))), (1, (0, 0))]) rfl ?_
                                      refine r_hvL hX (fun w667 w667a w667b w667e => ?_)
                                      refine r_ex hX hP 1 (pc' := 166) (st' := [(1, w667), (2, (Ad E 1))]) (lo' := [(0, (2, (Ad E 1))), (1, (0, 0))]) rfl ?_
                                      refine r_putLK hX hP rfl fp_12_364 hS (by omega) (by omega) (fun h668 => ?_)
                                      refine r_ex hX hP 2 (pc' := 171) (st' := [(2, (Ad E 1)), (2, (Ad E 1))]) (lo' := [(0, (2, (Ad E 1))), (1, (0, 0))]) rfl ?_
                                      refine r_getKI hX hP rfl fl_12_349 hS (x := behind_109) behind_109_e ?_
                                      refine r_ex hX hP 2 (pc' := 176) (st' := [(0, (behind_109 + 1)), (2, (Ad E 1))]) (lo' := [(0, (2, (Ad E 1))), (1, (0, 0))]) rfl ?_
                                      refine r_putIK hX hP rfl fp_12_349 hS (by omega) (by omega) (fun h669 => ?_)
                                      refine r_ex hX hP 1 (pc' := 109) (st' := []) (lo' := [(0, (2, (Ad E 1))), (1, (0, 0))]) rfl ?_
                                      refine r_eqG (X := X) (hq_up (hq_up (hq_base _ _ _ _) rfl) rfl) ?_
                                      exact ih109 (behind_109 + 1) _ h669 (by omega) (by omega) (by omega)
                                    · skip
                                      refine r_i2l hX hP rfl (by omega) (by omega) ?_
                                      refine r_ex hX hP 1 (pc' := 156) (st' := [(1, (w662 + 0)), (2, (Ad E 1))]) (lo' := [(0, (2, (Ad E 1))), (1, (0, 0))]) rfl ?_
                                      refine r_ldc2 hX hP rfl (v := 96) (tbg sg9 134 rfl rfl) ?_
                                      refine r_ex hX hP 1 (pc' := 160) (st' := [(1, ((w662 + 0) - 96)), (2, (Ad E 1))]) (lo' := [(0, (2, (Ad E 1))), (1, (0, 0))]) rfl ?_
                                      refine r_hvL hX (fun w670 w670a w670b w670e => ?_)
                                      refine r_ex hX hP 1 (pc' := 166) (st' := [(1, w670), (2, (Ad E 1))]) (lo' := [(0, (2, (Ad E 1))), (1, (0, 0))]) rfl ?_
                                      refine r_putLK hX hP rfl fp_12_364 hS (by omega) (by omega) (fun h671 => ?_)
                                      refine r_ex hX hP 2 (pc' := 171) (st' := [(2, (Ad E 1)), (2, (Ad E 1))]) (lo' := [(0, (2, (Ad E 1))), (1, (0, 0))]) rfl ?_
                                      refine r_getKI hX hP rfl fl_12_349 hS (x := behind_109) behind_109_e ?_
                                      refine r_ex hX hP 2 (pc' := 176) (st' := [(0, (behind_109 + 1)), (2, (Ad E 1))]) (lo' := [(0, (2, (Ad E 1))), (1, (0, 0))]) rfl ?_
                                      refine r_putIK hX hP rfl fp_12_349 hS (by omega) (by omega) (fun h672 => ?_)
                                      refine r_ex hX hP 1 (pc' := 109) (st' := []) (lo' := [(0, (2, (Ad E 1))), (1, (0, 0))]) rfl ?_
                                      refine r_eqG (X := X) (hq_up (hq_up (hq_base _ _ _ _) rfl) rfl) ?_
                                      exact ih109 (behind_109 + 1) _ h672 (by omega) (by omega) (by omega)
                              · skip
                                refine r_if_eq hX hP rfl (tgt := 182) rfl (by omega) (by omega) (fun c673 => ?_) (fun c673 => ?_)
                                · skip
                                  refine r_ex hX hP 2 (pc' := 184) (st' := [(2, (Ad E 1)), (2, (Ad E 1))]) (lo' := [(0, (2, (Ad E 1))), (1, (0, 0))]) rfl ?_
                                  refine r_getKI hX hP rfl fl_12_349 hS (x := behind_109) behind_109_e ?_
                                  refine r_ex hX hP 1 (pc' := 188) (st' := [(2, (Ad E 1)), (0, behind_109), (2, (Ad E 1))]) (lo' := [(0, (2, (Ad E 1))), (1, (0, 0))]) rfl ?_
                                  refine r_getKI hX hP rfl fl_12_352 hS (x := at_8) at_8_e ?_
                                  refine r_ex hX hP 1 (pc' := 192) (st' := [(0, (behind_109 - at_8)), (2, (Ad E 1))]) (lo' := [(0, (2, (Ad E 1))), (1, (0, 0))]) rfl ?_
                                  refine r_putIK hX hP rfl fp_12_373 hS (by omega) (by omega) (fun h674 => ?_)
                                  refine r_ex hX hP 1 (pc' := 354) (st' := []) (lo' := [(0, (2, (Ad E 1))), (1, (0, 0))]) rfl ?_
                                  exact r_retV hX hP rfl rfl (by omega) (by omega) ⟨rfl, ⟨_, (hq_up (hq_loop (hq_up (hq_up (hq_up (hq_loop (hq_up (hq_refl _ _ _) rfl) rfl) rfl) rfl) rfl) rfl) rfl).symm⟩, rfl, trivial⟩
                                · skip
                                  exfalso; omega
                            · skip
                              refine r_callS gd hX hP rfl cs_12_361 (d' := 0) (mc' := 0) (ms' := 0) (as' := [(0, 0)]) (st := []) (by decide) (by decide) (by decide) rfl rfl (Nat.le_of_ble_eq_true rfl) (c_X12_isLetter E S (hv [84, 87] [] (up (up (up (hv [83] [] (up G 1 (Ad E 1) 83 bf1) Gk8) 1 (Ad E 1) 84 at_8) 1 (Ad E 1) 82 1) 1 (Ad E 1) 87 0) Gk109) 0 (by omega) (by omega)) ?_
                              rintro _ _ _ ⟨rfl, rfl, z675, rfl, (⟨rfl, f676, f677⟩ | ⟨rfl, f678⟩)⟩
                              · skip
                                refine r_if_eq hX hP rfl (tgt := 182) rfl (by omega) (by omega) (fun c679 => ?_) (fun c679 => ?_)
                                · skip
                                  exfalso; omega
                                · skip
                                  refine r_ex hX hP 2 (pc' := 125) (st' := [(2, (Ad E 1)), (2, (Ad E 1))]) (lo' := [(0, (2, (Ad E 1))), (1, (0, 0))]) rfl ?_
                                  refine r_getKI hX hP rfl fl_12_349 hS (x := behind_109) behind_109_e ?_
                                  refine r_ex hX hP 1 (pc' := 129) (st' := [(2, (Ad E 1)), (0, behind_109), (2, (Ad E 1))]) (lo' := [(0, (2, (Ad E 1))), (1, (0, 0))]) rfl ?_
                                  refine r_getKI hX hP rfl fl_12_352 hS (x := at_8) at_8_e ?_
                                  refine r_ex hX hP 2 (pc' := 135) (st' := [(0, 12), (0, (behind_109 - at_8)), (2, (Ad E 1))]) (lo' := [(0, (2, (Ad E 1))), (1, (0, 0))]) rfl ?_
                                  refine r_ic_ge hX hP rfl (tgt := 163) rfl (by omega) (by omega) (by omega) (by omega) (fun c680 => ?_) (fun c680 => ?_)
                                  · skip
                                    refine r_ldc2 hX hP rfl (v := (-1)) (tbg sg9 135 rfl rfl) ?_
                                    refine r_putLK hX hP rfl fp_12_364 hS (by omega) (by omega) (fun h681 => ?_)
                                    refine r_ex hX hP 2 (pc' := 171) (st' := [(2, (Ad E 1)), (2, (Ad E 1))]) (lo' := [(0, (2, (Ad E 1))), (1, (0, 0))]) rfl ?_
                                    refine r_getKI hX hP rfl fl_12_349 hS (x := behind_109) behind_109_e ?_
                                    refine r_ex hX hP 2 (pc' := 176) (st' := [(0, (behind_109 + 1)), (2, (Ad E 1))]) (lo' := [(0, (2, (Ad E 1))), (1, (0, 0))]) rfl ?_
                                    refine r_putIK hX hP rfl fp_12_349 hS (by omega) (by omega) (fun h682 => ?_)
                                    refine r_ex hX hP 1 (pc' := 109) (st' := []) (lo' := [(0, (2, (Ad E 1))), (1, (0, 0))]) rfl ?_
                                    refine r_eqG (X := X) (hq_up (hq_up (hq_base _ _ _ _) rfl) rfl) ?_
                                    exact ih109 (behind_109 + 1) _ h682 (by omega) (by omega) (by omega)
                                  · skip
                                    refine r_ex hX hP 1 (pc' := 139) (st' := [(2, (Ad E 1)), (2, (Ad E 1))]) (lo' := [(0, (2, (Ad E 1))), (1, (0, 0))]) rfl ?_
                                    refine r_getL hX hP rfl fl_12_364 hS (fun wf683 wf683e wf683a wf683b => ?_)
                                    refine r_ldc2 hX hP rfl (v := 32) (tbg sg9 133 rfl rfl) ?_
                                    refine r_ex hX hP 1 (pc' := 146) (st' := [(1, (wf683 * 32)), (2, (Ad E 1))]) (lo' := [(0, (2, (Ad E 1))), (1, (0, 0))]) rfl ?_
                                    refine r_hvL hX (fun w684 w684a w684b w684e => ?_)
                                    refine r_ex hX hP 2 (pc' := 148) (st' := [(2, (Ad E 1)), (2, (Ad E 1)), (1, w684), (2, (Ad E 1))]) (lo' := [(0, (2, (Ad E 1))), (1, (0, 0))]) rfl ?_
                                    refine r_getKI hX hP rfl fl_12_349 hS (x := behind_109) behind_109_e ?_
                                    refine r_callV gd hX hP rfl cv_12_355 hS (d' := 0) (mc' := 0) (ms' := 0) (as' := [(0, behind_109)]) (st := [(1, w684), (2, (Ad E 1))]) (by decide) (by decide) (by decide) rfl rfl (Nat.le_of_ble_eq_true rfl) (c_X12_look E S (hv [84, 87] [] (up (up (up (hv [83] [] (up G 1 (Ad E 1) 83 bf1) Gk8) 1 (Ad E 1) 84 at_8) 1 (Ad E 1) 82 1) 1 (Ad E 1) 87 0) Gk109) behind_109 hS tf3 tf3e (by omega) (by omega)) ?_
                                    rintro _ _ _ ⟨rfl, rfl, z685, rfl, (⟨z685a, z685b, f686⟩ | ⟨rfl, f687⟩)⟩
                                    · skip
                                      refine r_i2l hX hP rfl (by omega) (by omega) ?_
                                      refine r_ex hX hP 1 (pc' := 156) (st' := [(1, (w684 + z685)), (2, (Ad E 1))]) (lo' := [(0, (2, (Ad E 1))), (1, (0, 0))]) rfl ?_
                                      refine r_hvL hX (fun w688 w688a w688b w688e => ?_)
                                      refine r_ldc2 hX hP rfl (v := 96) (tbg sg9 134 rfl rfl) ?_
                                      refine r_ex hX hP 1 (pc' := 160) (st' := [(1, (w688 - 96)), (2, (Ad E 1))]) (lo' := [(0, (2, (Ad E 1))), (1, (0, 0))]) rfl ?_
                                      refine r_hvL hX (fun w689 w689a w689b w689e => ?_)
                                      refine r_ex hX hP 1 (pc' := 166) (st' := [(1, w689), (2, (Ad E 1))]) (lo' := [(0, (2, (Ad E 1))), (1, (0, 0))]) rfl ?_
                                      refine r_putLK hX hP rfl fp_12_364 hS (by omega) (by omega) (fun h690 => ?_)
                                      refine r_ex hX hP 2 (pc' := 171) (st' := [(2, (Ad E 1)), (2, (Ad E 1))]) (lo' := [(0, (2, (Ad E 1))), (1, (0, 0))]) rfl ?_
                                      refine r_getKI hX hP rfl fl_12_349 hS (x := behind_109) behind_109_e ?_
                                      refine r_ex hX hP 2 (pc' := 176) (st' := [(0, (behind_109 + 1)), (2, (Ad E 1))]) (lo' := [(0, (2, (Ad E 1))), (1, (0, 0))]) rfl ?_
                                      refine r_putIK hX hP rfl fp_12_349 hS (by omega) (by omega) (fun h691 => ?_)
                                      refine r_ex hX hP 1 (pc' := 109) (st' := []) (lo' := [(0, (2, (Ad E 1))), (1, (0, 0))]) rfl ?_
                                      refine r_eqG (X := X) (hq_up (hq_up (hq_base _ _ _ _) rfl) rfl) ?_
                                      exact ih109 (behind_109 + 1) _ h691 (by omega) (by omega) (by omega)
                                    · skip
                                      refine r_i2l hX hP rfl (by omega) (by omega) ?_
                                      refine r_ex hX hP 1 (pc' := 156) (st' := [(1, (w684 + 0)), (2, (Ad E 1))]) (lo' := [(0, (2, (Ad E 1))), (1, (0, 0))]) rfl ?_
                                      refine r_ldc2 hX hP rfl (v := 96) (tbg sg9 134 rfl rfl) ?_
                                      refine r_ex hX hP 1 (pc' := 160) (st' := [(1, ((w684 + 0) - 96)), (2, (Ad E 1))]) (lo' := [(0, (2, (Ad E 1))), (1, (0, 0))]) rfl ?_
                                      refine r_hvL hX (fun w692 w692a w692b w692e => ?_)
                                      refine r_ex hX hP 1 (pc' := 166) (st' := [(1, w692), (2, (Ad E 1))]) (lo' := [(0, (2, (Ad E 1))), (1, (0, 0))]) rfl ?_
                                      refine r_putLK hX hP rfl fp_12_364 hS (by omega) (by omega) (fun h693 => ?_)
                                      refine r_ex hX hP 2 (pc' := 171) (st' := [(2, (Ad E 1)), (2, (Ad E 1))]) (lo' := [(0, (2, (Ad E 1))), (1, (0, 0))]) rfl ?_
                                      refine r_getKI hX hP rfl fl_12_349 hS (x := behind_109) behind_109_e ?_
                                      refine r_ex hX hP 2 (pc' := 176) (st' := [(0, (behind_109 + 1)), (2, (Ad E 1))]) (lo' := [(0, (2, (Ad E 1))), (1, (0, 0))]) rfl ?_
                                      refine r_putIK hX hP rfl fp_12_349 hS (by omega) (by omega) (fun h694 => ?_)
                                      refine r_ex hX hP 1 (pc' := 109) (st' := []) (lo' := [(0, (2, (Ad E 1))), (1, (0, 0))]) rfl ?_
                                      refine r_eqG (X := X) (hq_up (hq_up (hq_base _ _ _ _) rfl) rfl) ?_
                                      exact ih109 (behind_109 + 1) _ h694 (by omega) (by omega) (by omega)
                              · skip
                                refine r_if_eq hX hP rfl (tgt := 182) rfl (by omega) (by omega) (fun c695 => ?_) (fun c695 => ?_)
                                · skip
                                  refine r_ex hX hP 2 (pc' := 184) (st' := [(2, (Ad E 1)), (2, (Ad E 1))]) (lo' := [(0, (2, (Ad E 1))), (1, (0, 0))]) rfl ?_
                                  refine r_getKI hX hP rfl fl_12_349 hS (x := behind_109) behind_109_e ?_
                                  refine r_ex hX hP 1 (pc' := 188) (st' := [(2, (Ad E 1)), (0, behind_109), (2, (Ad E 1))]) (lo' := [(0, (2, (Ad E 1))), (1, (0, 0))]) rfl ?_
                                  refine r_getKI hX hP rfl fl_12_352 hS (x := at_8) at_8_e ?_
                                  refine r_ex hX hP 1 (pc' := 192) (st' := [(0, (behind_109 - at_8)), (2, (Ad E 1))]) (lo' := [(0, (2, (Ad E 1))), (1, (0, 0))]) rfl ?_
                                  refine r_putIK hX hP rfl fp_12_373 hS (by omega) (by omega) (fun h696 => ?_)
                                  refine r_ex hX hP 1 (pc' := 354) (st' := []) (lo' := [(0, (2, (Ad E 1))), (1, (0, 0))]) rfl ?_
                                  exact r_retV hX hP rfl rfl (by omega) (by omega) ⟨rfl, ⟨_, (hq_up (hq_loop (hq_up (hq_up (hq_up (hq_loop (hq_up (hq_refl _ _ _) rfl) rfl) rfl) rfl) rfl) rfl) rfl).symm⟩, rfl, trivial⟩
                                · skip
                                  exfalso; omega
                        refine r_eqG (X := X) (hq_refl [84, 87] [] _) ?_
                        exact loop109 ((400 - at_8) + 1).toNat at_8 _ h514 (by omega) (by omega) (by omega)
                    · skip
                      refine r_if_eq hX hP rfl (tgt := 198) rfl (by omega) (by omega) (fun c697 => ?_) (fun c697 => ?_)
                      · skip
                        refine r_ex hX hP 1 (pc' := 199) (st' := [(0, 0)]) (lo' := [(0, (2, (Ad E 1))), (1, (0, 0))]) rfl ?_
                        refine r_callS gd hX hP rfl cs_12_376 (d' := 0) (mc' := 0) (ms' := 0) (as' := [(0, 0)]) (st := []) (by decide) (by decide) (by decide) rfl rfl (Nat.le_of_ble_eq_true rfl) (c_X12_isDigit E S (up (hv [83] [] (up G 1 (Ad E 1) 83 bf1) Gk8) 1 (Ad E 1) 84 at_8) 0 (by omega) (by omega)) ?_
                        rintro _ _ _ ⟨rfl, rfl, z698, rfl, (⟨rfl, f699, f700⟩ | ⟨rfl, f701⟩)⟩
                        · skip
                          refine r_if_eq hX hP rfl (tgt := 300) rfl (by omega) (by omega) (fun c702 => ?_) (fun c702 => ?_)
                          · skip
                            exfalso; omega
                          · skip
                            refine r_ex hX hP 2 (pc' := 207) (st' := [(0, 0), (2, (Ad E 1))]) (lo' := [(0, (2, (Ad E 1))), (1, (0, 0))]) rfl ?_
                            refine r_putIK hX hP rfl fp_12_379 hS (by omega) (by omega) (fun h703 => ?_)
                            have loop210 : ∀ (n : Nat) (behind_210 : Int) (Gk210 : Gh), behind_210 = (hv [84, 85] [] (up (up (hv [83] [] (up G 1 (Ad E 1) 83 bf1) Gk8) 1 (Ad E 1) 84 at_8) 1 (Ad E 1) 85 0) Gk210) 1 (Ad E 1) 84 → 0 ≤ behind_210 → behind_210 ≤ 400 → 400 - behind_210 < (n : Int) → X 0 0 210 [] [(0, (2, (Ad E 1))), (1, (0, 0))] S (hv [84, 85] [] (up (up (hv [83] [] (up G 1 (Ad E 1) 83 bf1) Gk8) 1 (Ad E 1) 84 at_8) 1 (Ad E 1) 85 0) Gk210) := by
                              intro n
                              induction n with
                              | zero => intro behind_210 Gk210 behind_210_e y210_0 y210_1 ym210; exfalso; omega
                              | succ n ih210 =>
                                intro behind_210 Gk210 behind_210_e y210_0 y210_1 ym210
                                refine r_ex hX hP 2 (pc' := 212) (st' := [(2, (Ad E 1)), (2, (Ad E 1))]) (lo' := [(0, (2, (Ad E 1))), (1, (0, 0))]) rfl ?_
                                refine r_getKI hX hP rfl fl_12_349 hS (x := behind_210) behind_210_e ?_
                                refine r_callV gd hX hP rfl cv_12_355 hS (d' := 0) (mc' := 0) (ms' := 0) (as' := [(0, behind_210)]) (st := []) (by decide) (by decide) (by decide) rfl rfl (Nat.le_of_ble_eq_true rfl) (c_X12_look E S (hv [84, 85] [] (up (up (hv [83] [] (up G 1 (Ad E 1) 83 bf1) Gk8) 1 (Ad E 1) 84 at_8) 1 (Ad E 1) 85 0) Gk210) behind_210 hS tf3 tf3e (by omega) (by omega)) ?_
                                rintro _ _ _ ⟨rfl, rfl, z704, rfl, (⟨z704a, z704b, f705⟩ | ⟨rfl, f706⟩)⟩
                                · skip
                                  refine r_callS gd hX hP rfl cs_12_376 (d' := 0) (mc' := 0) (ms' := 0) (as' := [(0, z704)]) (st := []) (by decide) (by decide) (by decide) rfl rfl (Nat.le_of_ble_eq_true rfl) (c_X12_isDigit E S (hv [84, 85] [] (up (up (hv [83] [] (up G 1 (Ad E 1) 83 bf1) Gk8) 1 (Ad E 1) 84 at_8) 1 (Ad E 1) 85 0) Gk210) z704 (by omega) (by omega)) ?_
                                  rintro _ _ _ ⟨rfl, rfl, z707, rfl, (⟨rfl, f708, f709⟩ | ⟨rfl, f710⟩)⟩
                                  · skip
                                    refine r_if_eq hX hP rfl (tgt := 274) rfl (by omega) (by omega) (fun c711 => ?_) (fun c711 => ?_)
                                    · skip
                                      exfalso; omega
                                    · skip
                                      refine r_ex hX hP 1 (pc' := 225) (st' := [(2, (Ad E 1))]) (lo' := [(0, (2, (Ad E 1))), (1, (0, 0))]) rfl ?_
                                      refine r_getKI hX hP rfl fl_12_349 hS (x := behind_210) behind_210_e ?_
                                      refine r_ex hX hP 1 (pc' := 229) (st' := [(2, (Ad E 1)), (0, behind_210)]) (lo' := [(0, (2, (Ad E 1))), (1, (0, 0))]) rfl ?_
                                      refine r_getKI hX hP rfl fl_12_352 hS (x := at_8) at_8_e ?_
                                      refine r_ex hX hP 2 (pc' := 235) (st' := [(0, 7), (0, (behind_210 - at_8))]) (lo' := [(0, (2, (Ad E 1))), (1, (0, 0))]) rfl ?_
                                      refine r_ic_ge hX hP rfl (tgt := 261) rfl (by omega) (by omega) (by omega) (by omega) (fun c712 => ?_) (fun c712 => ?_)
                                      · skip
                                        refine r_ex hX hP 2 (pc' := 263) (st' := [(2, (Ad E 1)), (2, (Ad E 1))]) (lo' := [(0, (2, (Ad E 1))), (1, (0, 0))]) rfl ?_
                                        refine r_getKI hX hP rfl fl_12_349 hS (x := behind_210) behind_210_e ?_
                                        refine r_ex hX hP 2 (pc' := 268) (st' := [(0, (behind_210 + 1)), (2, (Ad E 1))]) (lo' := [(0, (2, (Ad E 1))), (1, (0, 0))]) rfl ?_
                                        refine r_putIK hX hP rfl fp_12_349 hS (by omega) (by omega) (fun h713 => ?_)
                                        refine r_ex hX hP 1 (pc' := 210) (st' := []) (lo' := [(0, (2, (Ad E 1))), (1, (0, 0))]) rfl ?_
                                        refine r_eqG (X := X) (hq_up (hq_base _ _ _ _) rfl) ?_
                                        exact ih210 (behind_210 + 1) _ h713 (by omega) (by omega) (by omega)
                                      · skip
                                        refine r_ex hX hP 3 (pc' := 242) (st' := [(2, (Ad E 1)), (0, 10), (2, (Ad E 1))]) (lo' := [(0, (2, (Ad E 1))), (1, (0, 0))]) rfl ?_
                                        refine r_getI hX hP rfl fl_12_379 hS (fun nf714 nf714e nf714a nf714b => ?_)
                                        refine r_ex hX hP 1 (pc' := 246) (st' := [(0, (10 * nf714)), (2, (Ad E 1))]) (lo' := [(0, (2, (Ad E 1))), (1, (0, 0))]) rfl ?_
                                        refine r_hvI hX (fun w715 w715a w715b w715e => ?_)
                                        refine r_ex hX hP 2 (pc' := 248) (st' := [(2, (Ad E 1)), (2, (Ad E 1)), (0, w715), (2, (Ad E 1))]) (lo' := [(0, (2, (Ad E 1))), (1, (0, 0))]) rfl ?_
                                        refine r_getKI hX hP rfl fl_12_349 hS (x := behind_210) behind_210_e ?_
                                        refine r_callV gd hX hP rfl cv_12_355 hS (d' := 0) (mc' := 0) (ms' := 0) (as' := [(0, behind_210)]) (st := [(0, w715), (2, (Ad E 1))]) (by decide) (by decide) (by decide) rfl rfl (Nat.le_of_ble_eq_true rfl) (c_X12_look E S (hv [84, 85] [] (up (up (hv [83] [] (up G 1 (Ad E 1) 83 bf1) Gk8) 1 (Ad E 1) 84 at_8) 1 (Ad E 1) 85 0) Gk210) behind_210 hS tf3 tf3e (by omega) (by omega)) ?_
                                        rintro _ _ _ ⟨rfl, rfl, z716, rfl, (⟨z716a, z716b, f717⟩ | ⟨rfl, f718⟩)⟩
                                        · skip
                                          refine r_ex hX hP 1 (pc' := 255) (st' := [(0, (w715 + z716)), (2, (Ad E 1))]) (lo' := [(0, (2, (Ad E 1))), (1, (0, 0))]) rfl ?_
                                          refine r_hvI hX (fun w719 w719a w719b w719e => ?_)
                                          refine r_ex hX hP 2 (pc' := 258) (st' := [(0, (w719 - 48)), (2, (Ad E 1))]) (lo' := [(0, (2, (Ad E 1))), (1, (0, 0))]) rfl ?_
                                          refine r_hvI hX (fun w720 w720a w720b w720e => ?_)
                                          refine r_putIK hX hP rfl fp_12_379 hS (by omega) (by omega) (fun h721 => ?_)
                                          refine r_ex hX hP 2 (pc' := 263) (st' := [(2, (Ad E 1)), (2, (Ad E 1))]) (lo' := [(0, (2, (Ad E 1))), (1, (0, 0))]) rfl ?_
                                          refine r_getKI hX hP rfl fl_12_349 hS (x := behind_210) behind_210_e ?_
                                          refine r_ex hX hP 2 (pc' := 268) (st' := [(0, (behind_210 + 1)), (2, (Ad E 1))]) (lo' := [(0, (2, (Ad E 1))), (1, (0, 0))]) rfl ?_
                                          refine r_putIK hX hP rfl fp_12_349 hS (by omega) (by omega) (fun h722 => ?_)
                                          refine r_ex hX hP 1 (pc' := 210) (st' := []) (lo' := [(0, (2, (Ad E 1))), (1, (0, 0))]) rfl ?_
                                          refine r_eqG (X := X) (hq_up (hq_up (hq_base _ _ _ _) rfl) rfl) ?_
                                          exact ih210 (behind_210 + 1) _ h722 (by omega) (by omega) (by omega)
                                        · skip
                                          refine r_ex hX hP 3 (pc' := 258) (st' := [(0, ((w715 + 0) - 48)), (2, (Ad E 1))]) (lo' := [(0, (2, (Ad E 1))), (1, (0, 0))]) rfl ?_
                                          refine r_hvI hX (fun w723 w723a w723b w723e => ?_)
                                          refine r_putIK hX hP rfl fp_12_379 hS (by omega) (by omega) (fun h724 => ?_)
                                          refine r_ex hX hP 2 (pc' := 263) (st' := [(2, (Ad E 1)), (2, (Ad E 1))]) (lo' := [(0, (2, (Ad E 1))), (1, (0, 0))]) rfl ?_
                                          refine r_getKI hX hP rfl fl_12_349 hS (x := behind_210) behind_210_e ?_
                                          refine r_ex hX hP 2 (pc' := 268) (st' := [(0, (behind_210 + 1)), (2, (Ad E 1))]) (lo' := [(0, (2, (Ad E 1))), (1, (0, 0))]) rfl ?_
                                          refine r_putIK hX hP rfl fp_12_349 hS (by omega) (by omega) (fun h725 => ?_)
                                          refine r_ex hX hP 1 (pc' := 210) (st' := []) (lo' := [(0, (2, (Ad E 1))), (1, (0, 0))]) rfl ?_
                                          refine r_eqG (X := X) (hq_up (hq_up (hq_base _ _ _ _) rfl) rfl) ?_
                                          exact ih210 (behind_210 + 1) _ h725 (by omega) (by omega) (by omega)
                                  · skip
                                    refine r_if_eq hX hP rfl (tgt := 274) rfl (by omega) (by omega) (fun c726 => ?_) (fun c726 => ?_)
                                    · skip
                                      refine r_ex hX hP 2 (pc' := 276) (st' := [(2, (Ad E 1)), (2, (Ad E 1))]) (lo' := [(0, (2, (Ad E 1))), (1, (0, 0))]) rfl ?_
                                      refine r_getKI hX hP rfl fl_12_349 hS (x := behind_210) behind_210_e ?_
                                      refine r_ex hX hP 1 (pc' := 280) (st' := [(2, (Ad E 1)), (0, behind_210), (2, (Ad E 1))]) (lo' := [(0, (2, (Ad E 1))), (1, (0, 0))]) rfl ?_
                                      refine r_getKI hX hP rfl fl_12_352 hS (x := at_8) at_8_e ?_
                                      refine r_ex hX hP 2 (pc' := 286) (st' := [(0, 7), (0, (behind_210 - at_8)), (2, (Ad E 1))]) (lo' := [(0, (2, (Ad E 1))), (1, (0, 0))]) rfl ?_
                                      refine r_ic_le hX hP rfl (tgt := 293) rfl (by omega) (by omega) (by omega) (by omega) (fun c727 => ?_) (fun c727 => ?_)
                                      · skip
                                        refine r_ex hX hP 1 (pc' := 294) (st' := [(0, 2), (2, (Ad E 1))]) (lo' := [(0, (2, (Ad E 1))), (1, (0, 0))]) rfl ?_
                                        refine r_putIK hX hP rfl fp_12_358 hS (by omega) (by omega) (fun h728 => ?_)
                                        refine r_ex hX hP 1 (pc' := 354) (st' := []) (lo' := [(0, (2, (Ad E 1))), (1, (0, 0))]) rfl ?_
                                        exact r_retV hX hP rfl rfl (by omega) (by omega) ⟨rfl, ⟨_, (hq_up (hq_loop (hq_up (hq_up (hq_loop (hq_up (hq_refl _ _ _) rfl) rfl) rfl) rfl) rfl) rfl).symm⟩, rfl, trivial⟩
                                      · skip
                                        refine r_ex hX hP 2 (pc' := 294) (st' := [(0, 4), (2, (Ad E 1))]) (lo' := [(0, (2, (Ad E 1))), (1, (0, 0))]) rfl ?_
                                        refine r_putIK hX hP rfl fp_12_358 hS (by omega) (by omega) (fun h729 => ?_)
                                        refine r_ex hX hP 1 (pc' := 354) (st' := []) (lo' := [(0, (2, (Ad E 1))), (1, (0, 0))]) rfl ?_
                                        exact r_retV hX hP rfl rfl (by omega) (by omega) ⟨rfl, ⟨_, (hq_up (hq_loop (hq_up (hq_up (hq_loop (hq_up (hq_refl _ _ _) rfl) rfl) rfl) rfl) rfl) rfl).symm⟩, rfl, trivial⟩
                                    · skip
                                      exfalso; omega
                                · skip
                                  refine r_callS gd hX hP rfl cs_12_376 (d' := 0) (mc' := 0) (ms' := 0) (as' := [(0, 0)]) (st := []) (by decide) (by decide) (by decide) rfl rfl (Nat.le_of_ble_eq_true rfl) (c_X12_isDigit E S (hv [84, 85] [] (up (up (hv [83] [] (up G 1 (Ad E 1) 83 bf1) Gk8) 1 (Ad E 1) 84 at_8) 1 (Ad E 1) 85 0) Gk210) 0 (by omega) (by omega)) ?_
                                  rintro _ _ _ ⟨rfl, rfl, z730, rfl, (⟨rfl, f731, f732⟩ | ⟨rfl, f733⟩)⟩
                                  · skip
                                    refine r_if_eq hX hP rfl (tgt := 274) rfl (by omega) (by omega) (fun c734 => ?_) (fun c734 => ?_)
                                    · skip
                                      exfalso; omega
                                    · skip
                                      refine r_ex hX hP 1 (pc' := 225) (st' := [(2, (Ad E 1))]) (lo' := [(0, (2, (Ad E 1))), (1, (0, 0))]) rfl ?_
                                      refine r_getKI hX hP rfl fl_12_349 hS (x := behind_210) behind_210_e ?_
                                      refine r_ex hX hP 1 (pc' := 229) (st' := [(2, (Ad E 1)), (0, behind_210)]) (lo' := [(0, (2, (Ad E 1))), (1, (0, 0))]) rfl ?_
                                      refine r_getKI hX hP rfl fl_12_352 hS (x := at_8) at_8_e ?_
                                      refine r_ex hX hP 2 (pc' := 235) (st' := [(0, 7), (0, (behind_210 - at_8))]) (lo' := [(0, (2, (Ad E 1))), (1, (0, 0))]) rfl ?_
                                      refine r_ic_ge hX hP rfl (tgt := 261) rfl (by omega) (by omega) (by omega) (by omega) (fun c735 => ?_) (fun c735 => ?_)
                                      · skip
                                        refine r_ex hX hP 2 (pc' := 263) (st' := [(2, (Ad E 1)), (2, (Ad E 1))]) (lo' := [(0, (2, (Ad E 1))), (1, (0, 0))]) rfl ?_
                                        refine r_getKI hX hP rfl fl_12_349 hS (x := behind_210) behind_210_e ?_
                                        refine r_ex hX hP 2 (pc' := 268) (st' := [(0, (behind_210 + 1)), (2, (Ad E 1))]) (lo' := [(0, (2, (Ad E 1))), (1, (0, 0))]) rfl ?_
                                        refine r_putIK hX hP rfl fp_12_349 hS (by omega) (by omega) (fun h736 => ?_)
                                        refine r_ex hX hP 1 (pc' := 210) (st' := []) (lo' := [(0, (2, (Ad E 1))), (1, (0, 0))]) rfl ?_
                                        refine r_eqG (X := X) (hq_up (hq_base _ _ _ _) rfl) ?_
                                        exact ih210 (behind_210 + 1) _ h736 (by omega) (by omega) (by omega)
                                      · skip
                                        refine r_ex hX hP 3 (pc' := 242) (st' := [(2, (Ad E 1)), (0, 10), (2, (Ad E 1))]) (lo' := [(0, (2, (Ad E 1))), (1, (0, 0))]) rfl ?_
                                        refine r_getI hX hP rfl fl_12_379 hS (fun nf737 nf737e nf737a nf737b => ?_)
                                        refine r_ex hX hP 1 (pc' := 246) (st' := [(0, (10 * nf737)), (2, (Ad E 1))]) (lo' := [(0, (2, (Ad E 1))), (1, (0, 0))]) rfl ?_
                                        refine r_hvI hX (fun w738 w738a w738b w738e => ?_)
                                        refine r_ex hX hP 2 (pc' := 248) (st' := [(2, (Ad E 1)), (2, (Ad E 1)), (0, w738), (2, (Ad E 1))]) (lo' := [(0, (2, (Ad E 1))), (1, (0, 0))]) rfl ?_
                                        refine r_getKI hX hP rfl fl_12_349 hS (x := behind_210) behind_210_e ?_
                                        refine r_callV gd hX hP rfl cv_12_355 hS (d' := 0) (mc' := 0) (ms' := 0) (as' := [(0, behind_210)]) (st := [(0, w738), (2, (Ad E 1))]) (by decide) (by decide) (by decide) rfl rfl (Nat.le_of_ble_eq_true rfl) (c_X12_look E S (hv [84, 85] [] (up (up (hv [83] [] (up G 1 (Ad E 1) 83 bf1) Gk8) 1 (Ad E 1) 84 at_8) 1 (Ad E 1) 85 0) Gk210) behind_210 hS tf3 tf3e (by omega) (by omega)) ?_
                                        rintro _ _ _ ⟨rfl, rfl, z739, rfl, (⟨z739a, z739b, f740⟩ | ⟨rfl, f741⟩)⟩
                                        · skip
                                          refine r_ex hX hP 1 (pc' := 255) (st' := [(0, (w738 + z739)), (2, (Ad E 1))]) (lo' := [(0, (2, (Ad E 1))), (1, (0, 0))]) rfl ?_
                                          refine r_hvI hX (fun w742 w742a w742b w742e => ?_)
                                          refine r_ex hX hP 2 (pc' := 258) (st' := [(0, (w742 - 48)), (2, (Ad E 1))]) (lo' := [(0, (2, (Ad E 1))), (1, (0, 0))]) rfl ?_
                                          refine r_hvI hX (fun w743 w743a w743b w743e => ?_)
                                          refine r_putIK hX hP rfl fp_12_379 hS (by omega) (by omega) (fun h744 => ?_)
                                          refine r_ex hX hP 2 (pc' := 263) (st' := [(2, (Ad E 1)), (2, (Ad E 1))]) (lo' := [(0, (2, (Ad E 1))), (1, (0, 0))]) rfl ?_
                                          refine r_getKI hX hP rfl fl_12_349 hS (x := behind_210) behind_210_e ?_
                                          refine r_ex hX hP 2 (pc' := 268) (st' := [(0, (behind_210 + 1)), (2, (Ad E 1))]) (lo' := [(0, (2, (Ad E 1))), (1, (0, 0))]) rfl ?_
                                          refine r_putIK hX hP rfl fp_12_349 hS (by omega) (by omega) (fun h745 => ?_)
                                          refine r_ex hX hP 1 (pc' := 210) (st' := []) (lo' := [(0, (2, (Ad E 1))), (1, (0, 0))]) rfl ?_
                                          refine r_eqG (X := X) (hq_up (hq_up (hq_base _ _ _ _) rfl) rfl) ?_
                                          exact ih210 (behind_210 + 1) _ h745 (by omega) (by omega) (by omega)
                                        · skip
                                          refine r_ex hX hP 3 (pc' := 258) (st' := [(0, ((w738 + 0) - 48)), (2, (Ad E 1))]) (lo' := [(0, (2, (Ad E 1))), (1, (0, 0))]) rfl ?_
                                          refine r_hvI hX (fun w746 w746a w746b w746e => ?_)
                                          refine r_putIK hX hP rfl fp_12_379 hS (by omega) (by omega) (fun h747 => ?_)
                                          refine r_ex hX hP 2 (pc' := 263) (st' := [(2, (Ad E 1)), (2, (Ad E 1))]) (lo' := [(0, (2, (Ad E 1))), (1, (0, 0))]) rfl ?_
                                          refine r_getKI hX hP rfl fl_12_349 hS (x := behind_210) behind_210_e ?_
                                          refine r_ex hX hP 2 (pc' := 268) (st' := [(0, (behind_210 + 1)), (2, (Ad E 1))]) (lo' := [(0, (2, (Ad E 1))), (1, (0, 0))]) rfl ?_
                                          refine r_putIK hX hP rfl fp_12_349 hS (by omega) (by omega) (fun h748 => ?_)
                                          refine r_ex hX hP 1 (pc' := 210) (st' := []) (lo' := [(0, (2, (Ad E 1))), (1, (0, 0))]) rfl ?_
                                          refine r_eqG (X := X) (hq_up (hq_up (hq_base _ _ _ _) rfl) rfl) ?_
                                          exact ih210 (behind_210 + 1) _ h748 (by omega) (by omega) (by omega)
                                  · skip
                                    refine r_if_eq hX hP rfl (tgt := 274) rfl (by omega) (by omega) (fun c749 => ?_) (fun c749 => ?_)
                                    · skip
                                      refine r_ex hX hP 2 (pc' := 276) (st' := [(2, (Ad E 1)), (2, (Ad E 1))]) (lo' := [(0, (2, (Ad E 1))), (1, (0, 0))]) rfl ?_
                                      refine r_getKI hX hP rfl fl_12_349 hS (x := behind_210) behind_210_e ?_
                                      refine r_ex hX hP 1 (pc' := 280) (st' := [(2, (Ad E 1)), (0, behind_210), (2, (Ad E 1))]) (lo' := [(0, (2, (Ad E 1))), (1, (0, 0))]) rfl ?_
                                      refine r_getKI hX hP rfl fl_12_352 hS (x := at_8) at_8_e ?_
                                      refine r_ex hX hP 2 (pc' := 286) (st' := [(0, 7), (0, (behind_210 - at_8)), (2, (Ad E 1))]) (lo' := [(0, (2, (Ad E 1))), (1, (0, 0))]) rfl ?_
                                      refine r_ic_le hX hP rfl (tgt := 293) rfl (by omega) (by omega) (by omega) (by omega) (fun c750 => ?_) (fun c750 => ?_)
                                      · skip
                                        refine r_ex hX hP 1 (pc' := 294) (st' := [(0, 2), (2, (Ad E 1))]) (lo' := [(0, (2, (Ad E 1))), (1, (0, 0))]) rfl ?_
                                        refine r_putIK hX hP rfl fp_12_358 hS (by omega) (by omega) (fun h751 => ?_)
                                        refine r_ex hX hP 1 (pc' := 354) (st' := []) (lo' := [(0, (2, (Ad E 1))), (1, (0, 0))]) rfl ?_
                                        exact r_retV hX hP rfl rfl (by omega) (by omega) ⟨rfl, ⟨_, (hq_up (hq_loop (hq_up (hq_up (hq_loop (hq_up (hq_refl _ _ _) rfl) rfl) rfl) rfl) rfl) rfl).symm⟩, rfl, trivial⟩
                                      · skip
                                        refine r_ex hX hP 2 (pc' := 294) (st' := [(0, 4), (2, (Ad E 1))]) (lo' := [(0, (2, (Ad E 1))), (1, (0, 0))]) rfl ?_
                                        refine r_putIK hX hP rfl fp_12_358 hS (by omega) (by omega) (fun h752 => ?_)
                                        refine r_ex hX hP 1 (pc' := 354) (st' := []) (lo' := [(0, (2, (Ad E 1))), (1, (0, 0))]) rfl ?_
                                        exact r_retV hX hP rfl rfl (by omega) (by omega) ⟨rfl, ⟨_, (hq_up (hq_loop (hq_up (hq_up (hq_loop (hq_up (hq_refl _ _ _) rfl) rfl) rfl) rfl) rfl) rfl).symm⟩, rfl, trivial⟩
                                    · skip
                                      exfalso; omega
                            refine r_eqG (X := X) (hq_refl [84, 85] [] _) ?_
                            exact loop210 ((400 - at_8) + 1).toNat at_8 _ h514 (by omega) (by omega) (by omega)
                        · skip
                          refine r_if_eq hX hP rfl (tgt := 300) rfl (by omega) (by omega) (fun c753 => ?_) (fun c753 => ?_)
                          · skip
                            refine r_ex hX hP 2 (pc' := 302) (st' := [(2, (Ad E 1)), (2, (Ad E 1))]) (lo' := [(0, (2, (Ad E 1))), (1, (0, 0))]) rfl ?_
                            refine r_getKI hX hP rfl fl_12_352 hS (x := at_8) at_8_e ?_
                            refine r_ex hX hP 2 (pc' := 307) (st' := [(0, (at_8 + 1)), (2, (Ad E 1))]) (lo' := [(0, (2, (Ad E 1))), (1, (0, 0))]) rfl ?_
                            refine r_putIK hX hP rfl fp_12_349 hS (by omega) (by omega) (fun h754 => ?_)
                            refine r_ex hX hP 2 (pc' := 312) (st' := [(0, 0), (2, (Ad E 1))]) (lo' := [(0, (2, (Ad E 1))), (1, (0, 0))]) rfl ?_
                            refine r_putIK hX hP rfl fp_12_379 hS (by omega) (by omega) (fun h755 => ?_)
                            refine r_ex hX hP 3 (pc' := 319) (st' := [(0, 59), (0, 0), (2, (Ad E 1))]) (lo' := [(0, (2, (Ad E 1))), (1, (0, 0))]) rfl ?_
                            refine r_ic_eq hX hP rfl (tgt := 346) rfl (by omega) (by omega) (by omega) (by omega) (fun c756 => ?_) (fun c756 => ?_)
                            · skip
                              exfalso; omega
                            · skip
                              refine r_ex hX hP 2 (pc' := 325) (st' := [(0, 123), (0, 0), (2, (Ad E 1))]) (lo' := [(0, (2, (Ad E 1))), (1, (0, 0))]) rfl ?_
                              refine r_ic_eq hX hP rfl (tgt := 346) rfl (by omega) (by omega) (by omega) (by omega) (fun c757 => ?_) (fun c757 => ?_)
                              · skip
                                exfalso; omega
                              · skip
                                refine r_ex hX hP 2 (pc' := 331) (st' := [(0, 125), (0, 0), (2, (Ad E 1))]) (lo' := [(0, (2, (Ad E 1))), (1, (0, 0))]) rfl ?_
                                refine r_ic_eq hX hP rfl (tgt := 346) rfl (by omega) (by omega) (by omega) (by omega) (fun c758 => ?_) (fun c758 => ?_)
                                · skip
                                  exfalso; omega
                                · skip
                                  refine r_ex hX hP 2 (pc' := 337) (st' := [(0, 60), (0, 0), (2, (Ad E 1))]) (lo' := [(0, (2, (Ad E 1))), (1, (0, 0))]) rfl ?_
                                  refine r_ic_eq hX hP rfl (tgt := 346) rfl (by omega) (by omega) (by omega) (by omega) (fun c759 => ?_) (fun c759 => ?_)
                                  · skip
                                    exfalso; omega
                                  · skip
                                    refine r_ex hX hP 2 (pc' := 343) (st' := [(0, 62), (0, 0), (2, (Ad E 1))]) (lo' := [(0, (2, (Ad E 1))), (1, (0, 0))]) rfl ?_
                                    refine r_ic_ne hX hP rfl (tgt := 350) rfl (by omega) (by omega) (by omega) (by omega) (fun c760 => ?_) (fun c760 => ?_)
                                    · skip
                                      refine r_ex hX hP 1 (pc' := 351) (st' := [(0, 4), (2, (Ad E 1))]) (lo' := [(0, (2, (Ad E 1))), (1, (0, 0))]) rfl ?_
                                      refine r_putIK hX hP rfl fp_12_358 hS (by omega) (by omega) (fun h761 => ?_)
                                      exact r_retV hX hP rfl rfl (by omega) (by omega) ⟨rfl, ⟨_, (hq_up (hq_up (hq_up (hq_up (hq_loop (hq_up (hq_refl _ _ _) rfl) rfl) rfl) rfl) rfl) rfl).symm⟩, rfl, trivial⟩
                                    · skip
                                      exfalso; omega
                          · skip
                            exfalso; omega
                      · skip
                        exfalso; omega
                · skip
                  refine r_ex hX hP 2 (pc' := 79) (st' := [(0, 0), (2, (Ad E 1))]) (lo' := [(0, (2, (Ad E 1)))]) rfl ?_
                  refine r_putIK hX hP rfl fp_12_358 hS (by omega) (by omega) (fun h762 => ?_)
                  exact r_retV hX hP rfl rfl (by omega) (by omega) ⟨rfl, ⟨_, (hq_up (hq_up (hq_loop (hq_up (hq_refl _ _ _) rfl) rfl) rfl) rfl).symm⟩, rfl, trivial⟩
              · skip
                exfalso; omega
        · skip
          refine r_ex hX hP 1 (pc' := 29) (st' := [(0, 10), (0, 0)]) (lo' := [(0, (2, (Ad E 1)))]) rfl ?_
          refine r_ic_eq hX hP rfl (tgt := 45) rfl (by omega) (by omega) (by omega) (by omega) (fun c763 => ?_) (fun c763 => ?_)
          · skip
            exfalso; omega
          · skip
            refine r_ex hX hP 2 (pc' := 34) (st' := [(2, (Ad E 1)), (2, (Ad E 1))]) (lo' := [(0, (2, (Ad E 1)))]) rfl ?_
            refine r_getKI hX hP rfl fl_12_352 hS (x := at_8) at_8_e ?_
            refine r_callV gd hX hP rfl cv_12_355 hS (d' := 0) (mc' := 0) (ms' := 0) (as' := [(0, at_8)]) (st := []) (by decide) (by decide) (by decide) rfl rfl (Nat.le_of_ble_eq_true rfl) (c_X12_look E S (hv [83] [] (up G 1 (Ad E 1) 83 bf1) Gk8) at_8 hS tf3 tf3e (by omega) (by omega)) ?_
            rintro _ _ _ ⟨rfl, rfl, z764, rfl, (⟨z764a, z764b, f765⟩ | ⟨rfl, f766⟩)⟩
            · skip
              refine r_ex hX hP 1 (pc' := 42) (st' := [(0, 32), (0, z764)]) (lo' := [(0, (2, (Ad E 1)))]) rfl ?_
              refine r_ic_ne hX hP rfl (tgt := 58) rfl (by omega) (by omega) (by omega) (by omega) (fun c767 => ?_) (fun c767 => ?_)
              · skip
                refine r_ex hX hP 2 (pc' := 60) (st' := [(2, (Ad E 1)), (2, (Ad E 1))]) (lo' := [(0, (2, (Ad E 1)))]) rfl ?_
                refine r_getKI hX hP rfl fl_12_352 hS (x := at_8) at_8_e ?_
                refine r_putIK hX hP rfl fp_12_349 hS (by omega) (by omega) (fun h768 => ?_)
                refine r_ex hX hP 1 (pc' := 67) (st' := [(2, (Ad E 1))]) (lo' := [(0, (2, (Ad E 1)))]) rfl ?_
                refine r_getKI hX hP rfl fl_12_352 hS (x := at_8) at_8_e ?_
                refine r_ex hX hP 1 (pc' := 71) (st' := [(2, (Ad E 1)), (0, at_8)]) (lo' := [(0, (2, (Ad E 1)))]) rfl ?_
                refine r_getKI hX hP rfl fl_12_346 hS (x := tf3) tf3e ?_
                refine r_ic_lt hX hP rfl (tgt := 83) rfl (by omega) (by omega) (by omega) (by omega) (fun c769 => ?_) (fun c769 => ?_)
                · skip
                  refine r_ex hX hP 2 (pc' := 85) (st' := [(2, (Ad E 1)), (2, (Ad E 1))]) (lo' := [(0, (2, (Ad E 1)))]) rfl ?_
                  refine r_getKI hX hP rfl fl_12_352 hS (x := at_8) at_8_e ?_
                  refine r_callV gd hX hP rfl cv_12_355 hS (d' := 0) (mc' := 0) (ms' := 0) (as' := [(0, at_8)]) (st := []) (by decide) (by decide) (by decide) rfl rfl (Nat.le_of_ble_eq_true rfl) (c_X12_look E S (up (hv [83] [] (up G 1 (Ad E 1) 83 bf1) Gk8) 1 (Ad E 1) 84 at_8) at_8 hS tf3 tf3e (by omega) (by omega)) ?_
                  rintro _ _ _ ⟨rfl, rfl, z770, rfl, (⟨z770a, z770b, f771⟩ | ⟨rfl, f772⟩)⟩
                  · skip
                    refine r_ex hX hP 2 (pc' := 93) (st' := [(0, z770)]) (lo' := [(0, (2, (Ad E 1))), (1, (0, z770))]) rfl ?_
                    refine r_callS gd hX hP rfl cs_12_361 (d' := 0) (mc' := 0) (ms' := 0) (as' := [(0, z770)]) (st := []) (by decide) (by decide) (by decide) rfl rfl (Nat.le_of_ble_eq_true rfl) (c_X12_isLetter E S (up (hv [83] [] (up G 1 (Ad E 1) 83 bf1) Gk8) 1 (Ad E 1) 84 at_8) z770 (by omega) (by omega)) ?_
                    rintro _ _ _ ⟨rfl, rfl, z773, rfl, (⟨rfl, f774, f775⟩ | ⟨rfl, f776⟩)⟩
                    · skip
                      refine r_if_eq hX hP rfl (tgt := 198) rfl (by omega) (by omega) (fun c777 => ?_) (fun c777 => ?_)
                      · skip
                        exfalso; omega
                      · skip
                        refine r_ex hX hP 2 (pc' := 101) (st' := [(0, 1), (2, (Ad E 1))]) (lo' := [(0, (2, (Ad E 1))), (1, (0, z770))]) rfl ?_
                        refine r_putIK hX hP rfl fp_12_358 hS (by omega) (by omega) (fun h778 => ?_)
                        refine r_ex hX hP 2 (pc' := 106) (st' := [(1, 0), (2, (Ad E 1))]) (lo' := [(0, (2, (Ad E 1))), (1, (0, z770))]) rfl ?_
                        refine r_putLK hX hP rfl fp_12_364 hS (by omega) (by omega) (fun h779 => ?_)
                        have loop109 : ∀ (n : Nat) (behind_109 : Int) (Gk109 : Gh), behind_109 = (hv [84, 87] [] (up (up (up (hv [83] [] (up G 1 (Ad E 1) 83 bf1) Gk8) 1 (Ad E 1) 84 at_8) 1 (Ad E 1) 82 1) 1 (Ad E 1) 87 0) Gk109) 1 (Ad E 1) 84 → 0 ≤ behind_109 → behind_109 ≤ 400 → 400 - behind_109 < (n : Int) → X 0 0 109 [] [(0, (2, (Ad E 1))), (1, (0, z770))] S (hv [84, 87] [] (up (up (up (hv [83] [] (up G 1 (Ad E 1) 83 bf1) Gk8) 1 (Ad E 1) 84 at_8) 1 (Ad E 1) 82 1) 1 (Ad E 1) 87 0) Gk109) := by
                          intro n
                          induction n with
                          | zero => intro behind_109 Gk109 behind_109_e y109_0 y109_1 ym109; exfalso; omega
                          | succ n ih109 =>
                            intro behind_109 Gk109 behind_109_e y109_0 y109_1 ym109
                            refine r_ex hX hP 2 (pc' := 111) (st' := [(2, (Ad E 1)), (2, (Ad E 1))]) (lo' := [(0, (2, (Ad E 1))), (1, (0, z770))]) rfl ?_
                            refine r_getKI hX hP rfl fl_12_349 hS (x := behind_109) behind_109_e ?_
                            refine r_callV gd hX hP rfl cv_12_355 hS (d' := 0) (mc' := 0) (ms' := 0) (as' := [(0, behind_109)]) (st := []) (by decide) (by decide) (by decide) rfl rfl (Nat.le_of_ble_eq_true rfl) (c_X12_look E S (hv [84, 87] [] (up (up (up (hv [83] [] (up G 1 (Ad E 1) 83 bf1) Gk8) 1 (Ad E 1) 84 at_8) 1 (Ad E 1) 82 1) 1 (Ad E 1) 87 0) Gk109) behind_109 hS tf3 tf3e (by omega) (by omega)) ?_
                            rintro _ _ _ ⟨rfl, rfl, z780, rfl, (⟨z780a, z780b, f781⟩ | ⟨rfl, f782⟩)⟩
                            · skip
                              refine r_callS gd hX hP rfl cs_12_361 (d' := 0) (mc' := 0) (ms' := 0) (as' := [(0, z780)]) (st := []) (by decide) (by decide) (by decide) rfl rfl (Nat.le_of_ble_eq_true rfl) (c_X12_isLetter E S (hv [84, 87] [] (up (up (up (hv [83] [] (up G 1 (Ad E 1) 83 bf1) Gk8) 1 (Ad E 1) 84 at_8) 1 (Ad E 1) 82 1) 1 (Ad E 1) 87 0) Gk109) z780 (by omega) (by omega)) ?_
                              rintro _ _ _ ⟨rfl, rfl, z783, rfl, (⟨rfl, f784, f785⟩ | ⟨rfl, f786⟩)⟩
                              · skip
                                refine r_if_eq hX hP rfl (tgt := 182) rfl (by omega) (by omega) (fun c787 => ?_) (fun c787 => ?_)
                                · skip
                                  exfalso; omega
                                · skip
                                  refine r_ex hX hP 2 (pc' := 125) (st' := [(2, (Ad E 1)), (2, (Ad E 1))]) (lo' := [(0, (2, (Ad E 1))), (1, (0, z770))]) rfl ?_
                                  refine r_getKI hX hP rfl fl_12_349 hS (x := behind_109) behind_109_e ?_
                                  refine r_ex hX hP 1 (pc' := 129) (st' := [(2, (Ad E 1)), (0, behind_109), (2, (Ad E 1))]) (lo' := [(0, (2, (Ad E 1))), (1, (0, z770))]) rfl ?_
                                  refine r_getKI hX hP rfl fl_12_352 hS (x := at_8) at_8_e ?_
                                  refine r_ex hX hP 2 (pc' := 135) (st' := [(0, 12), (0, (behind_109 - at_8)), (2, (Ad E 1))]) (lo' := [(0, (2, (Ad E 1))), (1, (0, z770))]) rfl ?_
                                  refine r_ic_ge hX hP rfl (tgt := 163) rfl (by omega) (by omega) (by omega) (by omega) (fun c788 => ?_) (fun c788 => ?_)
                                  · skip
                                    refine r_ldc2 hX hP rfl (v := (-1)) (tbg sg9 135 rfl rfl) ?_
                                    refine r_putLK hX hP rfl fp_12_364 hS (by omega) (by omega) (fun h789 => ?_)
                                    refine r_ex hX hP 2 (pc' := 171) (st' := [(2, (Ad E 1)), (2, (Ad E 1))]) (lo' := [(0, (2, (Ad E 1))), (1, (0, z770))]) rfl ?_
                                    refine r_getKI hX hP rfl fl_12_349 hS (x := behind_109) behind_109_e ?_
                                    refine r_ex hX hP 2 (pc' := 176) (st' := [(0, (behind_109 + 1)), (2, (Ad E 1))]) (lo' := [(0, (2, (Ad E 1))), (1, (0, z770))]) rfl ?_
                                    refine r_putIK hX hP rfl fp_12_349 hS (by omega) (by omega) (fun h790 => ?_)
                                    refine r_ex hX hP 1 (pc' := 109) (st' := []) (lo' := [(0, (2, (Ad E 1))), (1, (0, z770))]) rfl ?_
                                    refine r_eqG (X := X) (hq_up (hq_up (hq_base _ _ _ _) rfl) rfl) ?_
                                    exact ih109 (behind_109 + 1) _ h790 (by omega) (by omega) (by omega)
                                  · skip
                                    refine r_ex hX hP 1 (pc' := 139) (st' := [(2, (Ad E 1)), (2, (Ad E 1))]) (lo' := [(0, (2, (Ad E 1))), (1, (0, z770))]) rfl ?_
                                    refine r_getL hX hP rfl fl_12_364 hS (fun wf791 wf791e wf791a wf791b => ?_)
                                    refine r_ldc2 hX hP rfl (v := 32) (tbg sg9 133 rfl rfl) ?_
                                    refine r_ex hX hP 1 (pc' := 146) (st' := [(1, (wf791 * 32)), (2, (Ad E 1))]) (lo' := [(0, (2, (Ad E 1))), (1, (0, z770))]) rfl ?_
                                    refine r_hvL hX (fun w792 w792a w792b w792e => ?_)
                                    refine r_ex hX hP 2 (pc' := 148) (st' := [(2, (Ad E 1)), (2, (Ad E 1)), (1, w792), (2, (Ad E 1))]) (lo' := [(0, (2, (Ad E 1))), (1, (0, z770))]) rfl ?_
                                    refine r_getKI hX hP rfl fl_12_349 hS (x := behind_109) behind_109_e ?_
                                    refine r_callV gd hX hP rfl cv_12_355 hS (d' := 0) (mc' := 0) (ms' := 0) (as' := [(0, behind_109)]) (st := [(1, w792), (2, (Ad E 1))]) (by decide) (by decide) (by decide) rfl rfl (Nat.le_of_ble_eq_true rfl) (c_X12_look E S (hv [84, 87] [] (up (up (up (hv [83] [] (up G 1 (Ad E 1) 83 bf1) Gk8) 1 (Ad E 1) 84 at_8) 1 (Ad E 1) 82 1) 1 (Ad E 1) 87 0) Gk109) behind_109 hS tf3 tf3e (by omega) (by omega)) ?_
                                    rintro _ _ _ ⟨rfl, rfl, z793, rfl, (⟨z793a, z793b, f794⟩ | ⟨rfl, f795⟩)⟩
                                    · skip
                                      refine r_i2l hX hP rfl (by omega) (by omega) ?_
                                      refine r_ex hX hP 1 (pc' := 156) (st' := [(1, (w792 + z793)), (2, (Ad E 1))]) (lo' := [(0, (2, (Ad E 1))), (1, (0, z770))]) rfl ?_
                                      refine r_hvL hX (fun w796 w796a w796b w796e => ?_)
                                      refine r_ldc2 hX hP rfl (v := 96) (tbg sg9 134 rfl rfl) ?_
                                      refine r_ex hX hP 1 (pc' := 160) (st' := [(1, (w796 - 96)), (2, (Ad E 1))]) (lo' := [(0, (2, (Ad E 1))), (1, (0, z770))]) rfl ?_
                                      refine r_hvL hX (fun w797 w797a w797b w797e => ?_)
                                      refine r_ex hX hP 1 (pc' := 166) (st' := [(1, w797), (2, (Ad E 1))]) (lo' := [(0, (2, (Ad E 1))), (1, (0, z770))]) rfl ?_
                                      refine r_putLK hX hP rfl fp_12_364 hS (by omega) (by omega) (fun h798 => ?_)
                                      refine r_ex hX hP 2 (pc' := 171) (st' := [(2, (Ad E 1)), (2, (Ad E 1))]) (lo' := [(0, (2, (Ad E 1))), (1, (0, z770))]) rfl ?_
                                      refine r_getKI hX hP rfl fl_12_349 hS (x := behind_109) behind_109_e ?_
                                      refine r_ex hX hP 2 (pc' := 176) (st' := [(0, (behind_109 + 1)), (2, (Ad E 1))]) (lo' := [(0, (2, (Ad E 1))), (1, (0, z770))]) rfl ?_
                                      refine r_putIK hX hP rfl fp_12_349 hS (by omega) (by omega) (fun h799 => ?_)
                                      refine r_ex hX hP 1 (pc' := 109) (st' := []) (lo' := [(0, (2, (Ad E 1))), (1, (0, z770))]) rfl ?_
                                      refine r_eqG (X := X) (hq_up (hq_up (hq_base _ _ _ _) rfl) rfl) ?_
                                      exact ih109 (behind_109 + 1) _ h799 (by omega) (by omega) (by omega)
                                    · skip
                                      refine r_i2l hX hP rfl (by omega) (by omega) ?_
                                      refine r_ex hX hP 1 (pc' := 156) (st' := [(1, (w792 + 0)), (2, (Ad E 1))]) (lo' := [(0, (2, (Ad E 1))), (1, (0, z770))]) rfl ?_
                                      refine r_ldc2 hX hP rfl (v := 96) (tbg sg9 134 rfl rfl) ?_
                                      refine r_ex hX hP 1 (pc' := 160) (st' := [(1, ((w792 + 0) - 96)), (2, (Ad E 1))]) (lo' := [(0, (2, (Ad E 1))), (1, (0, z770))]) rfl ?_
                                      refine r_hvL hX (fun w800 w800a w800b w800e => ?_)
                                      refine r_ex hX hP 1 (pc' := 166) (st' := [(1, w800), (2, (Ad E 1))]) (lo' := [(0, (2, (Ad E 1))), (1, (0, z770))]) rfl ?_
                                      refine r_putLK hX hP rfl fp_12_364 hS (by omega) (by omega) (fun h801 => ?_)
                                      refine r_ex hX hP 2 (pc' := 171) (st' := [(2, (Ad E 1)), (2, (Ad E 1))]) (lo' := [(0, (2, (Ad E 1))), (1, (0, z770))]) rfl ?_
                                      refine r_getKI hX hP rfl fl_12_349 hS (x := behind_109) behind_109_e ?_
                                      refine r_ex hX hP 2 (pc' := 176) (st' := [(0, (behind_109 + 1)), (2, (Ad E 1))]) (lo' := [(0, (2, (Ad E 1))), (1, (0, z770))]) rfl ?_
                                      refine r_putIK hX hP rfl fp_12_349 hS (by omega) (by omega) (fun h802 => ?_)
                                      refine r_ex hX hP 1 (pc' := 109) (st' := []) (lo' := [(0, (2, (Ad E 1))), (1, (0, z770))]) rfl ?_
                                      refine r_eqG (X := X) (hq_up (hq_up (hq_base _ _ _ _) rfl) rfl) ?_
                                      exact ih109 (behind_109 + 1) _ h802 (by omega) (by omega) (by omega)
                              · skip
                                refine r_if_eq hX hP rfl (tgt := 182) rfl (by omega) (by omega) (fun c803 => ?_) (fun c803 => ?_)
                                · skip
                                  refine r_ex hX hP 2 (pc' := 184) (st' := [(2, (Ad E 1)), (2, (Ad E 1))]) (lo' := [(0, (2, (Ad E 1))), (1, (0, z770))]) rfl ?_
                                  refine r_getKI hX hP rfl fl_12_349 hS (x := behind_109) behind_109_e ?_
                                  refine r_ex hX hP 1 (pc' := 188) (st' := [(2, (Ad E 1)), (0, behind_109), (2, (Ad E 1))]) (lo' := [(0, (2, (Ad E 1))), (1, (0, z770))]) rfl ?_
                                  refine r_getKI hX hP rfl fl_12_352 hS (x := at_8) at_8_e ?_
                                  refine r_ex hX hP 1 (pc' := 192) (st' := [(0, (behind_109 - at_8)), (2, (Ad E 1))]) (lo' := [(0, (2, (Ad E 1))), (1, (0, z770))]) rfl ?_
                                  refine r_putIK hX hP rfl fp_12_373 hS (by omega) (by omega) (fun h804 => ?_)
                                  refine r_ex hX hP 1 (pc' := 354) (st' := []) (lo' := [(0, (2, (Ad E 1))), (1, (0, z770))]) rfl ?_
                                  exact r_retV hX hP rfl rfl (by omega) (by omega) ⟨rfl, ⟨_, (hq_up (hq_loop (hq_up (hq_up (hq_up (hq_loop (hq_up (hq_refl _ _ _) rfl) rfl) rfl) rfl) rfl) rfl) rfl).symm⟩, rfl, trivial⟩
                                · skip
                                  exfalso; omega
                            · skip
                              refine r_callS gd hX hP rfl cs_12_361 (d' := 0) (mc' := 0) (ms' := 0) (as' := [(0, 0)]) (st := []) (by decide) (by decide) (by decide) rfl rfl (Nat.le_of_ble_eq_true rfl) (c_X12_isLetter E S (hv [84, 87] [] (up (up (up (hv [83] [] (up G 1 (Ad E 1) 83 bf1) Gk8) 1 (Ad E 1) 84 at_8) 1 (Ad E 1) 82 1) 1 (Ad E 1) 87 0) Gk109) 0 (by omega) (by omega)) ?_
                              rintro _ _ _ ⟨rfl, rfl, z805, rfl, (⟨rfl, f806, f807⟩ | ⟨rfl, f808⟩)⟩
                              · skip
                                refine r_if_eq hX hP rfl (tgt := 182) rfl (by omega) (by omega) (fun c809 => ?_) (fun c809 => ?_)
                                · skip
                                  exfalso; omega
                                · skip
                                  refine r_ex hX hP 2 (pc' := 125) (st' := [(2, (Ad E 1)), (2, (Ad E 1))]) (lo' := [(0, (2, (Ad E 1))), (1, (0, z770))]) rfl ?_
                                  refine r_getKI hX hP rfl fl_12_349 hS (x := behind_109) behind_109_e ?_
                                  refine r_ex hX hP 1 (pc' := 129) (st' := [(2, (Ad E 1)), (0, behind_109), (2, (Ad E 1))]) (lo' := [(0, (2, (Ad E 1))), (1, (0, z770))]) rfl ?_
                                  refine r_getKI hX hP rfl fl_12_352 hS (x := at_8) at_8_e ?_
                                  refine r_ex hX hP 2 (pc' := 135) (st' := [(0, 12), (0, (behind_109 - at_8)), (2, (Ad E 1))]) (lo' := [(0, (2, (Ad E 1))), (1, (0, z770))]) rfl ?_
                                  refine r_ic_ge hX hP rfl (tgt := 163) rfl (by omega) (by omega) (by omega) (by omega) (fun c810 => ?_) (fun c810 => ?_)
                                  · skip
                                    refine r_ldc2 hX hP rfl (v := (-1)) (tbg sg9 135 rfl rfl) ?_
                                    refine r_putLK hX hP rfl fp_12_364 hS (by omega) (by omega) (fun h811 => ?_)
                                    refine r_ex hX hP 2 (pc' := 171) (st' := [(2, (Ad E 1)), (2, (Ad E 1))]) (lo' := [(0, (2, (Ad E 1))), (1, (0, z770))]) rfl ?_
                                    refine r_getKI hX hP rfl fl_12_349 hS (x := behind_109) behind_109_e ?_
                                    refine r_ex hX hP 2 (pc' := 176) (st' := [(0, (behind_109 + 1)), (2, (Ad E 1))]) (lo' := [(0, (2, (Ad E 1))), (1, (0, z770))]) rfl ?_
                                    refine r_putIK hX hP rfl fp_12_349 hS (by omega) (by omega) (fun h812 => ?_)
                                    refine r_ex hX hP 1 (pc' := 109) (st' := []) (lo' := [(0, (2, (Ad E 1))), (1, (0, z770))]) rfl ?_
                                    refine r_eqG (X := X) (hq_up (hq_up (hq_base _ _ _ _) rfl) rfl) ?_
                                    exact ih109 (behind_109 + 1) _ h812 (by omega) (by omega) (by omega)
                                  · skip
                                    refine r_ex hX hP 1 (pc' := 139) (st' := [(2, (Ad E 1)), (2, (Ad E 1))]) (lo' := [(0, (2, (Ad E 1))), (1, (0, z770))]) rfl ?_
                                    refine r_getL hX hP rfl fl_12_364 hS (fun wf813 wf813e wf813a wf813b => ?_)
                                    refine r_ldc2 hX hP rfl (v := 32) (tbg sg9 133 rfl rfl) ?_
                                    refine r_ex hX hP 1 (pc' := 146) (st' := [(1, (wf813 * 32)), (2, (Ad E 1))]) (lo' := [(0, (2, (Ad E 1))), (1, (0, z770))]) rfl ?_
                                    refine r_hvL hX (fun w814 w814a w814b w814e => ?_)
                                    refine r_ex hX hP 2 (pc' := 148) (st' := [(2, (Ad E 1)), (2, (Ad E 1)), (1, w814), (2, (Ad E 1))]) (lo' := [(0, (2, (Ad E 1))), (1, (0, z770))]) rfl ?_
                                    refine r_getKI hX hP rfl fl_12_349 hS (x := behind_109) behind_109_e ?_
                                    refine r_callV gd hX hP rfl cv_12_355 hS (d' := 0) (mc' := 0) (ms' := 0) (as' := [(0, behind_109)]) (st := [(1, w814), (2, (Ad E 1))]) (by decide) (by decide) (by decide) rfl rfl (Nat.le_of_ble_eq_true rfl) (c_X12_look E S (hv [84, 87] [] (up (up (up (hv [83] [] (up G 1 (Ad E 1) 83 bf1) Gk8) 1 (Ad E 1) 84 at_8) 1 (Ad E 1) 82 1) 1 (Ad E 1) 87 0) Gk109) behind_109 hS tf3 tf3e (by omega) (by omega)) ?_
                                    rintro _ _ _ ⟨rfl, rfl, z815, rfl, (⟨z815a, z815b, f816⟩ | ⟨rfl, f817⟩)⟩
                                    · skip
                                      refine r_i2l hX hP rfl (by omega) (by omega) ?_
                                      refine r_ex hX hP 1 (pc' := 156) (st' := [(1, (w814 + z815)), (2, (Ad E 1))]) (lo' := [(0, (2, (Ad E 1))), (1, (0, z770))]) rfl ?_
                                      refine r_hvL hX (fun w818 w818a w818b w818e => ?_)
                                      refine r_ldc2 hX hP rfl (v := 96) (tbg sg9 134 rfl rfl) ?_
                                      refine r_ex hX hP 1 (pc' := 160) (st' := [(1, (w818 - 96)), (2, (Ad E 1))]) (lo' := [(0, (2, (Ad E 1))), (1, (0, z770))]) rfl ?_
                                      refine r_hvL hX (fun w819 w819a w819b w819e => ?_)
                                      refine r_ex hX hP 1 (pc' := 166) (st' := [(1, w819), (2, (Ad E 1))]) (lo' := [(0, (2, (Ad E 1))), (1, (0, z770))]) rfl ?_
                                      refine r_putLK hX hP rfl fp_12_364 hS (by omega) (by omega) (fun h820 => ?_)
                                      refine r_ex hX hP 2 (pc' := 171) (st' := [(2, (Ad E 1)), (2, (Ad E 1))]) (lo' := [(0, (2, (Ad E 1))), (1, (0, z770))]) rfl ?_
                                      refine r_getKI hX hP rfl fl_12_349 hS (x := behind_109) behind_109_e ?_
                                      refine r_ex hX hP 2 (pc' := 176) (st' := [(0, (behind_109 + 1)), (2, (Ad E 1))]) (lo' := [(0, (2, (Ad E 1))), (1, (0, z770))]) rfl ?_
                                      refine r_putIK hX hP rfl fp_12_349 hS (by omega) (by omega) (fun h821 => ?_)
                                      refine r_ex hX hP 1 (pc' := 109) (st' := []) (lo' := [(0, (2, (Ad E 1))), (1, (0, z770))]) rfl ?_
                                      refine r_eqG (X := X) (hq_up (hq_up (hq_base _ _ _ _) rfl) rfl) ?_
                                      exact ih109 (behind_109 + 1) _ h821 (by omega) (by omega) (by omega)
                                    · skip
                                      refine r_i2l hX hP rfl (by omega) (by omega) ?_
                                      refine r_ex hX hP 1 (pc' := 156) (st' := [(1, (w814 + 0)), (2, (Ad E 1))]) (lo' := [(0, (2, (Ad E 1))), (1, (0, z770))]) rfl ?_
                                      refine r_ldc2 hX hP rfl (v := 96) (tbg sg9 134 rfl rfl) ?_
                                      refine r_ex hX hP 1 (pc' := 160) (st' := [(1, ((w814 + 0) - 96)), (2, (Ad E 1))]) (lo' := [(0, (2, (Ad E 1))), (1, (0, z770))]) rfl ?_
                                      refine r_hvL hX (fun w822 w822a w822b w822e => ?_)
                                      refine r_ex hX hP 1 (pc' := 166) (st' := [(1, w822), (2, (Ad E 1))]) (lo' := [(0, (2, (Ad E 1))), (1, (0, z770))]) rfl ?_
                                      refine r_putLK hX hP rfl fp_12_364 hS (by omega) (by omega) (fun h823 => ?_)
                                      refine r_ex hX hP 2 (pc' := 171) (st' := [(2, (Ad E 1)), (2, (Ad E 1))]) (lo' := [(0, (2, (Ad E 1))), (1, (0, z770))]) rfl ?_
                                      refine r_getKI hX hP rfl fl_12_349 hS (x := behind_109) behind_109_e ?_
                                      refine r_ex hX hP 2 (pc' := 176) (st' := [(0, (behind_109 + 1)), (2, (Ad E 1))]) (lo' := [(0, (2, (Ad E 1))), (1, (0, z770))]) rfl ?_
                                      refine r_putIK hX hP rfl fp_12_349 hS (by omega) (by omega) (fun h824 => ?_)
                                      refine r_ex hX hP 1 (pc' := 109) (st' := []) (lo' := [(0, (2, (Ad E 1))), (1, (0, z770))]) rfl ?_
                                      refine r_eqG (X := X) (hq_up (hq_up (hq_base _ _ _ _) rfl) rfl) ?_
                                      exact ih109 (behind_109 + 1) _ h824 (by omega) (by omega) (by omega)
                              · skip
                                refine r_if_eq hX hP rfl (tgt := 182) rfl (by omega) (by omega) (fun c825 => ?_) (fun c825 => ?_)
                                · skip
                                  refine r_ex hX hP 2 (pc' := 184) (st' := [(2, (Ad E 1)), (2, (Ad E 1))]) (lo' := [(0, (2, (Ad E 1))), (1, (0, z770))]) rfl ?_
                                  refine r_getKI hX hP rfl fl_12_349 hS (x := behind_109) behind_109_e ?_
                                  refine r_ex hX hP 1 (pc' := 188) (st' := [(2, (Ad E 1)), (0, behind_109), (2, (Ad E 1))]) (lo' := [(0, (2, (Ad E 1))), (1, (0, z770))]) rfl ?_
                                  refine r_getKI hX hP rfl fl_12_352 hS (x := at_8) at_8_e ?_
                                  refine r_ex hX hP 1 (pc' := 192) (st' := [(0, (behind_109 - at_8)), (2, (Ad E 1))]) (lo' := [(0, (2, (Ad E 1))), (1, (0, z770))]) rfl ?_
                                  refine r_putIK hX hP rfl fp_12_373 hS (by omega) (by omega) (fun h826 => ?_)
                                  refine r_ex hX hP 1 (pc' := 354) (st' := []) (lo' := [(0, (2, (Ad E 1))), (1, (0, z770))]) rfl ?_
                                  exact r_retV hX hP rfl rfl (by omega) (by omega) ⟨rfl, ⟨_, (hq_up (hq_loop (hq_up (hq_up (hq_up (hq_loop (hq_up (hq_refl _ _ _) rfl) rfl) rfl) rfl) rfl) rfl) rfl).symm⟩, rfl, trivial⟩
                                · skip
                                  exfalso; omega
                        refine r_eqG (X := X) (hq_refl [84, 87] [] _) ?_
                        exact loop109 ((400 - at_8) + 1).toNat at_8 _ h768 (by omega) (by omega) (by omega)
                    · skip
                      refine r_if_eq hX hP rfl (tgt := 198) rfl (by omega) (by omega) (fun c827 => ?_) (fun c827 => ?_)
                      · skip
                        refine r_ex hX hP 1 (pc' := 199) (st' := [(0, z770)]) (lo' := [(0, (2, (Ad E 1))), (1, (0, z770))]) rfl ?_
                        refine r_callS gd hX hP rfl cs_12_376 (d' := 0) (mc' := 0) (ms' := 0) (as' := [(0, z770)]) (st := []) (by decide) (by decide) (by decide) rfl rfl (Nat.le_of_ble_eq_true rfl) (c_X12_isDigit E S (up (hv [83] [] (up G 1 (Ad E 1) 83 bf1) Gk8) 1 (Ad E 1) 84 at_8) z770 (by omega) (by omega)) ?_
                        rintro _ _ _ ⟨rfl, rfl, z828, rfl, (⟨rfl, f829, f830⟩ | ⟨rfl, f831⟩)⟩
                        · skip
                          refine r_if_eq hX hP rfl (tgt := 300) rfl (by omega) (by omega) (fun c832 => ?_) (fun c832 => ?_)
                          · skip
                            exfalso; omega
                          · skip
                            refine r_ex hX hP 2 (pc' := 207) (st' := [(0, 0), (2, (Ad E 1))]) (lo' := [(0, (2, (Ad E 1))), (1, (0, z770))]) rfl ?_
                            refine r_putIK hX hP rfl fp_12_379 hS (by omega) (by omega) (fun h833 => ?_)
                            have loop210 : ∀ (n : Nat) (behind_210 : Int) (Gk210 : Gh), behind_210 = (hv [84, 85] [] (up (up (hv [83] [] (up G 1 (Ad E 1) 83 bf1) Gk8) 1 (Ad E 1) 84 at_8) 1 (Ad E 1) 85 0) Gk210) 1 (Ad E 1) 84 → 0 ≤ behind_210 → behind_210 ≤ 400 → 400 - behind_210 < (n : Int) → X 0 0 210 [] [(0, (2, (Ad E 1))), (1, (0, z770))] S (hv [84, 85] [] (up (up (hv [83] [] (up G 1 (Ad E 1) 83 bf1) Gk8) 1 (Ad E 1) 84 at_8) 1 (Ad E 1) 85 0) Gk210) := by
                              intro n
                              induction n with
                              | zero => intro behind_210 Gk210 behind_210_e y210_0 y210_1 ym210; exfalso; omega
                              | succ n ih210 =>
                                intro behind_210 Gk210 behind_210_e y210_0 y210_1 ym210
                                refine r_ex hX hP 2 (pc' := 212) (st' := [(2, (Ad E 1)), (2, (Ad E 1))]) (lo' := [(0, (2, (Ad E 1))), (1, (0, z770))]) rfl ?_
                                refine r_getKI hX hP rfl fl_12_349 hS (x := behind_210) behind_210_e ?_
                                refine r_callV gd hX hP rfl cv_12_355 hS (d' := 0) (mc' := 0) (ms' := 0) (as' := [(0, behind_210)]) (st := []) (by decide) (by decide) (by decide) rfl rfl (Nat.le_of_ble_eq_true rfl) (c_X12_look E S (hv [84, 85] [] (up (up (hv [83] [] (up G 1 (Ad E 1) 83 bf1) Gk8) 1 (Ad E 1) 84 at_8) 1 (Ad E 1) 85 0) Gk210) behind_210 hS tf3 tf3e (by omega) (by omega)) ?_
                                rintro _ _ _ ⟨rfl, rfl, z834, rfl, (⟨z834a, z834b, f835⟩ | ⟨rfl, f836⟩)⟩
                                · skip
                                  refine r_callS gd hX hP rfl cs_12_376 (d' := 0) (mc' := 0) (ms' := 0) (as' := [(0, z834)]) (st := []) (by decide) (by decide) (by decide) rfl rfl (Nat.le_of_ble_eq_true rfl) (c_X12_isDigit E S (hv [84, 85] [] (up (up (hv [83] [] (up G 1 (Ad E 1) 83 bf1) Gk8) 1 (Ad E 1) 84 at_8) 1 (Ad E 1) 85 0) Gk210) z834 (by omega) (by omega)) ?_
                                  rintro _ _ _ ⟨rfl, rfl, z837, rfl, (⟨rfl, f838, f839⟩ | ⟨rfl, f840⟩)⟩
                                  · skip
                                    refine r_if_eq hX hP rfl (tgt := 274) rfl (by omega) (by omega) (fun c841 => ?_) (fun c841 => ?_)
                                    · skip
                                      exfalso; omega
                                    · skip
                                      refine r_ex hX hP 1 (pc' := 225) (st' := [(2, (Ad E 1))]) (lo' := [(0, (2, (Ad E 1))), (1, (0, z770))]) rfl ?_
                                      refine r_getKI hX hP rfl fl_12_349 hS (x := behind_210) behind_210_e ?_
                                      refine r_ex hX hP 1 (pc' := 229) (st' := [(2, (Ad E 1)), (0, behind_210)]) (lo' := [(0, (2, (Ad E 1))), (1, (0, z770))]) rfl ?_
                                      refine r_getKI hX hP rfl fl_12_352 hS (x := at_8) at_8_e ?_
                                      refine r_ex hX hP 2 (pc' := 235) (st' := [(0, 7), (0, (behind_210 - at_8))]) (lo' := [(0, (2, (Ad E 1))), (1, (0, z770))]) rfl ?_
                                      refine r_ic_ge hX hP rfl (tgt := 261) rfl (by omega) (by omega) (by omega) (by omega) (fun c842 => ?_) (fun c842 => ?_)
                                      · skip
                                        refine r_ex hX hP 2 (pc' := 263) (st' := [(2, (Ad E 1)), (2, (Ad E 1))]) (lo' := [(0, (2, (Ad E 1))), (1, (0, z770))]) rfl ?_
                                        refine r_getKI hX hP rfl fl_12_349 hS (x := behind_210) behind_210_e ?_
                                        refine r_ex hX hP 2 (pc' := 268) (st' := [(0, (behind_210 + 1)), (2, (Ad E 1))]) (lo' := [(0, (2, (Ad E 1))), (1, (0, z770))]) rfl ?_
                                        refine r_putIK hX hP rfl fp_12_349 hS (by omega) (by omega) (fun h843 => ?_)
                                        refine r_ex hX hP 1 (pc' := 210) (st' := []) (lo' := [(0, (2, (Ad E 1))), (1, (0, z770))]) rfl ?_
                                        refine r_eqG (X := X) (hq_up (hq_base _ _ _ _) rfl) ?_
                                        exact ih210 (behind_210 + 1) _ h843 (by omega) (by omega) (by omega)
                                      · skip
                                        refine r_ex hX hP 3 (pc' := 242) (st' := [(2, (Ad E 1)), (0, 10), (2, (Ad E 1))]) (lo' := [(0, (2, (Ad E 1))), (1, (0, z770))]) rfl ?_
                                        refine r_getI hX hP rfl fl_12_379 hS (fun nf844 nf844e nf844a nf844b => ?_)
                                        refine r_ex hX hP 1 (pc' := 246) (st' := [(0, (10 * nf844)), (2, (Ad E 1))]) (lo' := [(0, (2, (Ad E 1))), (1, (0, z770))]) rfl ?_
                                        refine r_hvI hX (fun w845 w845a w845b w845e => ?_)
                                        refine r_ex hX hP 2 (pc' := 248) (st' := [(2, (Ad E 1)), (2, (Ad E 1)), (0, w845), (2, (Ad E 1))]) (lo' := [(0, (2, (Ad E 1))), (1, (0, z770))]) rfl ?_
                                        refine r_getKI hX hP rfl fl_12_349 hS (x := behind_210) behind_210_e ?_
                                        refine r_callV gd hX hP rfl cv_12_355 hS (d' := 0) (mc' := 0) (ms' := 0) (as' := [(0, behind_210)]) (st := [(0, w845), (2, (Ad E 1))]) (by decide) (by decide) (by decide) rfl rfl (Nat.le_of_ble_eq_true rfl) (c_X12_look E S (hv [84, 85] [] (up (up (hv [83] [] (up G 1 (Ad E 1) 83 bf1) Gk8) 1 (Ad E 1) 84 at_8) 1 (Ad E 1) 85 0) Gk210) behind_210 hS tf3 tf3e (by omega) (by omega)) ?_
                                        rintro _ _ _ ⟨rfl, rfl, z846, rfl, (⟨z846a, z846b, f847⟩ | ⟨rfl, f848⟩)⟩
                                        · skip
                                          refine r_ex hX hP 1 (pc' := 255) (st' := [(0, (w845 + z846)), (2, (Ad E 1))]) (lo' := [(0, (2, (Ad E 1))), (1, (0, z770))]) rfl ?_
                                          refine r_hvI hX (fun w849 w849a w849b w849e => ?_)
                                          refine r_ex hX hP 2 (pc' := 258) (st' := [(0, (w849 - 48)), (2, (Ad E 1))]) (lo' := [(0, (2, (Ad E 1))), (1, (0, z770))]) rfl ?_
                                          refine r_hvI hX (fun w850 w850a w850b w850e => ?_)
                                          refine r_putIK hX hP rfl fp_12_379 hS (by omega) (by omega) (fun h851 => ?_)
                                          refine r_ex hX hP 2 (pc' := 263) (st' := [(2, (Ad E 1)), (2, (Ad E 1))]) (lo' := [(0, (2, (Ad E 1))), (1, (0, z770))]) rfl ?_
                                          refine r_getKI hX hP rfl fl_12_349 hS (x := behind_210) behind_210_e ?_
                                          refine r_ex hX hP 2 (pc' := 268) (st' := [(0, (behind_210 + 1)), (2, (Ad E 1))]) (lo' := [(0, (2, (Ad E 1))), (1, (0, z770))]) rfl ?_
                                          refine r_putIK hX hP rfl fp_12_349 hS (by omega) (by omega) (fun h852 => ?_)
                                          refine r_ex hX hP 1 (pc' := 210) (st' := []) (lo' := [(0, (2, (Ad E 1))), (1, (0, z770))]) rfl ?_
                                          refine r_eqG (X := X) (hq_up (hq_up (hq_base _ _ _ _) rfl) rfl) ?_
                                          exact ih210 (behind_210 + 1) _ h852 (by omega) (by omega) (by omega)
                                        · skip
                                          refine r_ex hX hP 3 (pc' := 258) (st' := [(0, ((w845 + 0) - 48)), (2, (Ad E 1))]) (lo' := [(0, (2, (Ad E 1))), (1, (0, z770))]) rfl ?_
                                          refine r_hvI hX (fun w853 w853a w853b w853e => ?_)
                                          refine r_putIK hX hP rfl fp_12_379 hS (by omega) (by omega) (fun h854 => ?_)
                                          refine r_ex hX hP 2 (pc' := 263) (st' := [(2, (Ad E 1)), (2, (Ad E 1))]) (lo' := [(0, (2, (Ad E 1))), (1, (0, z770))]) rfl ?_
                                          refine r_getKI hX hP rfl fl_12_349 hS (x := behind_210) behind_210_e ?_
                                          refine r_ex hX hP 2 (pc' := 268) (st' := [(0, (behind_210 + 1)), (2, (Ad E 1))]) (lo' := [(0, (2, (Ad E 1))), (1, (0, z770))]) rfl ?_
                                          refine r_putIK hX hP rfl fp_12_349 hS (by omega) (by omega) (fun h855 => ?_)
                                          refine r_ex hX hP 1 (pc' := 210) (st' := []) (lo' := [(0, (2, (Ad E 1))), (1, (0, z770))]) rfl ?_
                                          refine r_eqG (X := X) (hq_up (hq_up (hq_base _ _ _ _) rfl) rfl) ?_
                                          exact ih210 (behind_210 + 1) _ h855 (by omega) (by omega) (by omega)
                                  · skip
                                    refine r_if_eq hX hP rfl (tgt := 274) rfl (by omega) (by omega) (fun c856 => ?_) (fun c856 => ?_)
                                    · skip
                                      refine r_ex hX hP 2 (pc' := 276) (st' := [(2, (Ad E 1)), (2, (Ad E 1))]) (lo' := [(0, (2, (Ad E 1))), (1, (0, z770))]) rfl ?_
                                      refine r_getKI hX hP rfl fl_12_349 hS (x := behind_210) behind_210_e ?_
                                      refine r_ex hX hP 1 (pc' := 280) (st' := [(2, (Ad E 1)), (0, behind_210), (2, (Ad E 1))]) (lo' := [(0, (2, (Ad E 1))), (1, (0, z770))]) rfl ?_
                                      refine r_getKI hX hP rfl fl_12_352 hS (x := at_8) at_8_e ?_
                                      refine r_ex hX hP 2 (pc' := 286) (st' := [(0, 7), (0, (behind_210 - at_8)), (2, (Ad E 1))]) (lo' := [(0, (2, (Ad E 1))), (1, (0, z770))]) rfl ?_
                                      refine r_ic_le hX hP rfl (tgt := 293) rfl (by omega) (by omega) (by omega) (by omega) (fun c857 => ?_) (fun c857 => ?_)
                                      · skip
                                        refine r_ex hX hP 1 (pc' := 294) (st' := [(0, 2), (2, (Ad E 1))]) (lo' := [(0, (2, (Ad E 1))), (1, (0, z770))]) rfl ?_
                                        refine r_putIK hX hP rfl fp_12_358 hS (by omega) (by omega) (fun h858 => ?_)
                                        refine r_ex hX hP 1 (pc' := 354) (st' := []) (lo' := [(0, (2, (Ad E 1))), (1, (0, z770))]) rfl ?_
                                        exact r_retV hX hP rfl rfl (by omega) (by omega) ⟨rfl, ⟨_, (hq_up (hq_loop (hq_up (hq_up (hq_loop (hq_up (hq_refl _ _ _) rfl) rfl) rfl) rfl) rfl) rfl).symm⟩, rfl, trivial⟩
                                      · skip
                                        refine r_ex hX hP 2 (pc' := 294) (st' := [(0, 4), (2, (Ad E 1))]) (lo' := [(0, (2, (Ad E 1))), (1, (0, z770))]) rfl ?_
                                        refine r_putIK hX hP rfl fp_12_358 hS (by omega) (by omega) (fun h859 => ?_)
                                        refine r_ex hX hP 1 (pc' := 354) (st' := []) (lo' := [(0, (2, (Ad E 1))), (1, (0, z770))]) rfl ?_
                                        exact r_retV hX hP rfl rfl (by omega) (by omega) ⟨rfl, ⟨_, (hq_up (hq_loop (hq_up (hq_up (hq_loop (hq_up (hq_refl _ _ _) rfl) rfl) rfl) rfl) rfl) rfl).symm⟩, rfl, trivial⟩
                                    · skip
                                      exfalso; omega
                                · skip
                                  refine r_callS gd hX hP rfl cs_12_376 (d' := 0) (mc' := 0) (ms' := 0) (as' := [(0, 0)]) (st := []) (by decide) (by decide) (by decide) rfl rfl (Nat.le_of_ble_eq_true rfl) (c_X12_isDigit E S (hv [84, 85] [] (up (up (hv [83] [] (up G 1 (Ad E 1) 83 bf1) Gk8) 1 (Ad E 1) 84 at_8) 1 (Ad E 1) 85 0) Gk210) 0 (by omega) (by omega)) ?_
                                  rintro _ _ _ ⟨rfl, rfl, z860, rfl, (⟨rfl, f861, f862⟩ | ⟨rfl, f863⟩)⟩
                                  · skip
                                    refine r_if_eq hX hP rfl (tgt := 274) rfl (by omega) (by omega) (fun c864 => ?_) (fun c864 => ?_)
                                    · skip
                                      exfalso; omega
                                    · skip
                                      refine r_ex hX hP 1 (pc' := 225) (st' := [(2, (Ad E 1))]) (lo' := [(0, (2, (Ad E 1))), (1, (0, z770))]) rfl ?_
                                      refine r_getKI hX hP rfl fl_12_349 hS (x := behind_210) behind_210_e ?_
                                      refine r_ex hX hP 1 (pc' := 229) (st' := [(2, (Ad E 1)), (0, behind_210)]) (lo' := [(0, (2, (Ad E 1))), (1, (0, z770))]) rfl ?_
                                      refine r_getKI hX hP rfl fl_12_352 hS (x := at_8) at_8_e ?_
                                      refine r_ex hX hP 2 (pc' := 235) (st' := [(0, 7), (0, (behind_210 - at_8))]) (lo' := [(0, (2, (Ad E 1))), (1, (0, z770))]) rfl ?_
                                      refine r_ic_ge hX hP rfl (tgt := 261) rfl (by omega) (by omega) (by omega) (by omega) (fun c865 => ?_) (fun c865 => ?_)
                                      · skip
                                        refine r_ex hX hP 2 (pc' := 263) (st' := [(2, (Ad E 1)), (2, (Ad E 1))]) (lo' := [(0, (2, (Ad E 1))), (1, (0, z770))]) rfl ?_
                                        refine r_getKI hX hP rfl fl_12_349 hS (x := behind_210) behind_210_e ?_
                                        refine r_ex hX hP 2 (pc' := 268) (st' := [(0, (behind_210 + 1)), (2, (Ad E 1))]) (lo' := [(0, (2, (Ad E 1))), (1, (0, z770))]) rfl ?_
                                        refine r_putIK hX hP rfl fp_12_349 hS (by omega) (by omega) (fun h866 => ?_)
                                        refine r_ex hX hP 1 (pc' := 210) (st' := []) (lo' := [(0, (2, (Ad E 1))), (1, (0, z770))]) rfl ?_
                                        refine r_eqG (X := X) (hq_up (hq_base _ _ _ _) rfl) ?_
                                        exact ih210 (behind_210 + 1) _ h866 (by omega) (by omega) (by omega)
                                      · skip
                                        refine r_ex hX hP 3 (pc' := 242) (st' := [(2, (Ad E 1)), (0, 10), (2, (Ad E 1))]) (lo' := [(0, (2, (Ad E 1))), (1, (0, z770))]) rfl ?_
                                        refine r_getI hX hP rfl fl_12_379 hS (fun nf867 nf867e nf867a nf867b => ?_)
                                        refine r_ex hX hP 1 (pc' := 246) (st' := [(0, (10 * nf867)), (2, (Ad E 1))]) (lo' := [(0, (2, (Ad E 1))), (1, (0, z770))]) rfl ?_
                                        refine r_hvI hX (fun w868 w868a w868b w868e => ?_)
                                        refine r_ex hX hP 2 (pc' := 248) (st' := [(2, (Ad E 1)), (2, (Ad E 1)), (0, w868), (2, (Ad E 1))]) (lo' := [(0, (2, (Ad E 1))), (1, (0, z770))]) rfl ?_
                                        refine r_getKI hX hP rfl fl_12_349 hS (x := behind_210) behind_210_e ?_
                                        refine r_callV gd hX hP rfl cv_12_355 hS (d' := 0) (mc' := 0) (ms' := 0) (as' := [(0, behind_210)]) (st := [(0, w868), (2, (Ad E 1))]) (by decide) (by decide) (by decide) rfl rfl (Nat.le_of_ble_eq_true rfl) (c_X12_look E S (hv [84, 85] [] (up (up (hv [83] [] (up G 1 (Ad E 1) 83 bf1) Gk8) 1 (Ad E 1) 84 at_8) 1 (Ad E 1) 85 0) Gk210) behind_210 hS tf3 tf3e (by omega) (by omega)) ?_
                                        rintro _ _ _ ⟨rfl, rfl, z869, rfl, (⟨z869a, z869b, f870⟩ | ⟨rfl, f871⟩)⟩
                                        · skip
                                          refine r_ex hX hP 1 (pc' := 255) (st' := [(0, (w868 + z869)), (2, (Ad E 1))]) (lo' := [(0, (2, (Ad E 1))), (1, (0, z770))]) rfl ?_
                                          refine r_hvI hX (fun w872 w872a w872b w872e => ?_)
                                          refine r_ex hX hP 2 (pc' := 258) (st' := [(0, (w872 - 48)), (2, (Ad E 1))]) (lo' := [(0, (2, (Ad E 1))), (1, (0, z770))]) rfl ?_
                                          refine r_hvI hX (fun w873 w873a w873b w873e => ?_)
                                          refine r_putIK hX hP rfl fp_12_379 hS (by omega) (by omega) (fun h874 => ?_)
                                          refine r_ex hX hP 2 (pc' := 263) (st' := [(2, (Ad E 1)), (2, (Ad E 1))]) (lo' := [(0, (2, (Ad E 1))), (1, (0, z770))]) rfl ?_
                                          refine r_getKI hX hP rfl fl_12_349 hS (x := behind_210) behind_210_e ?_
                                          refine r_ex hX hP 2 (pc' := 268) (st' := [(0, (behind_210 + 1)), (2, (Ad E 1))]) (lo' := [(0, (2, (Ad E 1))), (1, (0, z770))]) rfl ?_
                                          refine r_putIK hX hP rfl fp_12_349 hS (by omega) (by omega) (fun h875 => ?_)
                                          refine r_ex hX hP 1 (pc' := 210) (st' := []) (lo' := [(0, (2, (Ad E 1))), (1, (0, z770))]) rfl ?_
                                          refine r_eqG (X := X) (hq_up (hq_up (hq_base _ _ _ _) rfl) rfl) ?_
                                          exact ih210 (behind_210 + 1) _ h875 (by omega) (by omega) (by omega)
                                        · skip
                                          refine r_ex hX hP 3 (pc' := 258) (st' := [(0, ((w868 + 0) - 48)), (2, (Ad E 1))]) (lo' := [(0, (2, (Ad E 1))), (1, (0, z770))]) rfl ?_
                                          refine r_hvI hX (fun w876 w876a w876b w876e => ?_)
                                          refine r_putIK hX hP rfl fp_12_379 hS (by omega) (by omega) (fun h877 => ?_)
                                          refine r_ex hX hP 2 (pc' := 263) (st' := [(2, (Ad E 1)), (2, (Ad E 1))]) (lo' := [(0, (2, (Ad E 1))), (1, (0, z770))]) rfl ?_
                                          refine r_getKI hX hP rfl fl_12_349 hS (x := behind_210) behind_210_e ?_
                                          refine r_ex hX hP 2 (pc' := 268) (st' := [(0, (behind_210 + 1)), (2, (Ad E 1))]) (lo' := [(0, (2, (Ad E 1))), (1, (0, z770))]) rfl ?_
                                          refine r_putIK hX hP rfl fp_12_349 hS (by omega) (by omega) (fun h878 => ?_)
                                          refine r_ex hX hP 1 (pc' := 210) (st' := []) (lo' := [(0, (2, (Ad E 1))), (1, (0, z770))]) rfl ?_
                                          refine r_eqG (X := X) (hq_up (hq_up (hq_base _ _ _ _) rfl) rfl) ?_
                                          exact ih210 (behind_210 + 1) _ h878 (by omega) (by omega) (by omega)
                                  · skip
                                    refine r_if_eq hX hP rfl (tgt := 274) rfl (by omega) (by omega) (fun c879 => ?_) (fun c879 => ?_)
                                    · skip
                                      refine r_ex hX hP 2 (pc' := 276) (st' := [(2, (Ad E 1)), (2, (Ad E 1))]) (lo' := [(0, (2, (Ad E 1))), (1, (0, z770))]) rfl ?_
                                      refine r_getKI hX hP rfl fl_12_349 hS (x := behind_210) behind_210_e ?_
                                      refine r_ex hX hP 1 (pc' := 280) (st' := [(2, (Ad E 1)), (0, behind_210), (2, (Ad E 1))]) (lo' := [(0, (2, (Ad E 1))), (1, (0, z770))]) rfl ?_
                                      refine r_getKI hX hP rfl fl_12_352 hS (x := at_8) at_8_e ?_
                                      refine r_ex hX hP 2 (pc' := 286) (st' := [(0, 7), (0, (behind_210 - at_8)), (2, (Ad E 1))]) (lo' := [(0, (2, (Ad E 1))), (1, (0, z770))]) rfl ?_
                                      refine r_ic_le hX hP rfl (tgt := 293) rfl (by omega) (by omega) (by omega) (by omega) (fun c880 => ?_) (fun c880 => ?_)
                                      · skip
                                        refine r_ex hX hP 1 (pc' := 294) (st' := [(0, 2), (2, (Ad E 1))]) (lo' := [(0, (2, (Ad E 1))), (1, (0, z770))]) rfl ?_
                                        refine r_putIK hX hP rfl fp_12_358 hS (by omega) (by omega) (fun h881 => ?_)
                                        refine r_ex hX hP 1 (pc' := 354) (st' := []) (lo' := [(0, (2, (Ad E 1))), (1, (0, z770))]) rfl ?_
                                        exact r_retV hX hP rfl rfl (by omega) (by omega) ⟨rfl, ⟨_, (hq_up (hq_loop (hq_up (hq_up (hq_loop (hq_up (hq_refl _ _ _) rfl) rfl) rfl) rfl) rfl) rfl).symm⟩, rfl, trivial⟩
                                      · skip
                                        refine r_ex hX hP 2 (pc' := 294) (st' := [(0, 4), (2, (Ad E 1))]) (lo' := [(0, (2, (Ad E 1))), (1, (0, z770))]) rfl ?_
                                        refine r_putIK hX hP rfl fp_12_358 hS (by omega) (by omega) (fun h882 => ?_)
                                        refine r_ex hX hP 1 (pc' := 354) (st' := []) (lo' := [(0, (2, (Ad E 1))), (1, (0, z770))]) rfl ?_
                                        exact r_retV hX hP rfl rfl (by omega) (by omega) ⟨rfl, ⟨_, (hq_up (hq_loop (hq_up (hq_up (hq_loop (hq_up (hq_refl _ _ _) rfl) rfl) rfl) rfl) rfl) rfl).symm⟩, rfl, trivial⟩
                                    · skip
                                      exfalso; omega
                            refine r_eqG (X := X) (hq_refl [84, 85] [] _) ?_
                            exact loop210 ((400 - at_8) + 1).toNat at_8 _ h768 (by omega) (by omega) (by omega)
                        · skip
                          refine r_if_eq hX hP rfl (tgt := 300) rfl (by omega) (by omega) (fun c883 => ?_) (fun c883 => ?_)
                          · skip
                            refine r_ex hX hP 2 (pc' := 302) (st' := [(2, (Ad E 1)), (2, (Ad E 1))]) (lo' := [(0, (2, (Ad E 1))), (1, (0, z770))]) rfl ?_
                            refine r_getKI hX hP rfl fl_12_352 hS (x := at_8) at_8_e ?_
                            refine r_ex hX hP 2 (pc' := 307) (st' := [(0, (at_8 + 1)), (2, (Ad E 1))]) (lo' := [(0, (2, (Ad E 1))), (1, (0, z770))]) rfl ?_
                            refine r_putIK hX hP rfl fp_12_349 hS (by omega) (by omega) (fun h884 => ?_)
                            refine r_ex hX hP 2 (pc' := 312) (st' := [(0, z770), (2, (Ad E 1))]) (lo' := [(0, (2, (Ad E 1))), (1, (0, z770))]) rfl ?_
                            refine r_putIK hX hP rfl fp_12_379 hS (by omega) (by omega) (fun h885 => ?_)
                            refine r_ex hX hP 3 (pc' := 319) (st' := [(0, 59), (0, z770), (2, (Ad E 1))]) (lo' := [(0, (2, (Ad E 1))), (1, (0, z770))]) rfl ?_
                            refine r_ic_eq hX hP rfl (tgt := 346) rfl (by omega) (by omega) (by omega) (by omega) (fun c886 => ?_) (fun c886 => ?_)
                            · skip
                              refine r_ex hX hP 2 (pc' := 351) (st' := [(0, 3), (2, (Ad E 1))]) (lo' := [(0, (2, (Ad E 1))), (1, (0, z770))]) rfl ?_
                              refine r_putIK hX hP rfl fp_12_358 hS (by omega) (by omega) (fun h887 => ?_)
                              exact r_retV hX hP rfl rfl (by omega) (by omega) ⟨rfl, ⟨_, (hq_up (hq_up (hq_up (hq_up (hq_loop (hq_up (hq_refl _ _ _) rfl) rfl) rfl) rfl) rfl) rfl).symm⟩, rfl, trivial⟩
                            · skip
                              refine r_ex hX hP 2 (pc' := 325) (st' := [(0, 123), (0, z770), (2, (Ad E 1))]) (lo' := [(0, (2, (Ad E 1))), (1, (0, z770))]) rfl ?_
                              refine r_ic_eq hX hP rfl (tgt := 346) rfl (by omega) (by omega) (by omega) (by omega) (fun c888 => ?_) (fun c888 => ?_)
                              · skip
                                refine r_ex hX hP 2 (pc' := 351) (st' := [(0, 3), (2, (Ad E 1))]) (lo' := [(0, (2, (Ad E 1))), (1, (0, z770))]) rfl ?_
                                refine r_putIK hX hP rfl fp_12_358 hS (by omega) (by omega) (fun h889 => ?_)
                                exact r_retV hX hP rfl rfl (by omega) (by omega) ⟨rfl, ⟨_, (hq_up (hq_up (hq_up (hq_up (hq_loop (hq_up (hq_refl _ _ _) rfl) rfl) rfl) rfl) rfl) rfl).symm⟩, rfl, trivial⟩
                              · skip
                                refine r_ex hX hP 2 (pc' := 331) (st' := [(0, 125), (0, z770), (2, (Ad E 1))]) (lo' := [(0, (2, (Ad E 1))), (1, (0, z770))]) rfl ?_
                                refine r_ic_eq hX hP rfl (tgt := 346) rfl (by omega) (by omega) (by omega) (by omega) (fun c890 => ?_) (fun c890 => ?_)
                                · skip
                                  refine r_ex hX hP 2 (pc' := 351) (st' := [(0, 3), (2, (Ad E 1))]) (lo' := [(0, (2, (Ad E 1))), (1, (0, z770))]) rfl ?_
                                  refine r_putIK hX hP rfl fp_12_358 hS (by omega) (by omega) (fun h891 => ?_)
                                  exact r_retV hX hP rfl rfl (by omega) (by omega) ⟨rfl, ⟨_, (hq_up (hq_up (hq_up (hq_up (hq_loop (hq_up (hq_refl _ _ _) rfl) rfl) rfl) rfl) rfl) rfl).symm⟩, rfl, trivial⟩
                                · skip
                                  refine r_ex hX hP 2 (pc' := 337) (st' := [(0, 60), (0, z770), (2, (Ad E 1))]) (lo' := [(0, (2, (Ad E 1))), (1, (0, z770))]) rfl ?_
                                  refine r_ic_eq hX hP rfl (tgt := 346) rfl (by omega) (by omega) (by omega) (by omega) (fun c892 => ?_) (fun c892 => ?_)
                                  · skip
                                    refine r_ex hX hP 2 (pc' := 351) (st' := [(0, 3), (2, (Ad E 1))]) (lo' := [(0, (2, (Ad E 1))), (1, (0, z770))]) rfl ?_
                                    refine r_putIK hX hP rfl fp_12_358 hS (by omega) (by omega) (fun h893 => ?_)
                                    exact r_retV hX hP rfl rfl (by omega) (by omega) ⟨rfl, ⟨_, (hq_up (hq_up (hq_up (hq_up (hq_loop (hq_up (hq_refl _ _ _) rfl) rfl) rfl) rfl) rfl) rfl).symm⟩, rfl, trivial⟩
                                  · skip
                                    refine r_ex hX hP 2 (pc' := 343) (st' := [(0, 62), (0, z770), (2, (Ad E 1))]) (lo' := [(0, (2, (Ad E 1))), (1, (0, z770))]) rfl ?_
                                    refine r_ic_ne hX hP rfl (tgt := 350) rfl (by omega) (by omega) (by omega) (by omega) (fun c894 => ?_) (fun c894 => ?_)
                                    · skip
                                      refine r_ex hX hP 1 (pc' := 351) (st' := [(0, 4), (2, (Ad E 1))]) (lo' := [(0, (2, (Ad E 1))), (1, (0, z770))]) rfl ?_
                                      refine r_putIK hX hP rfl fp_12_358 hS (by omega) (by omega) (fun h895 => ?_)
                                      exact r_retV hX hP rfl rfl (by omega) (by omega) ⟨rfl, ⟨_, (hq_up (hq_up (hq_up (hq_up (hq_loop (hq_up (hq_refl _ _ _) rfl) rfl) rfl) rfl) rfl) rfl).symm⟩, rfl, trivial⟩
                                    · skip
                                      refine r_ex hX hP 2 (pc' := 351) (st' := [(0, 3), (2, (Ad E 1))]) (lo' := [(0, (2, (Ad E 1))), (1, (0, z770))]) rfl ?_
                                      refine r_putIK hX hP rfl fp_12_358 hS (by omega) (by omega) (fun h896 => ?_)
                                      exact r_retV hX hP rfl rfl (by omega) (by omega) ⟨rfl, ⟨_, (hq_up (hq_up (hq_up (hq_up (hq_loop (hq_up (hq_refl _ _ _) rfl) rfl) rfl) rfl) rfl) rfl).symm⟩, rfl, trivial⟩
                          · skip
                            exfalso; omega
                      · skip
                        exfalso; omega
                  · skip
                    refine r_ex hX hP 2 (pc' := 93) (st' := [(0, 0)]) (lo' := [(0, (2, (Ad E 1))), (1, (0, 0))]) rfl ?_
                    refine r_callS gd hX hP rfl cs_12_361 (d' := 0) (mc' := 0) (ms' := 0) (as' := [(0, 0)]) (st := []) (by decide) (by decide) (by decide) rfl rfl (Nat.le_of_ble_eq_true rfl) (c_X12_isLetter E S (up (hv [83] [] (up G 1 (Ad E 1) 83 bf1) Gk8) 1 (Ad E 1) 84 at_8) 0 (by omega) (by omega)) ?_
                    rintro _ _ _ ⟨rfl, rfl, z897, rfl, (⟨rfl, f898, f899⟩ | ⟨rfl, f900⟩)⟩
                    · skip
                      refine r_if_eq hX hP rfl (tgt := 198) rfl (by omega) (by omega) (fun c901 => ?_) (fun c901 => ?_)
                      · skip
                        exfalso; omega
                      · skip
                        refine r_ex hX hP 2 (pc' := 101) (st' := [(0, 1), (2, (Ad E 1))]) (lo' := [(0, (2, (Ad E 1))), (1, (0, 0))]) rfl ?_
                        refine r_putIK hX hP rfl fp_12_358 hS (by omega) (by omega) (fun h902 => ?_)
                        refine r_ex hX hP 2 (pc' := 106) (st' := [(1, 0), (2, (Ad E 1))]) (lo' := [(0, (2, (Ad E 1))), (1, (0, 0))]) rfl ?_
                        refine r_putLK hX hP rfl fp_12_364 hS (by omega) (by omega) (fun h903 => ?_)
                        have loop109 : ∀ (n : Nat) (behind_109 : Int) (Gk109 : Gh), behind_109 = (hv [84, 87] [] (up (up (up (hv [83] [] (up G 1 (Ad E 1) 83 bf1) Gk8) 1 (Ad E 1) 84 at_8) 1 (Ad E 1) 82 1) 1 (Ad E 1) 87 0) Gk109) 1 (Ad E 1) 84 → 0 ≤ behind_109 → behind_109 ≤ 400 → 400 - behind_109 < (n : Int) → X 0 0 109 [] [(0, (2, (Ad E 1))), (1, (0, 0))] S (hv [84, 87] [] (up (up (up (hv [83] [] (up G 1 (Ad E 1) 83 bf1) Gk8) 1 (Ad E 1) 84 at_8) 1 (Ad E 1) 82 1) 1 (Ad E 1) 87 0) Gk109) := by
                          intro n
                          induction n with
                          | zero => intro behind_109 Gk109 behind_109_e y109_0 y109_1 ym109; exfalso; omega
                          | succ n ih109 =>
                            intro behind_109 Gk109 behind_109_e y109_0 y109_1 ym109
                            refine r_ex hX hP 2 (pc' := 111) (st' := [(2, (Ad E 1)), (2, (Ad E 1))]) (lo' := [(0, (2, (Ad E 1))), (1, (0, 0))]) rfl ?_
                            refine r_getKI hX hP rfl fl_12_349 hS (x := behind_109) behind_109_e ?_
                            refine r_callV gd hX hP rfl cv_12_355 hS (d' := 0) (mc' := 0) (ms' := 0) (as' := [(0, behind_109)]) (st := []) (by decide) (by decide) (by decide) rfl rfl (Nat.le_of_ble_eq_true rfl) (c_X12_look E S (hv [84, 87] [] (up (up (up (hv [83] [] (up G 1 (Ad E 1) 83 bf1) Gk8) 1 (Ad E 1) 84 at_8) 1 (Ad E 1) 82 1) 1 (Ad E 1) 87 0) Gk109) behind_109 hS tf3 tf3e (by omega) (by omega)) ?_
                            rintro _ _ _ ⟨rfl, rfl, z904, rfl, (⟨z904a, z904b, f905⟩ | ⟨rfl, f906⟩)⟩
                            · skip
                              refine r_callS gd hX hP rfl cs_12_361 (d' := 0) (mc' := 0) (ms' := 0) (as' := [(0, z904)]) (st := []) (by decide) (by decide) (by decide) rfl rfl (Nat.le_of_ble_eq_true rfl) (c_X12_isLetter E S (hv [84, 87] [] (up (up (up (hv [83] [] (up G 1 (Ad E 1) 83 bf1) Gk8) 1 (Ad E 1) 84 at_8) 1 (Ad E 1) 82 1) 1 (Ad E 1) 87 0) Gk109) z904 (by omega) (by omega)) ?_
                              rintro _ _ _ ⟨rfl, rfl, z907, rfl, (⟨rfl, f908, f909⟩ | ⟨rfl, f910⟩)⟩
                              · skip
                                refine r_if_eq hX hP rfl (tgt := 182) rfl (by omega) (by omega) (fun c911 => ?_) (fun c911 => ?_)
                                · skip
                                  exfalso; omega
                                · skip
                                  refine r_ex hX hP 2 (pc' := 125) (st' := [(2, (Ad E 1)), (2, (Ad E 1))]) (lo' := [(0, (2, (Ad E 1))), (1, (0, 0))]) rfl ?_
                                  refine r_getKI hX hP rfl fl_12_349 hS (x := behind_109) behind_109_e ?_
                                  refine r_ex hX hP 1 (pc' := 129) (st' := [(2, (Ad E 1)), (0, behind_109), (2, (Ad E 1))]) (lo' := [(0, (2, (Ad E 1))), (1, (0, 0))]) rfl ?_
                                  refine r_getKI hX hP rfl fl_12_352 hS (x := at_8) at_8_e ?_
                                  refine r_ex hX hP 2 (pc' := 135) (st' := [(0, 12), (0, (behind_109 - at_8)), (2, (Ad E 1))]) (lo' := [(0, (2, (Ad E 1))), (1, (0, 0))]) rfl ?_
                                  refine r_ic_ge hX hP rfl (tgt := 163) rfl (by omega) (by omega) (by omega) (by omega) (fun c912 => ?_) (fun c912 => ?_)
                                  · skip
                                    refine r_ldc2 hX hP rfl (v := (-1)) (tbg sg9 135 rfl rfl) ?_
                                    refine r_putLK hX hP rfl fp_12_364 hS (by omega) (by omega) (fun h913 => ?_)
                                    refine r_ex hX hP 2 (pc' := 171) (st' := [(2, (Ad E 1)), (2, (Ad E 1))]) (lo' := [(0, (2, (Ad E 1))), (1, (0, 0))]) rfl ?_
                                    refine r_getKI hX hP rfl fl_12_349 hS (x := behind_109) behind_109_e ?_
                                    refine r_ex hX hP 2 (pc' := 176) (st' := [(0, (behind_109 + 1)), (2, (Ad E 1))]) (lo' := [(0, (2, (Ad E 1))), (1, (0, 0))]) rfl ?_
                                    refine r_putIK hX hP rfl fp_12_349 hS (by omega) (by omega) (fun h914 => ?_)
                                    refine r_ex hX hP 1 (pc' := 109) (st' := []) (lo' := [(0, (2, (Ad E 1))), (1, (0, 0))]) rfl ?_
                                    refine r_eqG (X := X) (hq_up (hq_up (hq_base _ _ _ _) rfl) rfl) ?_
                                    exact ih109 (behind_109 + 1) _ h914 (by omega) (by omega) (by omega)
                                  · skip
                                    refine r_ex hX hP 1 (pc' := 139) (st' := [(2, (Ad E 1)), (2, (Ad E 1))]) (lo' := [(0, (2, (Ad E 1))), (1, (0, 0))]) rfl ?_
                                    refine r_getL hX hP rfl fl_12_364 hS (fun wf915 wf915e wf915a wf915b => ?_)
                                    refine r_ldc2 hX hP rfl (v := 32) (tbg sg9 133 rfl rfl) ?_
                                    refine r_ex hX hP 1 (pc' := 146) (st' := [(1, (wf915 * 32)), (2, (Ad E 1))]) (lo' := [(0, (2, (Ad E 1))), (1, (0, 0))]) rfl ?_
                                    refine r_hvL hX (fun w916 w916a w916b w916e => ?_)
                                    refine r_ex hX hP 2 (pc' := 148) (st' := [(2, (Ad E 1)), (2, (Ad E 1)), (1, w916), (2, (Ad E 1))]) (lo' := [(0, (2, (Ad E 1))), (1, (0, 0))]) rfl ?_
                                    refine r_getKI hX hP rfl fl_12_349 hS (x := behind_109) behind_109_e ?_
                                    refine r_callV gd hX hP rfl cv_12_355 hS (d' := 0) (mc' := 0) (ms' := 0) (as' := [(0, behind_109)]) (st := [(1, w916), (2, (Ad E 1))]) (by decide) (by decide) (by decide) rfl rfl (Nat.le_of_ble_eq_true rfl) (c_X12_look E S (hv [84, 87] [] (up (up (up (hv [83] [] (up G 1 (Ad E 1) 83 bf1) Gk8) 1 (Ad E 1) 84 at_8) 1 (Ad E 1) 82 1) 1 (Ad E 1) 87 0) Gk109) behind_109 hS tf3 tf3e (by omega) (by omega)) ?_
                                    rintro _ _ _ ⟨rfl, rfl, z917, rfl, (⟨z917a, z917b, f918⟩ | ⟨rfl, f919⟩)⟩
                                    · skip
                                      refine r_i2l hX hP rfl (by omega) (by omega) ?_
                                      refine r_ex hX hP 1 (pc' := 156) (st' := [(1, (w916 + z917)), (2, (Ad E 1))]) (lo' := [(0, (2, (Ad E 1))), (1, (0, 0))]) rfl ?_
                                      refine r_hvL hX (fun w920 w920a w920b w920e => ?_)
                                      refine r_ldc2 hX hP rfl (v := 96) (tbg sg9 134 rfl rfl) ?_
                                      refine r_ex hX hP 1 (pc' := 160) (st' := [(1, (w920 - 96)), (2, (Ad E 1))]) (lo' := [(0, (2, (Ad E 1))), (1, (0, 0))]) rfl ?_
                                      refine r_hvL hX (fun w921 w921a w921b w921e => ?_)
                                      refine r_ex hX hP 1 (pc' := 166) (st' := [(1, w921), (2, (Ad E 1))]) (lo' := [(0, (2, (Ad E 1))), (1, (0, 0))]) rfl ?_
                                      refine r_putLK hX hP rfl fp_12_364 hS (by omega) (by omega) (fun h922 => ?_)
                                      refine r_ex hX hP 2 (pc' := 171) (st' := [(2, (Ad E 1)), (2, (Ad E 1))]) (lo' := [(0, (2, (Ad E 1))), (1, (0, 0))]) rfl ?_
                                      refine r_getKI hX hP rfl fl_12_349 hS (x := behind_109) behind_109_e ?_
                                      refine r_ex hX hP 2 (pc' := 176) (st' := [(0, (behind_109 + 1)), (2, (Ad E 1))]) (lo' := [(0, (2, (Ad E 1))), (1, (0, 0))]) rfl ?_
                                      refine r_putIK hX hP rfl fp_12_349 hS (by omega) (by omega) (fun h923 => ?_)
                                      refine r_ex hX hP 1 (pc' := 109) (st' := []) (lo' := [(0, (2, (Ad E 1))), (1, (0, 0))]) rfl ?_
                                      refine r_eqG (X := X) (hq_up (hq_up (hq_base _ _ _ _) rfl) rfl) ?_
                                      exact ih109 (behind_109 + 1) _ h923 (by omega) (by omega) (by omega)
                                    · skip
                                      refine r_i2l hX hP rfl (by omega) (by omega) ?_
                                      refine r_ex hX hP 1 (pc' := 156) (st' := [(1, (w916 + 0)), (2, (Ad E 1))]) (lo' := [(0, (2, (Ad E 1))), (1, (0, 0))]) rfl ?_
                                      refine r_ldc2 hX hP rfl (v := 96) (tbg sg9 134 rfl rfl) ?_
                                      refine r_ex hX hP 1 (pc' := 160) (st' := [(1, ((w916 + 0) - 96)), (2, (Ad E 1))]) (lo' := [(0, (2, (Ad E 1))), (1, (0, 0))]) rfl ?_
                                      refine r_hvL hX (fun w924 w924a w924b w924e => ?_)
                                      refine r_ex hX hP 1 (pc' := 166) (st' := [(1, w924), (2, (Ad E 1))]) (lo' := [(0, (2, (Ad E 1))), (1, (0, 0))]) rfl ?_
                                      refine r_putLK hX hP rfl fp_12_364 hS (by omega) (by omega) (fun h925 => ?_)
                                      refine r_ex hX hP 2 (pc' := 171) (st' := [(2, (Ad E 1)), (2, (Ad E 1))]) (lo' := [(0, (2, (Ad E 1))), (1, (0, 0))]) rfl ?_
                                      refine r_getKI hX hP rfl fl_12_349 hS (x := behind_109) behind_109_e ?_
                                      refine r_ex hX hP 2 (pc' := 176) (st' := [(0, (behind_109 + 1)), (2, (Ad E 1))]) (lo' := [(0, (2, (Ad E 1))), (1, (0, 0))]) rfl ?_
                                      refine r_putIK hX hP rfl fp_12_349 hS (by omega) (by omega) (fun h926 => ?_)
                                      refine r_ex hX hP 1 (pc' := 109) (st' := []) (lo' := [(0, (2, (Ad E 1))), (1, (0, 0))]) rfl ?_
                                      refine r_eqG (X := X) (hq_up (hq_up (hq_base _ _ _ _) rfl) rfl) ?_
                                      exact ih109 (behind_109 + 1) _ h926 (by omega) (by omega) (by omega)
                              · skip
                                refine r_if_eq hX hP rfl (tgt := 182) rfl (by omega) (by omega) (fun c927 => ?_) (fun c927 => ?_)
                                · skip
                                  refine r_ex hX hP 2 (pc' := 184) (st' := [(2, (Ad E 1)), (2, (Ad E 1))]) (lo' := [(0, (2, (Ad E 1))), (1, (0, 0))]) rfl ?_
                                  refine r_getKI hX hP rfl fl_12_349 hS (x := behind_109) behind_109_e ?_
                                  refine r_ex hX hP 1 (pc' := 188) (st' := [(2, (Ad E 1)), (0, behind_109), (2, (Ad E 1))]) (lo' := [(0, (2, (Ad E 1))), (1, (0, 0))]) rfl ?_
                                  refine r_getKI hX hP rfl fl_12_352 hS (x := at_8) at_8_e ?_
                                  refine r_ex hX hP 1 (pc' := 192) (st' := [(0, (behind_109 - at_8)), (2, (Ad E 1))]) (lo' := [(0, (2, (Ad E 1))), (1, (0, 0))]) rfl ?_
                                  refine r_putIK hX hP rfl fp_12_373 hS (by omega) (by omega) (fun h928 => ?_)
                                  refine r_ex hX hP 1 (pc' := 354) (st' := []) (lo' := [(0, (2, (Ad E 1))), (1, (0, 0))]) rfl ?_
                                  exact r_retV hX hP rfl rfl (by omega) (by omega) ⟨rfl, ⟨_, (hq_up (hq_loop (hq_up (hq_up (hq_up (hq_loop (hq_up (hq_refl _ _ _) rfl) rfl) rfl) rfl) rfl) rfl) rfl).symm⟩, rfl, trivial⟩
                                · skip
                                  exfalso; omega
                            · skip
                              refine r_callS gd hX hP rfl cs_12_361 (d' := 0) (mc' := 0) (ms' := 0) (as' := [(0, 0)]) (st := []) (by decide) (by decide) (by decide) rfl rfl (Nat.le_of_ble_eq_true rfl) (c_X12_isLetter E S (hv [84, 87] [] (up (up (up (hv [83] [] (up G 1 (Ad E 1) 83 bf1) Gk8) 1 (Ad E 1) 84 at_8) 1 (Ad E 1) 82 1) 1 (Ad E 1) 87 0) Gk109) 0 (by omega) (by omega)) ?_
                              rintro _ _ _ ⟨rfl, rfl, z929, rfl, (⟨rfl, f930, f931⟩ | ⟨rfl, f932⟩)⟩
                              · skip
                                refine r_if_eq hX hP rfl (tgt := 182) rfl (by omega) (by omega) (fun c933 => ?_) (fun c933 => ?_)
                                · skip
                                  exfalso; omega
                                · skip
                                  refine r_ex hX hP 2 (pc' := 125) (st' := [(2, (Ad E 1)), (2, (Ad E 1))]) (lo' := [(0, (2, (Ad E 1))), (1, (0, 0))]) rfl ?_
                                  refine r_getKI hX hP rfl fl_12_349 hS (x := behind_109) behind_109_e ?_
                                  refine r_ex hX hP 1 (pc' := 129) (st' := [(2, (Ad E 1)), (0, behind_109), (2, (Ad E 1))]) (lo' := [(0, (2, (Ad E 1))), (1, (0, 0))]) rfl ?_
                                  refine r_getKI hX hP rfl fl_12_352 hS (x := at_8) at_8_e ?_
                                  refine r_ex hX hP 2 (pc' := 135) (st' := [(0, 12), (0, (behind_109 - at_8)), (2, (Ad E 1))]) (lo' := [(0, (2, (Ad E 1))), (1, (0, 0))]) rfl ?_
                                  refine r_ic_ge hX hP rfl (tgt := 163) rfl (by omega) (by omega) (by omega) (by omega) (fun c934 => ?_) (fun c934 => ?_)
                                  · skip
                                    refine r_ldc2 hX hP rfl (v := (-1)) (tbg sg9 135 rfl rfl) ?_
                                    refine r_putLK hX hP rfl fp_12_364 hS (by omega) (by omega) (fun h935 => ?_)
                                    refine r_ex hX hP 2 (pc' := 171) (st' := [(2, (Ad E 1)), (2, (Ad E 1))]) (lo' := [(0, (2, (Ad E 1))), (1, (0, 0))]) rfl ?_
                                    refine r_getKI hX hP rfl fl_12_349 hS (x := behind_109) behind_109_e ?_
                                    refine r_ex hX hP 2 (pc' := 176) (st' := [(0, (behind_109 + 1)), (2, (Ad E 1))]) (lo' := [(0, (2, (Ad E 1))), (1, (0, 0))]) rfl ?_
                                    refine r_putIK hX hP rfl fp_12_349 hS (by omega) (by omega) (fun h936 => ?_)
                                    refine r_ex hX hP 1 (pc' := 109) (st' := []) (lo' := [(0, (2, (Ad E 1))), (1, (0, 0))]) rfl ?_
                                    refine r_eqG (X := X) (hq_up (hq_up (hq_base _ _ _ _) rfl) rfl) ?_
                                    exact ih109 (behind_109 + 1) _ h936 (by omega) (by omega) (by omega)
                                  · skip
                                    refine r_ex hX hP 1 (pc' := 139) (st' := [(2, (Ad E 1)), (2, (Ad E 1))]) (lo' := [(0, (2, (Ad E 1))), (1, (0, 0))]) rfl ?_
                                    refine r_getL hX hP rfl fl_12_364 hS (fun wf937 wf937e wf937a wf937b => ?_)
                                    refine r_ldc2 hX hP rfl (v := 32) (tbg sg9 133 rfl rfl) ?_
                                    refine r_ex hX hP 1 (pc' := 146) (st' := [(1, (wf937 * 32)), (2, (Ad E 1))]) (lo' := [(0, (2, (Ad E 1))), (1, (0, 0))]) rfl ?_
                                    refine r_hvL hX (fun w938 w938a w938b w938e => ?_)
                                    refine r_ex hX hP 2 (pc' := 148) (st' := [(2, (Ad E 1)), (2, (Ad E 1)), (1, w938), (2, (Ad E 1))]) (lo' := [(0, (2, (Ad E 1))), (1, (0, 0))]) rfl ?_
                                    refine r_getKI hX hP rfl fl_12_349 hS (x := behind_109) behind_109_e ?_
                                    refine r_callV gd hX hP rfl cv_12_355 hS (d' := 0) (mc' := 0) (ms' := 0) (as' := [(0, behind_109)]) (st := [(1, w938), (2, (Ad E 1))]) (by decide) (by decide) (by decide) rfl rfl (Nat.le_of_ble_eq_true rfl) (c_X12_look E S (hv [84, 87] [] (up (up (up (hv [83] [] (up G 1 (Ad E 1) 83 bf1) Gk8) 1 (Ad E 1) 84 at_8) 1 (Ad E 1) 82 1) 1 (Ad E 1) 87 0) Gk109) behind_109 hS tf3 tf3e (by omega) (by omega)) ?_
                                    rintro _ _ _ ⟨rfl, rfl, z939, rfl, (⟨z939a, z939b, f940⟩ | ⟨rfl, f941⟩)⟩
                                    · skip
                                      refine r_i2l hX hP rfl (by omega) (by omega) ?_
                                      refine r_ex hX hP 1 (pc' := 156) (st' := [(1, (w938 + z939)), (2, (Ad E 1))]) (lo' := [(0, (2, (Ad E 1))), (1, (0, 0))]) rfl ?_
                                      refine r_hvL hX (fun w942 w942a w942b w942e => ?_)
                                      refine r_ldc2 hX hP rfl (v := 96) (tbg sg9 134 rfl rfl) ?_
                                      refine r_ex hX hP 1 (pc' := 160) (st' := [(1, (w942 - 96)), (2, (Ad E 1))]) (lo' := [(0, (2, (Ad E 1))), (1, (0, 0))]) rfl ?_
                                      refine r_hvL hX (fun w943 w943a w943b w943e => ?_)
                                      refine r_ex hX hP 1 (pc' := 166) (st' := [(1, w943), (2, (Ad E 1))]) (lo' := [(0, (2, (Ad E 1))), (1, (0, 0))]) rfl ?_
                                      refine r_putLK hX hP rfl fp_12_364 hS (by omega) (by omega) (fun h944 => ?_)
                                      refine r_ex hX hP 2 (pc' := 171) (st' := [(2, (Ad E 1)), (2, (Ad E 1))]) (lo' := [(0, (2, (Ad E 1))), (1, (0, 0))]) rfl ?_
                                      refine r_getKI hX hP rfl fl_12_349 hS (x := behind_109) behind_109_e ?_
                                      refine r_ex hX hP 2 (pc' := 176) (st' := [(0, (behind_109 + 1)), (2, (Ad E 1))]) (lo' := [(0, (2, (Ad E 1))), (1, (0, 0))]) rfl ?_
                                      refine r_putIK hX hP rfl fp_12_349 hS (by omega) (by omega) (fun h945 => ?_)
                                      refine r_ex hX hP 1 (pc' := 109) (st' := []) (lo' := [(0, (2, (Ad E 1))), (1, (0, 0))]) rfl ?_
                                      refine r_eqG (X := X) (hq_up (hq_up (hq_base _ _ _ _) rfl) rfl) ?_
                                      exact ih109 (behind_109 + 1) _ h945 (by omega) (by omega) (by omega)
                                    · skip
                                      refine r_i2l hX hP rfl (by omega) (by omega) ?_
                                      refine r_ex hX hP 1 (pc' := 156) (st' := [(1, (w938 + 0)), (2, (Ad E 1))]) (lo' := [(0, (2, (Ad E 1))), (1, (0, 0))]) rfl ?_
                                      refine r_ldc2 hX hP rfl (v := 96) (tbg sg9 134 rfl rfl) ?_
                                      refine r_ex hX hP 1 (pc' := 160) (st' := [(1, ((w938 + 0) - 96)), (2, (Ad E 1))]) (lo' := [(0, (2, (Ad E 1))), (1, (0, 0))]) rfl ?_
                                      refine r_hvL hX (fun w946 w946a w946b w946e => ?_)
                                      refine r_ex hX hP 1 (pc' := 166) (st' := [(1, w946), (2, (Ad E 1))]) (lo' := [(0, (2, (Ad E 1))), (1, (0, 0))]) rfl ?_
                                      refine r_putLK hX hP rfl fp_12_364 hS (by omega) (by omega) (fun h947 => ?_)
                                      refine r_ex hX hP 2 (pc' := 171) (st' := [(2, (Ad E 1)), (2, (Ad E 1))]) (lo' := [(0, (2, (Ad E 1))), (1, (0, 0))]) rfl ?_
                                      refine r_getKI hX hP rfl fl_12_349 hS (x := behind_109) behind_109_e ?_
                                      refine r_ex hX hP 2 (pc' := 176) (st' := [(0, (behind_109 + 1)), (2, (Ad E 1))]) (lo' := [(0, (2, (Ad E 1))), (1, (0, 0))]) rfl ?_
                                      refine r_putIK hX hP rfl fp_12_349 hS (by omega) (by omega) (fun h948 => ?_)
                                      refine r_ex hX hP 1 (pc' := 109) (st' := []) (lo' := [(0, (2, (Ad E 1))), (1, (0, 0))]) rfl ?_
                                      refine r_eqG (X := X) (hq_up (hq_up (hq_base _ _ _ _) rfl) rfl) ?_
                                      exact ih109 (behind_109 + 1) _ h948 (by omega) (by omega) (by omega)
                              · skip
                                refine r_if_eq hX hP rfl (tgt := 182) rfl (by omega) (by omega) (fun c949 => ?_) (fun c949 => ?_)
                                · skip
                                  refine r_ex hX hP 2 (pc' := 184) (st' := [(2, (Ad E 1)), (2, (Ad E 1))]) (lo' := [(0, (2, (Ad E 1))), (1, (0, 0))]) rfl ?_
                                  refine r_getKI hX hP rfl fl_12_349 hS (x := behind_109) behind_109_e ?_
                                  refine r_ex hX hP 1 (pc' := 188) (st' := [(2, (Ad E 1)), (0, behind_109), (2, (Ad E 1))]) (lo' := [(0, (2, (Ad E 1))), (1, (0, 0))]) rfl ?_
                                  refine r_getKI hX hP rfl fl_12_352 hS (x := at_8) at_8_e ?_
                                  refine r_ex hX hP 1 (pc' := 192) (st' := [(0, (behind_109 - at_8)), (2, (Ad E 1))]) (lo' := [(0, (2, (Ad E 1))), (1, (0, 0))]) rfl ?_
                                  refine r_putIK hX hP rfl fp_12_373 hS (by omega) (by omega) (fun h950 => ?_)
                                  refine r_ex hX hP 1 (pc' := 354) (st' := []) (lo' := [(0, (2, (Ad E 1))), (1, (0, 0))]) rfl ?_
                                  exact r_retV hX hP rfl rfl (by omega) (by omega) ⟨rfl, ⟨_, (hq_up (hq_loop (hq_up (hq_up (hq_up (hq_loop (hq_up (hq_refl _ _ _) rfl) rfl) rfl) rfl) rfl) rfl) rfl).symm⟩, rfl, trivial⟩
                                · skip
                                  exfalso; omega
                        refine r_eqG (X := X) (hq_refl [84, 87] [] _) ?_
                        exact loop109 ((400 - at_8) + 1).toNat at_8 _ h768 (by omega) (by omega) (by omega)
                    · skip
                      refine r_if_eq hX hP rfl (tgt := 198) rfl (by omega) (by omega) (fun c951 => ?_) (fun c951 => ?_)
                      · skip
                        refine r_ex hX hP 1 (pc' := 199) (st' := [(0, 0)]) (lo' := [(0, (2, (Ad E 1))), (1, (0, 0))]) rfl ?_
                        refine r_callS gd hX hP rfl cs_12_376 (d' := 0) (mc' := 0) (ms' := 0) (as' := [(0, 0)]) (st := []) (by decide) (by decide) (by decide) rfl rfl (Nat.le_of_ble_eq_true rfl) (c_X12_isDigit E S (up (hv [83] [] (up G 1 (Ad E 1) 83 bf1) Gk8) 1 (Ad E 1) 84 at_8) 0 (by omega) (by omega)) ?_
                        rintro _ _ _ ⟨rfl, rfl, z952, rfl, (⟨rfl, f953, f954⟩ | ⟨rfl, f955⟩)⟩
                        · skip
                          refine r_if_eq hX hP rfl (tgt := 300) rfl (by omega) (by omega) (fun c956 => ?_) (fun c956 => ?_)
                          · skip
                            exfalso; omega
                          · skip
                            refine r_ex hX hP 2 (pc' := 207) (st' := [(0, 0), (2, (Ad E 1))]) (lo' := [(0, (2, (Ad E 1))), (1, (0, 0))]) rfl ?_
                            refine r_putIK hX hP rfl fp_12_379 hS (by omega) (by omega) (fun h957 => ?_)
                            have loop210 : ∀ (n : Nat) (behind_210 : Int) (Gk210 : Gh), behind_210 = (hv [84, 85] [] (up (up (hv [83] [] (up G 1 (Ad E 1) 83 bf1) Gk8) 1 (Ad E 1) 84 at_8) 1 (Ad E 1) 85 0) Gk210) 1 (Ad E 1) 84 → 0 ≤ behind_210 → behind_210 ≤ 400 → 400 - behind_210 < (n : Int) → X 0 0 210 [] [(0, (2, (Ad E 1))), (1, (0, 0))] S (hv [84, 85] [] (up (up (hv [83] [] (up G 1 (Ad E 1) 83 bf1) Gk8) 1 (Ad E 1) 84 at_8) 1 (Ad E 1) 85 0) Gk210) := by
                              intro n
                              induction n with
                              | zero => intro behind_210 Gk210 behind_210_e y210_0 y210_1 ym210; exfalso; omega
                              | succ n ih210 =>
                                intro behind_210 Gk210 behind_210_e y210_0 y210_1 ym210
                                refine r_ex hX hP 2 (pc' := 212) (st' := [(2, (Ad E 1)), (2, (Ad E 1))]) (lo' := [(0, (2, (Ad E 1))), (1, (0, 0))]) rfl ?_
                                refine r_getKI hX hP rfl fl_12_349 hS (x := behind_210) behind_210_e ?_
                                refine r_callV gd hX hP rfl cv_12_355 hS (d' := 0) (mc' := 0) (ms' := 0) (as' := [(0, behind_210)]) (st := []) (by decide) (by decide) (by decide) rfl rfl (Nat.le_of_ble_eq_true rfl) (c_X12_look E S (hv [84, 85] [] (up (up (hv [83] [] (up G 1 (Ad E 1) 83 bf1) Gk8) 1 (Ad E 1) 84 at_8) 1 (Ad E 1) 85 0) Gk210) behind_210 hS tf3 tf3e (by omega) (by omega)) ?_
                                rintro _ _ _ ⟨rfl, rfl, z958, rfl, (⟨z958a, z958b, f959⟩ | ⟨rfl, f960⟩)⟩
                                · skip
                                  refine r_callS gd hX hP rfl cs_12_376 (d' := 0) (mc' := 0) (ms' := 0) (as' := [(0, z958)]) (st := []) (by decide) (by decide) (by decide) rfl rfl (Nat.le_of_ble_eq_true rfl) (c_X12_isDigit E S (hv [84, 85] [] (up (up (hv [83] [] (up G 1 (Ad E 1) 83 bf1) Gk8) 1 (Ad E 1) 84 at_8) 1 (Ad E 1) 85 0) Gk210) z958 (by omega) (by omega)) ?_
                                  rintro _ _ _ ⟨rfl, rfl, z961, rfl, (⟨rfl, f962, f963⟩ | ⟨rfl, f964⟩)⟩
                                  · skip
                                    refine r_if_eq hX hP rfl (tgt := 274) rfl (by omega) (by omega) (fun c965 => ?_) (fun c965 => ?_)
                                    · skip
                                      exfalso; omega
                                    · skip
                                      refine r_ex hX hP 1 (pc' := 225) (st' := [(2, (Ad E 1))]) (lo' := [(0, (2, (Ad E 1))), (1, (0, 0))]) rfl ?_
                                      refine r_getKI hX hP rfl fl_12_349 hS (x := behind_210) behind_210_e ?_
                                      refine r_ex hX hP 1 (pc' := 229) (st' := [(2, (Ad E 1)), (0, behind_210)]) (lo' := [(0, (2, (Ad E 1))), (1, (0, 0))]) rfl ?_
                                      refine r_getKI hX hP rfl fl_12_352 hS (x := at_8) at_8_e ?_
                                      refine r_ex hX hP 2 (pc' := 235) (st' := [(0, 7), (0, (behind_210 - at_8))]) (lo' := [(0, (2, (Ad E 1))), (1, (0, 0))]) rfl ?_
                                      refine r_ic_ge hX hP rfl (tgt := 261) rfl (by omega) (by omega) (by omega) (by omega) (fun c966 => ?_) (fun c966 => ?_)
                                      · skip
                                        refine r_ex hX hP 2 (pc' := 263) (st' := [(2, (Ad E 1)), (2, (Ad E 1))]) (lo' := [(0, (2, (Ad E 1))), (1, (0, 0))]) rfl ?_
                                        refine r_getKI hX hP rfl fl_12_349 hS (x := behind_210) behind_210_e ?_
                                        refine r_ex hX hP 2 (pc' := 268) (st' := [(0, (behind_210 + 1)), (2, (Ad E 1))]) (lo' := [(0, (2, (Ad E 1))), (1, (0, 0))]) rfl ?_
                                        refine r_putIK hX hP rfl fp_12_349 hS (by omega) (by omega) (fun h967 => ?_)
                                        refine r_ex hX hP 1 (pc' := 210) (st' := []) (lo' := [(0, (2, (Ad E 1))), (1, (0, 0))]) rfl ?_
                                        refine r_eqG (X := X) (hq_up (hq_base _ _ _ _) rfl) ?_
                                        exact ih210 (behind_210 + 1) _ h967 (by omega) (by omega) (by omega)
                                      · skip
                                        refine r_ex hX hP 3 (pc' := 242) (st' := [(2, (Ad E 1)), (0, 10), (2, (Ad E 1))]) (lo' := [(0, (2, (Ad E 1))), (1, (0, 0))]) rfl ?_
                                        refine r_getI hX hP rfl fl_12_379 hS (fun nf968 nf968e nf968a nf968b => ?_)
                                        refine r_ex hX hP 1 (pc' := 246) (st' := [(0, (10 * nf968)), (2, (Ad E 1))]) (lo' := [(0, (2, (Ad E 1))), (1, (0, 0))]) rfl ?_
                                        refine r_hvI hX (fun w969 w969a w969b w969e => ?_)
                                        refine r_ex hX hP 2 (pc' := 248) (st' := [(2, (Ad E 1)), (2, (Ad E 1)), (0, w969), (2, (Ad E 1))]) (lo' := [(0, (2, (Ad E 1))), (1, (0, 0))]) rfl ?_
                                        refine r_getKI hX hP rfl fl_12_349 hS (x := behind_210) behind_210_e ?_
                                        refine r_callV gd hX hP rfl cv_12_355 hS (d' := 0) (mc' := 0) (ms' := 0) (as' := [(0, behind_210)]) (st := [(0, w969), (2, (Ad E 1))]) (by decide) (by decide) (by decide) rfl rfl (Nat.le_of_ble_eq_true rfl) (c_X12_look E S (hv [84, 85] [] (up (up (hv [83] [] (up G 1 (Ad E 1) 83 bf1) Gk8) 1 (Ad E 1) 84 at_8) 1 (Ad E 1) 85 0) Gk210) behind_210 hS tf3 tf3e (by omega) (by omega)) ?_
                                        rintro _ _ _ ⟨rfl, rfl, z970, rfl, (⟨z970a, z970b, f971⟩ | ⟨rfl, f972⟩)⟩
                                        · skip
                                          refine r_ex hX hP 1 (pc' := 255) (st' := [(0, (w969 + z970)), (2, (Ad E 1))]) (lo' := [(0, (2, (Ad E 1))), (1, (0, 0))]) rfl ?_
                                          refine r_hvI hX (fun w973 w973a w973b w973e => ?_)
                                          refine r_ex hX hP 2 (pc' := 258) (st' := [(0, (w973 - 48)), (2, (Ad E 1))]) (lo' := [(0, (2, (Ad E 1))), (1, (0, 0))]) rfl ?_
                                          refine r_hvI hX (fun w974 w974a w974b w974e => ?_)
                                          refine r_putIK hX hP rfl fp_12_379 hS (by omega) (by omega) (fun h975 => ?_)
                                          refine r_ex hX hP 2 (pc' := 263) (st' := [(2, (Ad E 1)), (2, (Ad E 1))]) (lo' := [(0, (2, (Ad E 1))), (1, (0, 0))]) rfl ?_
                                          refine r_getKI hX hP rfl fl_12_349 hS (x := behind_210) behind_210_e ?_
                                          refine r_ex hX hP 2 (pc' := 268) (st' := [(0, (behind_210 + 1)), (2, (Ad E 1))]) (lo' := [(0, (2, (Ad E 1))), (1, (0, 0))]) rfl ?_
                                          refine r_putIK hX hP rfl fp_12_349 hS (by omega) (by omega) (fun h976 => ?_)
                                          refine r_ex hX hP 1 (pc' := 210) (st' := []) (lo' := [(0, (2, (Ad E 1))), (1, (0, 0))]) rfl ?_
                                          refine r_eqG (X := X) (hq_up (hq_up (hq_base _ _ _ _) rfl) rfl) ?_
                                          exact ih210 (behind_210 + 1) _ h976 (by omega) (by omega) (by omega)
                                        · skip
                                          refine r_ex hX hP 3 (pc' := 258) (st' := [(0, ((w969 + 0) - 48)), (2, (Ad E 1))]) (lo' := [(0, (2, (Ad E 1))), (1, (0, 0))]) rfl ?_
                                          refine r_hvI hX (fun w977 w977a w977b w977e => ?_)
                                          refine r_putIK hX hP rfl fp_12_379 hS (by omega) (by omega) (fun h978 => ?_)
                                          refine r_ex hX hP 2 (pc' := 263) (st' := [(2, (Ad E 1)), (2, (Ad E 1))]) (lo' := [(0, (2, (Ad E 1))), (1, (0, 0))]) rfl ?_
                                          refine r_getKI hX hP rfl fl_12_349 hS (x := behind_210) behind_210_e ?_
                                          refine r_ex hX hP 2 (pc' := 268) (st' := [(0, (behind_210 + 1)), (2, (Ad E 1))]) (lo' := [(0, (2, (Ad E 1))), (1, (0, 0))]) rfl ?_
                                          refine r_putIK hX hP rfl fp_12_349 hS (by omega) (by omega) (fun h979 => ?_)
                                          refine r_ex hX hP 1 (pc' := 210) (st' := []) (lo' := [(0, (2, (Ad E 1))), (1, (0, 0))]) rfl ?_
                                          refine r_eqG (X := X) (hq_up (hq_up (hq_base _ _ _ _) rfl) rfl) ?_
                                          exact ih210 (behind_210 + 1) _ h979 (by omega) (by omega) (by omega)
                                  · skip
                                    refine r_if_eq hX hP rfl (tgt := 274) rfl (by omega) (by omega) (fun c980 => ?_) (fun c980 => ?_)
                                    · skip
                                      refine r_ex hX hP 2 (pc' := 276) (st' := [(2, (Ad E 1)), (2, (Ad E 1))]) (lo' := [(0, (2, (Ad E 1))), (1, (0, 0))]) rfl ?_
                                      refine r_getKI hX hP rfl fl_12_349 hS (x := behind_210) behind_210_e ?_
                                      refine r_ex hX hP 1 (pc' := 280) (st' := [(2, (Ad E 1)), (0, behind_210), (2, (Ad E 1))]) (lo' := [(0, (2, (Ad E 1))), (1, (0, 0))]) rfl ?_
                                      refine r_getKI hX hP rfl fl_12_352 hS (x := at_8) at_8_e ?_
                                      refine r_ex hX hP 2 (pc' := 286) (st' := [(0, 7), (0, (behind_210 - at_8)), (2, (Ad E 1))]) (lo' := [(0, (2, (Ad E 1))), (1, (0, 0))]) rfl ?_
                                      refine r_ic_le hX hP rfl (tgt := 293) rfl (by omega) (by omega) (by omega) (by omega) (fun c981 => ?_) (fun c981 => ?_)
                                      · skip
                                        refine r_ex hX hP 1 (pc' := 294) (st' := [(0, 2), (2, (Ad E 1))]) (lo' := [(0, (2, (Ad E 1))), (1, (0, 0))]) rfl ?_
                                        refine r_putIK hX hP rfl fp_12_358 hS (by omega) (by omega) (fun h982 => ?_)
                                        refine r_ex hX hP 1 (pc' := 354) (st' := []) (lo' := [(0, (2, (Ad E 1))), (1, (0, 0))]) rfl ?_
                                        exact r_retV hX hP rfl rfl (by omega) (by omega) ⟨rfl, ⟨_, (hq_up (hq_loop (hq_up (hq_up (hq_loop (hq_up (hq_refl _ _ _) rfl) rfl) rfl) rfl) rfl) rfl).symm⟩, rfl, trivial⟩
                                      · skip
                                        refine r_ex hX hP 2 (pc' := 294) (st' := [(0, 4), (2, (Ad E 1))]) (lo' := [(0, (2, (Ad E 1))), (1, (0, 0))]) rfl ?_
                                        refine r_putIK hX hP rfl fp_12_358 hS (by omega) (by omega) (fun h983 => ?_)
                                        refine r_ex hX hP 1 (pc' := 354) (st' := []) (lo' := [(0, (2, (Ad E 1))), (1, (0, 0))]) rfl ?_
                                        exact r_retV hX hP rfl rfl (by omega) (by omega) ⟨rfl, ⟨_, (hq_up (hq_loop (hq_up (hq_up (hq_loop (hq_up (hq_refl _ _ _) rfl) rfl) rfl) rfl) rfl) rfl).symm⟩, rfl, trivial⟩
                                    · skip
                                      exfalso; omega
                                · skip
                                  refine r_callS gd hX hP rfl cs_12_376 (d' := 0) (mc' := 0) (ms' := 0) (as' := [(0, 0)]) (st := []) (by decide) (by decide) (by decide) rfl rfl (Nat.le_of_ble_eq_true rfl) (c_X12_isDigit E S (hv [84, 85] [] (up (up (hv [83] [] (up G 1 (Ad E 1) 83 bf1) Gk8) 1 (Ad E 1) 84 at_8) 1 (Ad E 1) 85 0) Gk210) 0 (by omega) (by omega)) ?_
                                  rintro _ _ _ ⟨rfl, rfl, z984, rfl, (⟨rfl, f985, f986⟩ | ⟨rfl, f987⟩)⟩
                                  · skip
                                    refine r_if_eq hX hP rfl (tgt := 274) rfl (by omega) (by omega) (fun c988 => ?_) (fun c988 => ?_)
                                    · skip
                                      exfalso; omega
                                    · skip
                                      refine r_ex hX hP 1 (pc' := 225) (st' := [(2, (Ad E 1))]) (lo' := [(0, (2, (Ad E 1))), (1, (0, 0))]) rfl ?_
                                      refine r_getKI hX hP rfl fl_12_349 hS (x := behind_210) behind_210_e ?_
                                      refine r_ex hX hP 1 (pc' := 229) (st' := [(2, (Ad E 1)), (0, behind_210)]) (lo' := [(0, (2, (Ad E 1))), (1, (0, 0))]) rfl ?_
                                      refine r_getKI hX hP rfl fl_12_352 hS (x := at_8) at_8_e ?_
                                      refine r_ex hX hP 2 (pc' := 235) (st' := [(0, 7), (0, (behind_210 - at_8))]) (lo' := [(0, (2, (Ad E 1))), (1, (0, 0))]) rfl ?_
                                      refine r_ic_ge hX hP rfl (tgt := 261) rfl (by omega) (by omega) (by omega) (by omega) (fun c989 => ?_) (fun c989 => ?_)
                                      · skip
                                        refine r_ex hX hP 2 (pc' := 263) (st' := [(2, (Ad E 1)), (2, (Ad E 1))]) (lo' := [(0, (2, (Ad E 1))), (1, (0, 0))]) rfl ?_
                                        refine r_getKI hX hP rfl fl_12_349 hS (x := behind_210) behind_210_e ?_
                                        refine r_ex hX hP 2 (pc' := 268) (st' := [(0, (behind_210 + 1)), (2, (Ad E 1))]) (lo' := [(0, (2, (Ad E 1))), (1, (0, 0))]) rfl ?_
                                        refine r_putIK hX hP rfl fp_12_349 hS (by omega) (by omega) (fun h990 => ?_)
                                        refine r_ex hX hP 1 (pc' := 210) (st' := []) (lo' := [(0, (2, (Ad E 1))), (1, (0, 0))]) rfl ?_
                                        refine r_eqG (X := X) (hq_up (hq_base _ _ _ _) rfl) ?_
                                        exact ih210 (behind_210 + 1) _ h990 (by omega) (by omega) (by omega)
                                      · skip
                                        refine r_ex hX hP 3 (pc' := 242) (st' := [(2, (Ad E 1)), (0, 10), (2, (Ad E 1))]) (lo' := [(0, (2, (Ad E 1))), (1, (0, 0))]) rfl ?_
                                        refine r_getI hX hP rfl fl_12_379 hS (fun nf991 nf991e nf991a nf991b => ?_)
                                        refine r_ex hX hP 1 (pc' := 246) (st' := [(0, (10 * nf991)), (2, (Ad E 1))]) (lo' := [(0, (2, (Ad E 1))), (1, (0, 0))]) rfl ?_
                                        refine r_hvI hX (fun w992 w992a w992b w992e => ?_)
                                        refine r_ex hX hP 2 (pc' := 248) (st' := [(2, (Ad E 1)), (2, (Ad E 1)), (0, w992), (2, (Ad E 1))]) (lo' := [(0, (2, (Ad E 1))), (1, (0, 0))]) rfl ?_
                                        refine r_getKI hX hP rfl fl_12_349 hS (x := behind_210) behind_210_e ?_
                                        refine r_callV gd hX hP rfl cv_12_355 hS (d' := 0) (mc' := 0) (ms' := 0) (as' := [(0, behind_210)]) (st := [(0, w992), (2, (Ad E 1))]) (by decide) (by decide) (by decide) rfl rfl (Nat.le_of_ble_eq_true rfl) (c_X12_look E S (hv [84, 85] [] (up (up (hv [83] [] (up G 1 (Ad E 1) 83 bf1) Gk8) 1 (Ad E 1) 84 at_8) 1 (Ad E 1) 85 0) Gk210) behind_210 hS tf3 tf3e (by omega) (by omega)) ?_
                                        rintro _ _ _ ⟨rfl, rfl, z993, rfl, (⟨z993a, z993b, f994⟩ | ⟨rfl, f995⟩)⟩
                                        · skip
                                          refine r_ex hX hP 1 (pc' := 255) (st' := [(0, (w992 + z993)), (2, (Ad E 1))]) (lo' := [(0, (2, (Ad E 1))), (1, (0, 0))]) rfl ?_
                                          refine r_hvI hX (fun w996 w996a w996b w996e => ?_)
                                          refine r_ex hX hP 2 (pc' := 258) (st' := [(0, (w996 - 48)), (2, (Ad E 1))]) (lo' := [(0, (2, (Ad E 1))), (1, (0, 0))]) rfl ?_
                                          refine r_hvI hX (fun w997 w997a w997b w997e => ?_)
                                          refine r_putIK hX hP rfl fp_12_379 hS (by omega) (by omega) (fun h998 => ?_)
                                          refine r_ex hX hP 2 (pc' := 263) (st' := [(2, (Ad E 1)), (2, (Ad E 1))]) (lo' := [(0, (2, (Ad E 1))), (1, (0, 0))]) rfl ?_
                                          refine r_getKI hX hP rfl fl_12_349 hS (x := behind_210) behind_210_e ?_
                                          refine r_ex hX hP 2 (pc' := 268) (st' := [(0, (behind_210 + 1)), (2, (Ad E 1))]) (lo' := [(0, (2, (Ad E 1))), (1, (0, 0))]) rfl ?_
                                          refine r_putIK hX hP rfl fp_12_349 hS (by omega) (by omega) (fun h999 => ?_)
                                          refine r_ex hX hP 1 (pc' := 210) (st' := []) (lo' := [(0, (2, (Ad E 1))), (1, (0, 0))]) rfl ?_
                                          refine r_eqG (X := X) (hq_up (hq_up (hq_base _ _ _ _) rfl) rfl) ?_
                                          exact ih210 (behind_210 + 1) _ h999 (by omega) (by omega) (by omega)
                                        · skip
                                          refine r_ex hX hP 3 (pc' := 258) (st' := [(0, ((w992 + 0) - 48)), (2, (Ad E 1))]) (lo' := [(0, (2, (Ad E 1))), (1, (0, 0))]) rfl ?_
                                          refine r_hvI hX (fun w1000 w1000a w1000b w1000e => ?_)
                                          refine r_putIK hX hP rfl fp_12_379 hS (by omega) (by omega) (fun h1001 => ?_)
                                          refine r_ex hX hP 2 (pc' := 263) (st' := [(2, (Ad E 1)), (2, (Ad E 1))]) (lo' := [(0, (2, (Ad E 1))), (1, (0, 0))]) rfl ?_
                                          refine r_getKI hX hP rfl fl_12_349 hS (x := behind_210) behind_210_e ?_
                                          refine r_ex hX hP 2 (pc' := 268) (st' := [(0, (behind_210 + 1)), (2, (Ad E 1))]) (lo' := [(0, (2, (Ad E 1))), (1, (0, 0))]) rfl ?_
                                          refine r_putIK hX hP rfl fp_12_349 hS (by omega) (by omega) (fun h1002 => ?_)
                                          refine r_ex hX hP 1 (pc' := 210) (st' := []) (lo' := [(0, (2, (Ad E 1))), (1, (0, 0))]) rfl ?_
                                          refine r_eqG (X := X) (hq_up (hq_up (hq_base _ _ _ _) rfl) rfl) ?_
                                          exact ih210 (behind_210 + 1) _ h1002 (by omega) (by omega) (by omega)
                                  · skip
                                    refine r_if_eq hX hP rfl (tgt := 274) rfl (by omega) (by omega) (fun c1003 => ?_) (fun c1003 => ?_)
                                    · skip
                                      refine r_ex hX hP 2 (pc' := 276) (st' := [(2, (Ad E 1)), (2, (Ad E 1))]) (lo' := [(0, (2, (Ad E 1))), (1, (0, 0))]) rfl ?_
                                      refine r_getKI hX hP rfl fl_12_349 hS (x := behind_210) behind_210_e ?_
                                      refine r_ex hX hP 1 (pc' := 280) (st' := [(2, (Ad E 1)), (0, behind_210), (2, (Ad E 1))]) (lo' := [(0, (2, (Ad E 1))), (1, (0, 0))]) rfl ?_
                                      refine r_getKI hX hP rfl fl_12_352 hS (x := at_8) at_8_e ?_
                                      refine r_ex hX hP 2 (pc' := 286) (st' := [(0, 7), (0, (behind_210 - at_8)), (2, (Ad E 1))]) (lo' := [(0, (2, (Ad E 1))), (1, (0, 0))]) rfl ?_
                                      refine r_ic_le hX hP rfl (tgt := 293) rfl (by omega) (by omega) (by omega) (by omega) (fun c1004 => ?_) (fun c1004 => ?_)
                                      · skip
                                        refine r_ex hX hP 1 (pc' := 294) (st' := [(0, 2), (2, (Ad E 1))]) (lo' := [(0, (2, (Ad E 1))), (1, (0, 0))]) rfl ?_
                                        refine r_putIK hX hP rfl fp_12_358 hS (by omega) (by omega) (fun h1005 => ?_)
                                        refine r_ex hX hP 1 (pc' := 354) (st' := []) (lo' := [(0, (2, (Ad E 1))), (1, (0, 0))]) rfl ?_
                                        exact r_retV hX hP rfl rfl (by omega) (by omega) ⟨rfl, ⟨_, (hq_up (hq_loop (hq_up (hq_up (hq_loop (hq_up (hq_refl _ _ _) rfl) rfl) rfl) rfl) rfl) rfl).symm⟩, rfl, trivial⟩
                                      · skip
                                        refine r_ex hX hP 2 (pc' := 294) (st' := [(0, 4), (2, (Ad E 1))]) (lo' := [(0, (2, (Ad E 1))), (1, (0, 0))]) rfl ?_
                                        refine r_putIK hX hP rfl fp_12_358 hS (by omega) (by omega) (fun h1006 => ?_)
                                        refine r_ex hX hP 1 (pc' := 354) (st' := []) (lo' := [(0, (2, (Ad E 1))), (1, (0, 0))]) rfl ?_
                                        exact r_retV hX hP rfl rfl (by omega) (by omega) ⟨rfl, ⟨_, (hq_up (hq_loop (hq_up (hq_up (hq_loop (hq_up (hq_refl _ _ _) rfl) rfl) rfl) rfl) rfl) rfl).symm⟩, rfl, trivial⟩
                                    · skip
                                      exfalso; omega
                            refine r_eqG (X := X) (hq_refl [84, 85] [] _) ?_
                            exact loop210 ((400 - at_8) + 1).toNat at_8 _ h768 (by omega) (by omega) (by omega)
                        · skip
                          refine r_if_eq hX hP rfl (tgt := 300) rfl (by omega) (by omega) (fun c1007 => ?_) (fun c1007 => ?_)
                          · skip
                            refine r_ex hX hP 2 (pc' := 302) (st' := [(2, (Ad E 1)), (2, (Ad E 1))]) (lo' := [(0, (2, (Ad E 1))), (1, (0, 0))]) rfl ?_
                            refine r_getKI hX hP rfl fl_12_352 hS (x := at_8) at_8_e ?_
                            refine r_ex hX hP 2 (pc' := 307) (st' := [(0, (at_8 + 1)), (2, (Ad E 1))]) (lo' := [(0, (2, (Ad E 1))), (1, (0, 0))]) rfl ?_
                            refine r_putIK hX hP rfl fp_12_349 hS (by omega) (by omega) (fun h1008 => ?_)
                            refine r_ex hX hP 2 (pc' := 312) (st' := [(0, 0), (2, (Ad E 1))]) (lo' := [(0, (2, (Ad E 1))), (1, (0, 0))]) rfl ?_
                            refine r_putIK hX hP rfl fp_12_379 hS (by omega) (by omega) (fun h1009 => ?_)
                            refine r_ex hX hP 3 (pc' := 319) (st' := [(0, 59), (0, 0), (2, (Ad E 1))]) (lo' := [(0, (2, (Ad E 1))), (1, (0, 0))]) rfl ?_
                            refine r_ic_eq hX hP rfl (tgt := 346) rfl (by omega) (by omega) (by omega) (by omega) (fun c1010 => ?_) (fun c1010 => ?_)
                            · skip
                              exfalso; omega
                            · skip
                              refine r_ex hX hP 2 (pc' := 325) (st' := [(0, 123), (0, 0), (2, (Ad E 1))]) (lo' := [(0, (2, (Ad E 1))), (1, (0, 0))]) rfl ?_
                              refine r_ic_eq hX hP rfl (tgt := 346) rfl (by omega) (by omega) (by omega) (by omega) (fun c1011 => ?_) (fun c1011 => ?_)
                              · skip
                                exfalso; omega
                              · skip
                                refine r_ex hX hP 2 (pc' := 331) (st' := [(0, 125), (0, 0), (2, (Ad E 1))]) (lo' := [(0, (2, (Ad E 1))), (1, (0, 0))]) rfl ?_
                                refine r_ic_eq hX hP rfl (tgt := 346) rfl (by omega) (by omega) (by omega) (by omega) (fun c1012 => ?_) (fun c1012 => ?_)
                                · skip
                                  exfalso; omega
                                · skip
                                  refine r_ex hX hP 2 (pc' := 337) (st' := [(0, 60), (0, 0), (2, (Ad E 1))]) (lo' := [(0, (2, (Ad E 1))), (1, (0, 0))]) rfl ?_
                                  refine r_ic_eq hX hP rfl (tgt := 346) rfl (by omega) (by omega) (by omega) (by omega) (fun c1013 => ?_) (fun c1013 => ?_)
                                  · skip
                                    exfalso; omega
                                  · skip
                                    refine r_ex hX hP 2 (pc' := 343) (st' := [(0, 62), (0, 0), (2, (Ad E 1))]) (lo' := [(0, (2, (Ad E 1))), (1, (0, 0))]) rfl ?_
                                    refine r_ic_ne hX hP rfl (tgt := 350) rfl (by omega) (by omega) (by omega) (by omega) (fun c1014 => ?_) (fun c1014 => ?_)
                                    · skip
                                      refine r_ex hX hP 1 (pc' := 351) (st' := [(0, 4), (2, (Ad E 1))]) (lo' := [(0, (2, (Ad E 1))), (1, (0, 0))]) rfl ?_
                                      refine r_putIK hX hP rfl fp_12_358 hS (by omega) (by omega) (fun h1015 => ?_)
                                      exact r_retV hX hP rfl rfl (by omega) (by omega) ⟨rfl, ⟨_, (hq_up (hq_up (hq_up (hq_up (hq_loop (hq_up (hq_refl _ _ _) rfl) rfl) rfl) rfl) rfl) rfl).symm⟩, rfl, trivial⟩
                                    · skip
                                      exfalso; omega
                          · skip
                            exfalso; omega
                      · skip
                        exfalso; omega
                · skip
                  refine r_ex hX hP 2 (pc' := 79) (st' := [(0, 0), (2, (Ad E 1))]) (lo' := [(0, (2, (Ad E 1)))]) rfl ?_
                  refine r_putIK hX hP rfl fp_12_358 hS (by omega) (by omega) (fun h1016 => ?_)
                  exact r_retV hX hP rfl rfl (by omega) (by omega) ⟨rfl, ⟨_, (hq_up (hq_up (hq_loop (hq_up (hq_refl _ _ _) rfl) rfl) rfl) rfl).symm⟩, rfl, trivial⟩
              · skip
                refine r_ex hX hP 2 (pc' := 47) (st' := [(2, (Ad E 1)), (2, (Ad E 1))]) (lo' := [(0, (2, (Ad E 1)))]) rfl ?_
                refine r_getKI hX hP rfl fl_12_352 hS (x := at_8) at_8_e ?_
                refine r_ex hX hP 2 (pc' := 52) (st' := [(0, (at_8 + 1)), (2, (Ad E 1))]) (lo' := [(0, (2, (Ad E 1)))]) rfl ?_
                refine r_putIK hX hP rfl fp_12_352 hS (by omega) (by omega) (fun h1017 => ?_)
                refine r_ex hX hP 1 (pc' := 8) (st' := []) (lo' := [(0, (2, (Ad E 1)))]) rfl ?_
                refine r_eqG (X := X) (hq_up (hq_base _ _ _ _) rfl) ?_
                exact ih8 (at_8 + 1) _ h1017 (by omega) (by omega) (by omega)
            · skip
              refine r_ex hX hP 1 (pc' := 42) (st' := [(0, 32), (0, 0)]) (lo' := [(0, (2, (Ad E 1)))]) rfl ?_
              refine r_ic_ne hX hP rfl (tgt := 58) rfl (by omega) (by omega) (by omega) (by omega) (fun c1018 => ?_) (fun c1018 => ?_)
              · skip
                refine r_ex hX hP 2 (pc' := 60) (st' := [(2, (Ad E 1)), (2, (Ad E 1))]) (lo' := [(0, (2, (Ad E 1)))]) rfl ?_
                refine r_getKI hX hP rfl fl_12_352 hS (x := at_8) at_8_e ?_
                refine r_putIK hX hP rfl fp_12_349 hS (by omega) (by omega) (fun h1019 => ?_)
                refine r_ex hX hP 1 (pc' := 67) (st' := [(2, (Ad E 1))]) (lo' := [(0, (2, (Ad E 1)))]) rfl ?_
                refine r_getKI hX hP rfl fl_12_352 hS (x := at_8) at_8_e ?_
                refine r_ex hX hP 1 (pc' := 71) (st' := [(2, (Ad E 1)), (0, at_8)]) (lo' := [(0, (2, (Ad E 1)))]) rfl ?_
                refine r_getKI hX hP rfl fl_12_346 hS (x := tf3) tf3e ?_
                refine r_ic_lt hX hP rfl (tgt := 83) rfl (by omega) (by omega) (by omega) (by omega) (fun c1020 => ?_) (fun c1020 => ?_)
                · skip
                  refine r_ex hX hP 2 (pc' := 85) (st' := [(2, (Ad E 1)), (2, (Ad E 1))]) (lo' := [(0, (2, (Ad E 1)))]) rfl ?_
                  refine r_getKI hX hP rfl fl_12_352 hS (x := at_8) at_8_e ?_
                  refine r_callV gd hX hP rfl cv_12_355 hS (d' := 0) (mc' := 0) (ms' := 0) (as' := [(0, at_8)]) (st := []) (by decide) (by decide) (by decide) rfl rfl (Nat.le_of_ble_eq_true rfl) (c_X12_look E S (up (hv [83] [] (up G 1 (Ad E 1) 83 bf1) Gk8) 1 (Ad E 1) 84 at_8) at_8 hS tf3 tf3e (by omega) (by omega)) ?_
                  rintro _ _ _ ⟨rfl, rfl, z1021, rfl, (⟨z1021a, z1021b, f1022⟩ | ⟨rfl, f1023⟩)⟩
                  · skip
                    refine r_ex hX hP 2 (pc' := 93) (st' := [(0, z1021)]) (lo' := [(0, (2, (Ad E 1))), (1, (0, z1021))]) rfl ?_
                    refine r_callS gd hX hP rfl cs_12_361 (d' := 0) (mc' := 0) (ms' := 0) (as' := [(0, z1021)]) (st := []) (by decide) (by decide) (by decide) rfl rfl (Nat.le_of_ble_eq_true rfl) (c_X12_isLetter E S (up (hv [83] [] (up G 1 (Ad E 1) 83 bf1) Gk8) 1 (Ad E 1) 84 at_8) z1021 (by omega) (by omega)) ?_
                    rintro _ _ _ ⟨rfl, rfl, z1024, rfl, (⟨rfl, f1025, f1026⟩ | ⟨rfl, f1027⟩)⟩
                    · skip
                      refine r_if_eq hX hP rfl (tgt := 198) rfl (by omega) (by omega) (fun c1028 => ?_) (fun c1028 => ?_)
                      · skip
                        exfalso; omega
                      · skip
                        refine r_ex hX hP 2 (pc' := 101) (st' := [(0, 1), (2, (Ad E 1))]) (lo' := [(0, (2, (Ad E 1))), (1, (0, z1021))]) rfl ?_
                        refine r_putIK hX hP rfl fp_12_358 hS (by omega) (by omega) (fun h1029 => ?_)
                        refine r_ex hX hP 2 (pc' := 106) (st' := [(1, 0), (2, (Ad E 1))]) (lo' := [(0, (2, (Ad E 1))), (1, (0, z1021))]) rfl ?_
                        refine r_putLK hX hP rfl fp_12_364 hS (by omega) (by omega) (fun h1030 => ?_)
                        have loop109 : ∀ (n : Nat) (behind_109 : Int) (Gk109 : Gh), behind_109 = (hv [84, 87] [] (up (up (up (hv [83] [] (up G 1 (Ad E 1) 83 bf1) Gk8) 1 (Ad E 1) 84 at_8) 1 (Ad E 1) 82 1) 1 (Ad E 1) 87 0) Gk109) 1 (Ad E 1) 84 → 0 ≤ behind_109 → behind_109 ≤ 400 → 400 - behind_109 < (n : Int) → X 0 0 109 [] [(0, (2, (Ad E 1))), (1, (0, z1021))] S (hv [84, 87] [] (up (up (up (hv [83] [] (up G 1 (Ad E 1) 83 bf1) Gk8) 1 (Ad E 1) 84 at_8) 1 (Ad E 1) 82 1) 1 (Ad E 1) 87 0) Gk109) := by
                          intro n
                          induction n with
                          | zero => intro behind_109 Gk109 behind_109_e y109_0 y109_1 ym109; exfalso; omega
                          | succ n ih109 =>
                            intro behind_109 Gk109 behind_109_e y109_0 y109_1 ym109
                            refine r_ex hX hP 2 (pc' := 111) (st' := [(2, (Ad E 1)), (2, (Ad E 1))]) (lo' := [(0, (2, (Ad E 1))), (1, (0, z1021))]) rfl ?_
                            refine r_getKI hX hP rfl fl_12_349 hS (x := behind_109) behind_109_e ?_
                            refine r_callV gd hX hP rfl cv_12_355 hS (d' := 0) (mc' := 0) (ms' := 0) (as' := [(0, behind_109)]) (st := []) (by decide) (by decide) (by decide) rfl rfl (Nat.le_of_ble_eq_true rfl) (c_X12_look E S (hv [84, 87] [] (up (up (up (hv [83] [] (up G 1 (Ad E 1) 83 bf1) Gk8) 1 (Ad E 1) 84 at_8) 1 (Ad E 1) 82 1) 1 (Ad E 1) 87 0) Gk109) behind_109 hS tf3 tf3e (by omega) (by omega)) ?_
                            rintro _ _ _ ⟨rfl, rfl, z1031, rfl, (⟨z1031a, z1031b, f1032⟩ | ⟨rfl, f1033⟩)⟩
                            · skip
                              refine r_callS gd hX hP rfl cs_12_361 (d' := 0) (mc' := 0) (ms' := 0) (as' := [(0, z1031)]) (st := []) (by decide) (by decide) (by decide) rfl rfl (Nat.le_of_ble_eq_true rfl) (c_X12_isLetter E S (hv [84, 87] [] (up (up (up (hv [83] [] (up G 1 (Ad E 1) 83 bf1) Gk8) 1 (Ad E 1) 84 at_8) 1 (Ad E 1) 82 1) 1 (Ad E 1) 87 0) Gk109) z1031 (by omega) (by omega)) ?_
                              rintro _ _ _ ⟨rfl, rfl, z1034, rfl, (⟨rfl, f1035, f1036⟩ | ⟨rfl, f1037⟩)⟩
                              · skip
                                refine r_if_eq hX hP rfl (tgt := 182) rfl (by omega) (by omega) (fun c1038 => ?_) (fun c1038 => ?_)
                                · skip
                                  exfalso; omega
                                · skip
                                  refine r_ex hX hP 2 (pc' := 125) (st' := [(2, (Ad E 1)), (2, (Ad E 1))]) (lo' := [(0, (2, (Ad E 1))), (1, (0, z1021))]) rfl ?_
                                  refine r_getKI hX hP rfl fl_12_349 hS (x := behind_109) behind_109_e ?_
                                  refine r_ex hX hP 1 (pc' := 129) (st' := [(2, (Ad E 1)), (0, behind_109), (2, (Ad E 1))]) (lo' := [(0, (2, (Ad E 1))), (1, (0, z1021))]) rfl ?_
                                  refine r_getKI hX hP rfl fl_12_352 hS (x := at_8) at_8_e ?_
                                  refine r_ex hX hP 2 (pc' := 135) (st' := [(0, 12), (0, (behind_109 - at_8)), (2, (Ad E 1))]) (lo' := [(0, (2, (Ad E 1))), (1, (0, z1021))]) rfl ?_
                                  refine r_ic_ge hX hP rfl (tgt := 163) rfl (by omega) (by omega) (by omega) (by omega) (fun c1039 => ?_) (fun c1039 => ?_)
                                  · skip
                                    refine r_ldc2 hX hP rfl (v := (-1)) (tbg sg9 135 rfl rfl) ?_
                                    refine r_putLK hX hP rfl fp_12_364 hS (by omega) (by omega) (fun h1040 => ?_)
                                    refine r_ex hX hP 2 (pc' := 171) (st' := [(2, (Ad E 1)), (2, (Ad E 1))]) (lo' := [(0, (2, (Ad E 1))), (1, (0, z1021))]) rfl ?_
                                    refine r_getKI hX hP rfl fl_12_349 hS (x := behind_109) behind_109_e ?_
                                    refine r_ex hX hP 2 (pc' := 176) (st' := [(0, (behind_109 + 1)), (2, (Ad E 1))]) (lo' := [(0, (2, (Ad E 1))), (1, (0, z1021))]) rfl ?_
                                    refine r_putIK hX hP rfl fp_12_349 hS (by omega) (by omega) (fun h1041 => ?_)
                                    refine r_ex hX hP 1 (pc' := 109) (st' := []) (lo' := [(0, (2, (Ad E 1))), (1, (0, z1021))]) rfl ?_
                                    refine r_eqG (X := X) (hq_up (hq_up (hq_base _ _ _ _) rfl) rfl) ?_
                                    exact ih109 (behind_109 + 1) _ h1041 (by omega) (by omega) (by omega)
                                  · skip
                                    refine r_ex hX hP 1 (pc' := 139) (st' := [(2, (Ad E 1)), (2, (Ad E 1))]) (lo' := [(0, (2, (Ad E 1))), (1, (0, z1021))]) rfl ?_
                                    refine r_getL hX hP rfl fl_12_364 hS (fun wf1042 wf1042e wf1042a wf1042b => ?_)
                                    refine r_ldc2 hX hP rfl (v := 32) (tbg sg9 133 rfl rfl) ?_
                                    refine r_ex hX hP 1 (pc' := 146) (st' := [(1, (wf1042 * 32)), (2, (Ad E 1))]) (lo' := [(0, (2, (Ad E 1))), (1, (0, z1021))]) rfl ?_
                                    refine r_hvL hX (fun w1043 w1043a w1043b w1043e => ?_)
                                    refine r_ex hX hP 2 (pc' := 148) (st' := [(2, (Ad E 1)), (2, (Ad E 1)), (1, w1043), (2, (Ad E 1))]) (lo' := [(0, (2, (Ad E 1))), (1, (0, z1021))]) rfl ?_
                                    refine r_getKI hX hP rfl fl_12_349 hS (x := behind_109) behind_109_e ?_
                                    refine r_callV gd hX hP rfl cv_12_355 hS (d' := 0) (mc' := 0) (ms' := 0) (as' := [(0, behind_109)]) (st := [(1, w1043), (2, (Ad E 1))]) (by decide) (by decide) (by decide) rfl rfl (Nat.le_of_ble_eq_true rfl) (c_X12_look E S (hv [84, 87] [] (up (up (up (hv [83] [] (up G 1 (Ad E 1) 83 bf1) Gk8) 1 (Ad E 1) 84 at_8) 1 (Ad E 1) 82 1) 1 (Ad E 1) 87 0) Gk109) behind_109 hS tf3 tf3e (by omega) (by omega)) ?_
                                    rintro _ _ _ ⟨rfl, rfl, z1044, rfl, (⟨z1044a, z1044b, f1045⟩ | ⟨rfl, f1046⟩)⟩
                                    · skip
                                      refine r_i2l hX hP rfl (by omega) (by omega) ?_
                                      refine r_ex hX hP 1 (pc' := 156) (st' := [(1, (w1043 + z1044)), (2, (Ad E 1))]) (lo' := [(0, (2, (Ad E 1))), (1, (0, z1021))]) rfl ?_
                                      refine r_hvL hX (fun w1047 w1047a w1047b w1047e => ?_)
                                      refine r_ldc2 hX hP rfl (v := 96) (tbg sg9 134 rfl rfl) ?_
                                      refine r_ex hX hP 1 (pc' := 160) (st' := [(1, (w1047 - 96)), (2, (Ad E 1))]) (lo' := [(0, (2, (Ad E 1))), (1, (0, z1021))]) rfl ?_
                                      refine r_hvL hX (fun w1048 w1048a w1048b w1048e => ?_)
                                      refine r_ex hX hP 1 (pc' := 166) (st' := [(1, w1048), (2, (Ad E 1))]) (lo' := [(0, (2, (Ad E 1))), (1, (0, z1021))]) rfl ?_
                                      refine r_putLK hX hP rfl fp_12_364 hS (by omega) (by omega) (fun h1049 => ?_)
                                      refine r_ex hX hP 2 (pc' := 171) (st' := [(2, (Ad E 1)), (2, (Ad E 1))]) (lo' := [(0, (2, (Ad E 1))), (1, (0, z1021))]) rfl ?_
                                      refine r_getKI hX hP rfl fl_12_349 hS (x := behind_109) behind_109_e ?_
                                      refine r_ex hX hP 2 (pc' := 176) (st' := [(0, (behind_109 + 1)), (2, (Ad E 1))]) (lo' := [(0, (2, (Ad E 1))), (1, (0, z1021))]) rfl ?_
                                      refine r_putIK hX hP rfl fp_12_349 hS (by omega) (by omega) (fun h1050 => ?_)
                                      refine r_ex hX hP 1 (pc' := 109) (st' := []) (lo' := [(0, (2, (Ad E 1))), (1, (0, z1021))]) rfl ?_
                                      refine r_eqG (X := X) (hq_up (hq_up (hq_base _ _ _ _) rfl) rfl) ?_
                                      exact ih109 (behind_109 + 1) _ h1050 (by omega) (by omega) (by omega)
                                    · skip
                                      refine r_i2l hX hP rfl (by omega) (by omega) ?_
                                      refine r_ex hX hP 1 (pc' := 156) (st' := [(1, (w1043 + 0)), (2, (Ad E 1))]) (lo' := [(0, (2, (Ad E 1))), (1, (0, z1021))]) rfl ?_
                                      refine r_ldc2 hX hP rfl (v := 96) (tbg sg9 134 rfl rfl) ?_
                                      refine r_ex hX hP 1 (pc' := 160) (st' := [(1, ((w1043 + 0) - 96)), (2, (Ad E 1))]) (lo' := [(0, (2, (Ad E 1))), (1, (0, z1021))]) rfl ?_
                                      refine r_hvL hX (fun w1051 w1051a w1051b w1051e => ?_)
                                      refine r_ex hX hP 1 (pc' := 166) (st' := [(1, w1051), (2, (Ad E 1))]) (lo' := [(0, (2, (Ad E 1))), (1, (0, z1021))]) rfl ?_
                                      refine r_putLK hX hP rfl fp_12_364 hS (by omega) (by omega) (fun h1052 => ?_)
                                      refine r_ex hX hP 2 (pc' := 171) (st' := [(2, (Ad E 1)), (2, (Ad E 1))]) (lo' := [(0, (2, (Ad E 1))), (1, (0, z1021))]) rfl ?_
                                      refine r_getKI hX hP rfl fl_12_349 hS (x := behind_109) behind_109_e ?_
                                      refine r_ex hX hP 2 (pc' := 176) (st' := [(0, (behind_109 + 1)), (2, (Ad E 1))]) (lo' := [(0, (2, (Ad E 1))), (1, (0, z1021))]) rfl ?_
                                      refine r_putIK hX hP rfl fp_12_349 hS (by omega) (by omega) (fun h1053 => ?_)
                                      refine r_ex hX hP 1 (pc' := 109) (st' := []) (lo' := [(0, (2, (Ad E 1))), (1, (0, z1021))]) rfl ?_
                                      refine r_eqG (X := X) (hq_up (hq_up (hq_base _ _ _ _) rfl) rfl) ?_
                                      exact ih109 (behind_109 + 1) _ h1053 (by omega) (by omega) (by omega)
                              · skip
                                refine r_if_eq hX hP rfl (tgt := 182) rfl (by omega) (by omega) (fun c1054 => ?_) (fun c1054 => ?_)
                                · skip
                                  refine r_ex hX hP 2 (pc' := 184) (st' := [(2, (Ad E 1)), (2, (Ad E 1))]) (lo' := [(0, (2, (Ad E 1))), (1, (0, z1021))]) rfl ?_
                                  refine r_getKI hX hP rfl fl_12_349 hS (x := behind_109) behind_109_e ?_
                                  refine r_ex hX hP 1 (pc' := 188) (st' := [(2, (Ad E 1)), (0, behind_109), (2, (Ad E 1))]) (lo' := [(0, (2, (Ad E 1))), (1, (0, z1021))]) rfl ?_
                                  refine r_getKI hX hP rfl fl_12_352 hS (x := at_8) at_8_e ?_
                                  refine r_ex hX hP 1 (pc' := 192) (st' := [(0, (behind_109 - at_8)), (2, (Ad E 1))]) (lo' := [(0, (2, (Ad E 1))), (1, (0, z1021))]) rfl ?_
                                  refine r_putIK hX hP rfl fp_12_373 hS (by omega) (by omega) (fun h1055 => ?_)
                                  refine r_ex hX hP 1 (pc' := 354) (st' := []) (lo' := [(0, (2, (Ad E 1))), (1, (0, z1021))]) rfl ?_
                                  exact r_retV hX hP rfl rfl (by omega) (by omega) ⟨rfl, ⟨_, (hq_up (hq_loop (hq_up (hq_up (hq_up (hq_loop (hq_up (hq_refl _ _ _) rfl) rfl) rfl) rfl) rfl) rfl) rfl).symm⟩, rfl, trivial⟩
                                · skip
                                  exfalso; omega
                            · skip
                              refine r_callS gd hX hP rfl cs_12_361 (d' := 0) (mc' := 0) (ms' := 0) (as' := [(0, 0)]) (st := []) (by decide) (by decide) (by decide) rfl rfl (Nat.le_of_ble_eq_true rfl) (c_X12_isLetter E S (hv [84, 87] [] (up (up (up (hv [83] [] (up G 1 (Ad E 1) 83 bf1) Gk8) 1 (Ad E 1) 84 at_8) 1 (Ad E 1) 82 1) 1 (Ad E 1) 87 0) Gk109) 0 (by omega) (by omega)) ?_
                              rintro _ _ _ ⟨rfl, rfl, z1056, rfl, (⟨rfl, f1057, f1058⟩ | ⟨rfl, f1059⟩)⟩
                              · skip
                                refine r_if_eq hX hP rfl (tgt := 182) rfl (by omega) (by omega) (fun c1060 => ?_) (fun c1060 => ?_)
                                · skip
                                  exfalso; omega
                                · skip
                                  refine r_ex hX hP 2 (pc' := 125) (st' := [(2, (Ad E 1)), (2, (Ad E 1))]) (lo' := [(0, (2, (Ad E 1))), (1, (0, z1021))]) rfl ?_
                                  refine r_getKI hX hP rfl fl_12_349 hS (x := behind_109) behind_109_e ?_
                                  refine r_ex hX hP 1 (pc' := 129) (st' := [(2, (Ad E 1)), (0, behind_109), (2, (Ad E 1))]) (lo' := [(0, (2, (Ad E 1))), (1, (0, z1021))]) rfl ?_
                                  refine r_getKI hX hP rfl fl_12_352 hS (x := at_8) at_8_e ?_
                                  refine r_ex hX hP 2 (pc' := 135) (st' := [(0, 12), (0, (behind_109 - at_8)), (2, (Ad E 1))]) (lo' := [(0, (2, (Ad E 1))), (1, (0, z1021))]) rfl ?_
                                  refine r_ic_ge hX hP rfl (tgt := 163) rfl (by omega) (by omega) (by omega) (by omega) (fun c1061 => ?_) (fun c1061 => ?_)
                                  · skip
                                    refine r_ldc2 hX hP rfl (v := (-1)) (tbg sg9 135 rfl rfl) ?_
                                    refine r_putLK hX hP rfl fp_12_364 hS (by omega) (by omega) (fun h1062 => ?_)
                                    refine r_ex hX hP 2 (pc' := 171) (st' := [(2, (Ad E 1)), (2, (Ad E 1))]) (lo' := [(0, (2, (Ad E 1))), (1, (0, z1021))]) rfl ?_
                                    refine r_getKI hX hP rfl fl_12_349 hS (x := behind_109) behind_109_e ?_
                                    refine r_ex hX hP 2 (pc' := 176) (st' := [(0, (behind_109 + 1)), (2, (Ad E 1))]) (lo' := [(0, (2, (Ad E 1))), (1, (0, z1021))]) rfl ?_
                                    refine r_putIK hX hP rfl fp_12_349 hS (by omega) (by omega) (fun h1063 => ?_)
                                    refine r_ex hX hP 1 (pc' := 109) (st' := []) (lo' := [(0, (2, (Ad E 1))), (1, (0, z1021))]) rfl ?_
                                    refine r_eqG (X := X) (hq_up (hq_up (hq_base _ _ _ _) rfl) rfl) ?_
                                    exact ih109 (behind_109 + 1) _ h1063 (by omega) (by omega) (by omega)
                                  · skip
                                    refine r_ex hX hP 1 (pc' := 139) (st' := [(2, (Ad E 1)), (2, (Ad E 1))]) (lo' := [(0, (2, (Ad E 1))), (1, (0, z1021))]) rfl ?_
                                    refine r_getL hX hP rfl fl_12_364 hS (fun wf1064 wf1064e wf1064a wf1064b => ?_)
                                    refine r_ldc2 hX hP rfl (v := 32) (tbg sg9 133 rfl rfl) ?_
                                    refine r_ex hX hP 1 (pc' := 146) (st' := [(1, (wf1064 * 32)), (2, (Ad E 1))]) (lo' := [(0, (2, (Ad E 1))), (1, (0, z1021))]) rfl ?_
                                    refine r_hvL hX (fun w1065 w1065a w1065b w1065e => ?_)
                                    refine r_ex hX hP 2 (pc' := 148) (st' := [(2, (Ad E 1)), (2, (Ad E 1)), (1, w1065), (2, (Ad E 1))]) (lo' := [(0, (2, (Ad E 1))), (1, (0, z1021))]) rfl ?_
                                    refine r_getKI hX hP rfl fl_12_349 hS (x := behind_109) behind_109_e ?_
                                    refine r_callV gd hX hP rfl cv_12_355 hS (d' := 0) (mc' := 0) (ms' := 0) (as' := [(0, behind_109)]) (st := [(1, w1065), (2, (Ad E 1))]) (by decide) (by decide) (by decide) rfl rfl (Nat.le_of_ble_eq_true rfl) (c_X12_look E S (hv [84, 87] [] (up (up (up (hv [83] [] (up G 1 (Ad E 1) 83 bf1) Gk8) 1 (Ad E 1) 84 at_8) 1 (Ad E 1) 82 1) 1 (Ad E 1) 87 0) Gk109) behind_109 hS tf3 tf3e (by omega) (by omega)) ?_
                                    rintro _ _ _ ⟨rfl, rfl, z1066, rfl, (⟨z1066a, z1066b, f1067⟩ | ⟨rfl, f1068⟩)⟩
                                    · skip
                                      refine r_i2l hX hP rfl (by omega) (by omega) ?_
                                      refine r_ex hX hP 1 (pc' := 156) (st' := [(1, (w1065 + z1066)), (2, (Ad E 1))]) (lo' := [(0, (2, (Ad E 1))), (1, (0, z1021))]) rfl ?_
                                      refine r_hvL hX (fun w1069 w1069a w1069b w1069e => ?_)
                                      refine r_ldc2 hX hP rfl (v := 96) (tbg sg9 134 rfl rfl) ?_
                                      refine r_ex hX hP 1 (pc' := 160) (st' := [(1, (w1069 - 96)), (2, (Ad E 1))]) (lo' := [(0, (2, (Ad E 1))), (1, (0, z1021))]) rfl ?_
                                      refine r_hvL hX (fun w1070 w1070a w1070b w1070e => ?_)
                                      refine r_ex hX hP 1 (pc' := 166) (st' := [(1, w1070), (2, (Ad E 1))]) (lo' := [(0, (2, (Ad E 1))), (1, (0, z1021))]) rfl ?_
                                      refine r_putLK hX hP rfl fp_12_364 hS (by omega) (by omega) (fun h1071 => ?_)
                                      refine r_ex hX hP 2 (pc' := 171) (st' := [(2, (Ad E 1)), (2, (Ad E 1))]) (lo' := [(0, (2, (Ad E 1))), (1, (0, z1021))]) rfl ?_
                                      refine r_getKI hX hP rfl fl_12_349 hS (x := behind_109) behind_109_e ?_
                                      refine r_ex hX hP 2 (pc' := 176) (st' := [(0, (behind_109 + 1)), (2, (Ad E 1))]) (lo' := [(0, (2, (Ad E 1))), (1, (0, z1021))]) rfl ?_
                                      refine r_putIK hX hP rfl fp_12_349 hS (by omega) (by omega) (fun h1072 => ?_)
                                      refine r_ex hX hP 1 (pc' := 109) (st' := []) (lo' := [(0, (2, (Ad E 1))), (1, (0, z1021))]) rfl ?_
                                      refine r_eqG (X := X) (hq_up (hq_up (hq_base _ _ _ _) rfl) rfl) ?_
                                      exact ih109 (behind_109 + 1) _ h1072 (by omega) (by omega) (by omega)
                                    · skip
                                      refine r_i2l hX hP rfl (by omega) (by omega) ?_
                                      refine r_ex hX hP 1 (pc' := 156) (st' := [(1, (w1065 + 0)), (2, (Ad E 1))]) (lo' := [(0, (2, (Ad E 1))), (1, (0, z1021))]) rfl ?_
                                      refine r_ldc2 hX hP rfl (v := 96) (tbg sg9 134 rfl rfl) ?_
                                      refine r_ex hX hP 1 (pc' := 160) (st' := [(1, ((w1065 + 0) - 96)), (2, (Ad E 1))]) (lo' := [(0, (2, (Ad E 1))), (1, (0, z1021))]) rfl ?_
                                      refine r_hvL hX (fun w1073 w1073a w1073b w1073e => ?_)
                                      refine r_ex hX hP 1 (pc' := 166) (st' := [(1, w1073), (2, (Ad E 1))]) (lo' := [(0, (2, (Ad E 1))), (1, (0, z1021))]) rfl ?_
                                      refine r_putLK hX hP rfl fp_12_364 hS (by omega) (by omega) (fun h1074 => ?_)
                                      refine r_ex hX hP 2 (pc' := 171) (st' := [(2, (Ad E 1)), (2, (Ad E 1))]) (lo' := [(0, (2, (Ad E 1))), (1, (0, z1021))]) rfl ?_
                                      refine r_getKI hX hP rfl fl_12_349 hS (x := behind_109) behind_109_e ?_
                                      refine r_ex hX hP 2 (pc' := 176) (st' := [(0, (behind_109 + 1)), (2, (Ad E 1))]) (lo' := [(0, (2, (Ad E 1))), (1, (0, z1021))]) rfl ?_
                                      refine r_putIK hX hP rfl fp_12_349 hS (by omega) (by omega) (fun h1075 => ?_)
                                      refine r_ex hX hP 1 (pc' := 109) (st' := []) (lo' := [(0, (2, (Ad E 1))), (1, (0, z1021))]) rfl ?_
                                      refine r_eqG (X := X) (hq_up (hq_up (hq_base _ _ _ _) rfl) rfl) ?_
                                      exact ih109 (behind_109 + 1) _ h1075 (by omega) (by omega) (by omega)
                              · skip
                                refine r_if_eq hX hP rfl (tgt := 182) rfl (by omega) (by omega) (fun c1076 => ?_) (fun c1076 => ?_)
                                · skip
                                  refine r_ex hX hP 2 (pc' := 184) (st' := [(2, (Ad E 1)), (2, (Ad E 1))]) (lo' := [(0, (2, (Ad E 1))), (1, (0, z1021))]) rfl ?_
                                  refine r_getKI hX hP rfl fl_12_349 hS (x := behind_109) behind_109_e ?_
                                  refine r_ex hX hP 1 (pc' := 188) (st' := [(2, (Ad E 1)), (0, behind_109), (2, (Ad E 1))]) (lo' := [(0, (2, (Ad E 1))), (1, (0, z1021))]) rfl ?_
                                  refine r_getKI hX hP rfl fl_12_352 hS (x := at_8) at_8_e ?_
                                  refine r_ex hX hP 1 (pc' := 192) (st' := [(0, (behind_109 - at_8)), (2, (Ad E 1))]) (lo' := [(0, (2, (Ad E 1))), (1, (0, z1021))]) rfl ?_
                                  refine r_putIK hX hP rfl fp_12_373 hS (by omega) (by omega) (fun h1077 => ?_)
                                  refine r_ex hX hP 1 (pc' := 354) (st' := []) (lo' := [(0, (2, (Ad E 1))), (1, (0, z1021))]) rfl ?_
                                  exact r_retV hX hP rfl rfl (by omega) (by omega) ⟨rfl, ⟨_, (hq_up (hq_loop (hq_up (hq_up (hq_up (hq_loop (hq_up (hq_refl _ _ _) rfl) rfl) rfl) rfl) rfl) rfl) rfl).symm⟩, rfl, trivial⟩
                                · skip
                                  exfalso; omega
                        refine r_eqG (X := X) (hq_refl [84, 87] [] _) ?_
                        exact loop109 ((400 - at_8) + 1).toNat at_8 _ h1019 (by omega) (by omega) (by omega)
                    · skip
                      refine r_if_eq hX hP rfl (tgt := 198) rfl (by omega) (by omega) (fun c1078 => ?_) (fun c1078 => ?_)
                      · skip
                        refine r_ex hX hP 1 (pc' := 199) (st' := [(0, z1021)]) (lo' := [(0, (2, (Ad E 1))), (1, (0, z1021))]) rfl ?_
                        refine r_callS gd hX hP rfl cs_12_376 (d' := 0) (mc' := 0) (ms' := 0) (as' := [(0, z1021)]) (st := []) (by decide) (by decide) (by decide) rfl rfl (Nat.le_of_ble_eq_true rfl) (c_X12_isDigit E S (up (hv [83] [] (up G 1 (Ad E 1) 83 bf1) Gk8) 1 (Ad E 1) 84 at_8) z1021 (by omega) (by omega)) ?_
                        rintro _ _ _ ⟨rfl, rfl, z1079, rfl, (⟨rfl, f1080, f1081⟩ | ⟨rfl, f1082⟩)⟩
                        · skip
                          refine r_if_eq hX hP rfl (tgt := 300) rfl (by omega) (by omega) (fun c1083 => ?_) (fun c1083 => ?_)
                          · skip
                            exfalso; omega
                          · skip
                            refine r_ex hX hP 2 (pc' := 207) (st' := [(0, 0), (2, (Ad E 1))]) (lo' := [(0, (2, (Ad E 1))), (1, (0, z1021))]) rfl ?_
                            refine r_putIK hX hP rfl fp_12_379 hS (by omega) (by omega) (fun h1084 => ?_)
                            have loop210 : ∀ (n : Nat) (behind_210 : Int) (Gk210 : Gh), behind_210 = (hv [84, 85] [] (up (up (hv [83] [] (up G 1 (Ad E 1) 83 bf1) Gk8) 1 (Ad E 1) 84 at_8) 1 (Ad E 1) 85 0) Gk210) 1 (Ad E 1) 84 → 0 ≤ behind_210 → behind_210 ≤ 400 → 400 - behind_210 < (n : Int) → X 0 0 210 [] [(0, (2, (Ad E 1))), (1, (0, z1021))] S (hv [84, 85] [] (up (up (hv [83] [] (up G 1 (Ad E 1) 83 bf1) Gk8) 1 (Ad E 1) 84 at_8) 1 (Ad E 1) 85 0) Gk210) := by
                              intro n
                              induction n with
                              | zero => intro behind_210 Gk210 behind_210_e y210_0 y210_1 ym210; exfalso; omega
                              | succ n ih210 =>
                                intro behind_210 Gk210 behind_210_e y210_0 y210_1 ym210
                                refine r_ex hX hP 2 (pc' := 212) (st' := [(2, (Ad E 1)), (2, (Ad E 1))]) (lo' := [(0, (2, (Ad E 1))), (1, (0, z1021))]) rfl ?_
                                refine r_getKI hX hP rfl fl_12_349 hS (x := behind_210) behind_210_e ?_
                                refine r_callV gd hX hP rfl cv_12_355 hS (d' := 0) (mc' := 0) (ms' := 0) (as' := [(0, behind_210)]) (st := []) (by decide) (by decide) (by decide) rfl rfl (Nat.le_of_ble_eq_true rfl) (c_X12_look E S (hv [84, 85] [] (up (up (hv [83] [] (up G 1 (Ad E 1) 83 bf1) Gk8) 1 (Ad E 1) 84 at_8) 1 (Ad E 1) 85 0) Gk210) behind_210 hS tf3 tf3e (by omega) (by omega)) ?_
                                rintro _ _ _ ⟨rfl, rfl, z1085, rfl, (⟨z1085a, z1085b, f1086⟩ | ⟨rfl, f1087⟩)⟩
                                · skip
                                  refine r_callS gd hX hP rfl cs_12_376 (d' := 0) (mc' := 0) (ms' := 0) (as' := [(0, z1085)]) (st := []) (by decide) (by decide) (by decide) rfl rfl (Nat.le_of_ble_eq_true rfl) (c_X12_isDigit E S (hv [84, 85] [] (up (up (hv [83] [] (up G 1 (Ad E 1) 83 bf1) Gk8) 1 (Ad E 1) 84 at_8) 1 (Ad E 1) 85 0) Gk210) z1085 (by omega) (by omega)) ?_
                                  rintro _ _ _ ⟨rfl, rfl, z1088, rfl, (⟨rfl, f1089, f1090⟩ | ⟨rfl, f1091⟩)⟩
                                  · skip
                                    refine r_if_eq hX hP rfl (tgt := 274) rfl (by omega) (by omega) (fun c1092 => ?_) (fun c1092 => ?_)
                                    · skip
                                      exfalso; omega
                                    · skip
                                      refine r_ex hX hP 1 (pc' := 225) (st' := [(2, (Ad E 1))]) (lo' := [(0, (2, (Ad E 1))), (1, (0, z1021))]) rfl ?_
                                      refine r_getKI hX hP rfl fl_12_349 hS (x := behind_210) behind_210_e ?_
                                      refine r_ex hX hP 1 (pc' := 229) (st' := [(2, (Ad E 1)), (0, behind_210)]) (lo' := [(0, (2, (Ad E 1))), (1, (0, z1021))]) rfl ?_
                                      refine r_getKI hX hP rfl fl_12_352 hS (x := at_8) at_8_e ?_
                                      refine r_ex hX hP 2 (pc' := 235) (st' := [(0, 7), (0, (behind_210 - at_8))]) (lo' := [(0, (2, (Ad E 1))), (1, (0, z1021))]) rfl ?_
                                      refine r_ic_ge hX hP rfl (tgt := 261) rfl (by omega) (by omega) (by omega) (by omega) (fun c1093 => ?_) (fun c1093 => ?_)
                                      · skip
                                        refine r_ex hX hP 2 (pc' := 263) (st' := [(2, (Ad E 1)), (2, (Ad E 1))]) (lo' := [(0, (2, (Ad E 1))), (1, (0, z1021))]) rfl ?_
                                        refine r_getKI hX hP rfl fl_12_349 hS (x := behind_210) behind_210_e ?_
                                        refine r_ex hX hP 2 (pc' := 268) (st' := [(0, (behind_210 + 1)), (2, (Ad E 1))]) (lo' := [(0, (2, (Ad E 1))), (1, (0, z1021))]) rfl ?_
                                        refine r_putIK hX hP rfl fp_12_349 hS (by omega) (by omega) (fun h1094 => ?_)
                                        refine r_ex hX hP 1 (pc' := 210) (st' := []) (lo' := [(0, (2, (Ad E 1))), (1, (0, z1021))]) rfl ?_
                                        refine r_eqG (X := X) (hq_up (hq_base _ _ _ _) rfl) ?_
                                        exact ih210 (behind_210 + 1) _ h1094 (by omega) (by omega) (by omega)
                                      · skip
                                        refine r_ex hX hP 3 (pc' := 242) (st' := [(2, (Ad E 1)), (0, 10), (2, (Ad E 1))]) (lo' := [(0, (2, (Ad E 1))), (1, (0, z1021))]) rfl ?_
                                        refine r_getI hX hP rfl fl_12_379 hS (fun nf1095 nf1095e nf1095a nf1095b => ?_)
                                        refine r_ex hX hP 1 (pc' := 246) (st' := [(0, (10 * nf1095)), (2, (Ad E 1))]) (lo' := [(0, (2, (Ad E 1))), (1, (0, z1021))]) rfl ?_
                                        refine r_hvI hX (fun w1096 w1096a w1096b w1096e => ?_)
                                        refine r_ex hX hP 2 (pc' := 248) (st' := [(2, (Ad E 1)), (2, (Ad E 1)), (0, w1096), (2, (Ad E 1))]) (lo' := [(0, (2, (Ad E 1))), (1, (0, z1021))]) rfl ?_
                                        refine r_getKI hX hP rfl fl_12_349 hS (x := behind_210) behind_210_e ?_
                                        refine r_callV gd hX hP rfl cv_12_355 hS (d' := 0) (mc' := 0) (ms' := 0) (as' := [(0, behind_210)]) (st := [(0, w1096), (2, (Ad E 1))]) (by decide) (by decide) (by decide) rfl rfl (Nat.le_of_ble_eq_true rfl) (c_X12_look E S (hv [84, 85] [] (up (up (hv [83] [] (up G 1 (Ad E 1) 83 bf1) Gk8) 1 (Ad E 1) 84 at_8) 1 (Ad E 1) 85 0) Gk210) behind_210 hS tf3 tf3e (by omega) (by omega)) ?_
                                        rintro _ _ _ ⟨rfl, rfl, z1097, rfl, (⟨z1097a, z1097b, f1098⟩ | ⟨rfl, f1099⟩)⟩
                                        · skip
                                          refine r_ex hX hP 1 (pc' := 255) (st' := [(0, (w1096 + z1097)), (2, (Ad E 1))]) (lo' := [(0, (2, (Ad E 1))), (1, (0, z1021))]) rfl ?_
                                          refine r_hvI hX (fun w1100 w1100a w1100b w1100e => ?_)
                                          refine r_ex hX hP 2 (pc' := 258) (st' := [(0, (w1100 - 48)), (2, (Ad E 1))]) (lo' := [(0, (2, (Ad E 1))), (1, (0, z1021))]) rfl ?_
                                          refine r_hvI hX (fun w1101 w1101a w1101b w1101e => ?_)
                                          refine r_putIK hX hP rfl fp_12_379 hS (by omega) (by omega) (fun h1102 => ?_)
                                          refine r_ex hX hP 2 (pc' := 263) (st' := [(2, (Ad E 1)), (2, (Ad E 1))]) (lo' := [(0, (2, (Ad E 1))), (1, (0, z1021))]) rfl ?_
                                          refine r_getKI hX hP rfl fl_12_349 hS (x := behind_210) behind_210_e ?_
                                          refine r_ex hX hP 2 (pc' := 268) (st' := [(0, (behind_210 + 1)), (2, (Ad E 1))]) (lo' := [(0, (2, (Ad E 1))), (1, (0, z1021))]) rfl ?_
                                          refine r_putIK hX hP rfl fp_12_349 hS (by omega) (by omega) (fun h1103 => ?_)
                                          refine r_ex hX hP 1 (pc' := 210) (st' := []) (lo' := [(0, (2, (Ad E 1))), (1, (0, z1021))]) rfl ?_
                                          refine r_eqG (X := X) (hq_up (hq_up (hq_base _ _ _ _) rfl) rfl) ?_
                                          exact ih210 (behind_210 + 1) _ h1103 (by omega) (by omega) (by omega)
                                        · skip
                                          refine r_ex hX hP 3 (pc' := 258) (st' := [(0, ((w1096 + 0) - 48)), (2, (Ad E 1))]) (lo' := [(0, (2, (Ad E 1))), (1, (0, z1021))]) rfl ?_
                                          refine r_hvI hX (fun w1104 w1104a w1104b w1104e => ?_)
                                          refine r_putIK hX hP rfl fp_12_379 hS (by omega) (by omega) (fun h1105 => ?_)
                                          refine r_ex hX hP 2 (pc' := 263) (st' := [(2, (Ad E 1)), (2, (Ad E 1))]) (lo' := [(0, (2, (Ad E 1))), (1, (0, z1021))]) rfl ?_
                                          refine r_getKI hX hP rfl fl_12_349 hS (x := behind_210) behind_210_e ?_
                                          refine r_ex hX hP 2 (pc' := 268) (st' := [(0, (behind_210 + 1)), (2, (Ad E 1))]) (lo' := [(0, (2, (Ad E 1))), (1, (0, z1021))]) rfl ?_
                                          refine r_putIK hX hP rfl fp_12_349 hS (by omega) (by omega) (fun h1106 => ?_)
                                          refine r_ex hX hP 1 (pc' := 210) (st' := []) (lo' := [(0, (2, (Ad E 1))), (1, (0, z1021))]) rfl ?_
                                          refine r_eqG (X := X) (hq_up (hq_up (hq_base _ _ _ _) rfl) rfl) ?_
                                          exact ih210 (behind_210 + 1) _ h1106 (by omega) (by omega) (by omega)
                                  · skip
                                    refine r_if_eq hX hP rfl (tgt := 274) rfl (by omega) (by omega) (fun c1107 => ?_) (fun c1107 => ?_)
                                    · skip
                                      refine r_ex hX hP 2 (pc' := 276) (st' := [(2, (Ad E 1)), (2, (Ad E 1))]) (lo' := [(0, (2, (Ad E 1))), (1, (0, z1021))]) rfl ?_
                                      refine r_getKI hX hP rfl fl_12_349 hS (x := behind_210) behind_210_e ?_
                                      refine r_ex hX hP 1 (pc' := 280) (st' := [(2, (Ad E 1)), (0, behind_210), (2, (Ad E 1))]) (lo' := [(0, (2, (Ad E 1))), (1, (0, z1021))]) rfl ?_
                                      refine r_getKI hX hP rfl fl_12_352 hS (x := at_8) at_8_e ?_
                                      refine r_ex hX hP 2 (pc' := 286) (st' := [(0, 7), (0, (behind_210 - at_8)), (2, (Ad E 1))]) (lo' := [(0, (2, (Ad E 1))), (1, (0, z1021))]) rfl ?_
                                      refine r_ic_le hX hP rfl (tgt := 293) rfl (by omega) (by omega) (by omega) (by omega) (fun c1108 => ?_) (fun c1108 => ?_)
                                      · skip
                                        refine r_ex hX hP 1 (pc' := 294) (st' := [(0, 2), (2, (Ad E 1))]) (lo' := [(0, (2, (Ad E 1))), (1, (0, z1021))]) rfl ?_
                                        refine r_putIK hX hP rfl fp_12_358 hS (by omega) (by omega) (fun h1109 => ?_)
                                        refine r_ex hX hP 1 (pc' := 354) (st' := []) (lo' := [(0, (2, (Ad E 1))), (1, (0, z1021))]) rfl ?_
                                        exact r_retV hX hP rfl rfl (by omega) (by omega) ⟨rfl, ⟨_, (hq_up (hq_loop (hq_up (hq_up (hq_loop (hq_up (hq_refl _ _ _) rfl) rfl) rfl) rfl) rfl) rfl).symm⟩, rfl, trivial⟩
                                      · skip
                                        refine r_ex hX hP 2 (pc' := 294) (st' := [(0, 4), (2, (Ad E 1))]) (lo' := [(0, (2, (Ad E 1))), (1, (0, z1021))]) rfl ?_
                                        refine r_putIK hX hP rfl fp_12_358 hS (by omega) (by omega) (fun h1110 => ?_)
                                        refine r_ex hX hP 1 (pc' := 354) (st' := []) (lo' := [(0, (2, (Ad E 1))), (1, (0, z1021))]) rfl ?_
                                        exact r_retV hX hP rfl rfl (by omega) (by omega) ⟨rfl, ⟨_, (hq_up (hq_loop (hq_up (hq_up (hq_loop (hq_up (hq_refl _ _ _) rfl) rfl) rfl) rfl) rfl) rfl).symm⟩, rfl, trivial⟩
                                    · skip
                                      exfalso; omega
                                · skip
                                  refine r_callS gd hX hP rfl cs_12_376 (d' := 0) (mc' := 0) (ms' := 0) (as' := [(0, 0)]) (st := []) (by decide) (by decide) (by decide) rfl rfl (Nat.le_of_ble_eq_true rfl) (c_X12_isDigit E S (hv [84, 85] [] (up (up (hv [83] [] (up G 1 (Ad E 1) 83 bf1) Gk8) 1 (Ad E 1) 84 at_8) 1 (Ad E 1) 85 0) Gk210) 0 (by omega) (by omega)) ?_
                                  rintro _ _ _ ⟨rfl, rfl, z1111, rfl, (⟨rfl, f1112, f1113⟩ | ⟨rfl, f1114⟩)⟩
                                  · skip
                                    refine r_if_eq hX hP rfl (tgt := 274) rfl (by omega) (by omega) (fun c1115 => ?_) (fun c1115 => ?_)
                                    · skip
                                      exfalso; omega
                                    · skip
                                      refine r_ex hX hP 1 (pc' := 225) (st' := [(2, (Ad E 1))]) (lo' := [(0, (2, (Ad E 1))), (1, (0, z1021))]) rfl ?_
                                      refine r_getKI hX hP rfl fl_12_349 hS (x := behind_210) behind_210_e ?_
                                      refine r_ex hX hP 1 (pc' := 229) (st' := [(2, (Ad E 1)), (0, behind_210)]) (lo' := [(0, (2, (Ad E 1))), (1, (0, z1021))]) rfl ?_
                                      refine r_getKI hX hP rfl fl_12_352 hS (x := at_8) at_8_e ?_
                                      refine r_ex hX hP 2 (pc' := 235) (st' := [(0, 7), (0, (behind_210 - at_8))]) (lo' := [(0, (2, (Ad E 1))), (1, (0, z1021))]) rfl ?_
                                      refine r_ic_ge hX hP rfl (tgt := 261) rfl (by omega) (by omega) (by omega) (by omega) (fun c1116 => ?_) (fun c1116 => ?_)
                                      · skip
                                        refine r_ex hX hP 2 (pc' := 263) (st' := [(2, (Ad E 1)), (2, (Ad E 1))]) (lo' := [(0, (2, (Ad E 1))), (1, (0, z1021))]) rfl ?_
                                        refine r_getKI hX hP rfl fl_12_349 hS (x := behind_210) behind_210_e ?_
                                        refine r_ex hX hP 2 (pc' := 268) (st' := [(0, (behind_210 + 1)), (2, (Ad E 1))]) (lo' := [(0, (2, (Ad E 1))), (1, (0, z1021))]) rfl ?_
                                        refine r_putIK hX hP rfl fp_12_349 hS (by omega) (by omega) (fun h1117 => ?_)
                                        refine r_ex hX hP 1 (pc' := 210) (st' := []) (lo' := [(0, (2, (Ad E 1))), (1, (0, z1021))]) rfl ?_
                                        refine r_eqG (X := X) (hq_up (hq_base _ _ _ _) rfl) ?_
                                        exact ih210 (behind_210 + 1) _ h1117 (by omega) (by omega) (by omega)
                                      · skip
                                        refine r_ex hX hP 3 (pc' := 242) (st' := [(2, (Ad E 1)), (0, 10), (2, (Ad E 1))]) (lo' := [(0, (2, (Ad E 1))), (1, (0, z1021))]) rfl ?_
                                        refine r_getI hX hP rfl fl_12_379 hS (fun nf1118 nf1118e nf1118a nf1118b => ?_)
                                        refine r_ex hX hP 1 (pc' := 246) (st' := [(0, (10 * nf1118)), (2, (Ad E 1))]) (lo' := [(0, (2, (Ad E 1))), (1, (0, z1021))]) rfl ?_
                                        refine r_hvI hX (fun w1119 w1119a w1119b w1119e => ?_)
                                        refine r_ex hX hP 2 (pc' := 248) (st' := [(2, (Ad E 1)), (2, (Ad E 1)), (0, w1119), (2, (Ad E 1))]) (lo' := [(0, (2, (Ad E 1))), (1, (0, z1021))]) rfl ?_
                                        refine r_getKI hX hP rfl fl_12_349 hS (x := behind_210) behind_210_e ?_
                                        refine r_callV gd hX hP rfl cv_12_355 hS (d' := 0) (mc' := 0) (ms' := 0) (as' := [(0, behind_210)]) (st := [(0, w1119), (2, (Ad E 1))]) (by decide) (by decide) (by decide) rfl rfl (Nat.le_of_ble_eq_true rfl) (c_X12_look E S (hv [84, 85] [] (up (up (hv [83] [] (up G 1 (Ad E 1) 83 bf1) Gk8) 1 (Ad E 1) 84 at_8) 1 (Ad E 1) 85 0) Gk210) behind_210 hS tf3 tf3e (by omega) (by omega)) ?_
                                        rintro _ _ _ ⟨rfl, rfl, z1120, rfl, (⟨z1120a, z1120b, f1121⟩ | ⟨rfl, f1122⟩)⟩
                                        · skip
                                          refine r_ex hX hP 1 (pc' := 255) (st' := [(0, (w1119 + z1120)), (2, (Ad E 1))]) (lo' := [(0, (2, (Ad E 1))), (1, (0, z1021))]) rfl ?_
                                          refine r_hvI hX (fun w1123 w1123a w1123b w1123e => ?_)
                                          refine r_ex hX hP 2 (pc' := 258) (st' := [(0, (w1123 - 48)), (2, (Ad E 1))]) (lo' := [(0, (2, (Ad E 1))), (1, (0, z1021))]) rfl ?_
                                          refine r_hvI hX (fun w1124 w1124a w1124b w1124e => ?_)
                                          refine r_putIK hX hP rfl fp_12_379 hS (by omega) (by omega) (fun h1125 => ?_)
                                          refine r_ex hX hP 2 (pc' := 263) (st' := [(2, (Ad E 1)), (2, (Ad E 1))]) (lo' := [(0, (2, (Ad E 1))), (1, (0, z1021))]) rfl ?_
                                          refine r_getKI hX hP rfl fl_12_349 hS (x := behind_210) behind_210_e ?_
                                          refine r_ex hX hP 2 (pc' := 268) (st' := [(0, (behind_210 + 1)), (2, (Ad E 1))]) (lo' := [(0, (2, (Ad E 1))), (1, (0, z1021))]) rfl ?_
                                          refine r_putIK hX hP rfl fp_12_349 hS (by omega) (by omega) (fun h1126 => ?_)
                                          refine r_ex hX hP 1 (pc' := 210) (st' := []) (lo' := [(0, (2, (Ad E 1))), (1, (0, z1021))]) rfl ?_
                                          refine r_eqG (X := X) (hq_up (hq_up (hq_base _ _ _ _) rfl) rfl) ?_
                                          exact ih210 (behind_210 + 1) _ h1126 (by omega) (by omega) (by omega)
                                        · skip
                                          refine r_ex hX hP 3 (pc' := 258) (st' := [(0, ((w1119 + 0) - 48)), (2, (Ad E 1))]) (lo' := [(0, (2, (Ad E 1))), (1, (0, z1021))]) rfl ?_
                                          refine r_hvI hX (fun w1127 w1127a w1127b w1127e => ?_)
                                          refine r_putIK hX hP rfl fp_12_379 hS (by omega) (by omega) (fun h1128 => ?_)
                                          refine r_ex hX hP 2 (pc' := 263) (st' := [(2, (Ad E 1)), (2, (Ad E 1))]) (lo' := [(0, (2, (Ad E 1))), (1, (0, z1021))]) rfl ?_
                                          refine r_getKI hX hP rfl fl_12_349 hS (x := behind_210) behind_210_e ?_
                                          refine r_ex hX hP 2 (pc' := 268) (st' := [(0, (behind_210 + 1)), (2, (Ad E 1))]) (lo' := [(0, (2, (Ad E 1))), (1, (0, z1021))]) rfl ?_
                                          refine r_putIK hX hP rfl fp_12_349 hS (by omega) (by omega) (fun h1129 => ?_)
                                          refine r_ex hX hP 1 (pc' := 210) (st' := []) (lo' := [(0, (2, (Ad E 1))), (1, (0, z1021))]) rfl ?_
                                          refine r_eqG (X := X) (hq_up (hq_up (hq_base _ _ _ _) rfl) rfl) ?_
                                          exact ih210 (behind_210 + 1) _ h1129 (by omega) (by omega) (by omega)
                                  · skip
                                    refine r_if_eq hX hP rfl (tgt := 274) rfl (by omega) (by omega) (fun c1130 => ?_) (fun c1130 => ?_)
                                    · skip
                                      refine r_ex hX hP 2 (pc' := 276) (st' := [(2, (Ad E 1)), (2, (Ad E 1))]) (lo' := [(0, (2, (Ad E 1))), (1, (0, z1021))]) rfl ?_
                                      refine r_getKI hX hP rfl fl_12_349 hS (x := behind_210) behind_210_e ?_
                                      refine r_ex hX hP 1 (pc' := 280) (st' := [(2, (Ad E 1)), (0, behind_210), (2, (Ad E 1))]) (lo' := [(0, (2, (Ad E 1))), (1, (0, z1021))]) rfl ?_
                                      refine r_getKI hX hP rfl fl_12_352 hS (x := at_8) at_8_e ?_
                                      refine r_ex hX hP 2 (pc' := 286) (st' := [(0, 7), (0, (behind_210 - at_8)), (2, (Ad E 1))]) (lo' := [(0, (2, (Ad E 1))), (1, (0, z1021))]) rfl ?_
                                      refine r_ic_le hX hP rfl (tgt := 293) rfl (by omega) (by omega) (by omega) (by omega) (fun c1131 => ?_) (fun c1131 => ?_)
                                      · skip
                                        refine r_ex hX hP 1 (pc' := 294) (st' := [(0, 2), (2, (Ad E 1))]) (lo' := [(0, (2, (Ad E 1))), (1, (0, z1021))]) rfl ?_
                                        refine r_putIK hX hP rfl fp_12_358 hS (by omega) (by omega) (fun h1132 => ?_)
                                        refine r_ex hX hP 1 (pc' := 354) (st' := []) (lo' := [(0, (2, (Ad E 1))), (1, (0, z1021))]) rfl ?_
                                        exact r_retV hX hP rfl rfl (by omega) (by omega) ⟨rfl, ⟨_, (hq_up (hq_loop (hq_up (hq_up (hq_loop (hq_up (hq_refl _ _ _) rfl) rfl) rfl) rfl) rfl) rfl).symm⟩, rfl, trivial⟩
                                      · skip
                                        refine r_ex hX hP 2 (pc' := 294) (st' := [(0, 4), (2, (Ad E 1))]) (lo' := [(0, (2, (Ad E 1))), (1, (0, z1021))]) rfl ?_
                                        refine r_putIK hX hP rfl fp_12_358 hS (by omega) (by omega) (fun h1133 => ?_)
                                        refine r_ex hX hP 1 (pc' := 354) (st' := []) (lo' := [(0, (2, (Ad E 1))), (1, (0, z1021))]) rfl ?_
                                        exact r_retV hX hP rfl rfl (by omega) (by omega) ⟨rfl, ⟨_, (hq_up (hq_loop (hq_up (hq_up (hq_loop (hq_up (hq_refl _ _ _) rfl) rfl) rfl) rfl) rfl) rfl).symm⟩, rfl, trivial⟩
                                    · skip
                                      exfalso; omega
                            refine r_eqG (X := X) (hq_refl [84, 85] [] _) ?_
                            exact loop210 ((400 - at_8) + 1).toNat at_8 _ h1019 (by omega) (by omega) (by omega)
                        · skip
                          refine r_if_eq hX hP rfl (tgt := 300) rfl (by omega) (by omega) (fun c1134 => ?_) (fun c1134 => ?_)
                          · skip
                            refine r_ex hX hP 2 (pc' := 302) (st' := [(2, (Ad E 1)), (2, (Ad E 1))]) (lo' := [(0, (2, (Ad E 1))), (1, (0, z1021))]) rfl ?_
                            refine r_getKI hX hP rfl fl_12_352 hS (x := at_8) at_8_e ?_
                            refine r_ex hX hP 2 (pc' := 307) (st' := [(0, (at_8 + 1)), (2, (Ad E 1))]) (lo' := [(0, (2, (Ad E 1))), (1, (0, z1021))]) rfl ?_
                            refine r_putIK hX hP rfl fp_12_349 hS (by omega) (by omega) (fun h1135 => ?_)
                            refine r_ex hX hP 2 (pc' := 312) (st' := [(0, z1021), (2, (Ad E 1))]) (lo' := [(0, (2, (Ad E 1))), (1, (0, z1021))]) rfl ?_
                            refine r_putIK hX hP rfl fp_12_379 hS (by omega) (by omega) (fun h1136 => ?_)
                            refine r_ex hX hP 3 (pc' := 319) (st' := [(0, 59), (0, z1021), (2, (Ad E 1))]) (lo' := [(0, (2, (Ad E 1))), (1, (0, z1021))]) rfl ?_
                            refine r_ic_eq hX hP rfl (tgt := 346) rfl (by omega) (by omega) (by omega) (by omega) (fun c1137 => ?_) (fun c1137 => ?_)
                            · skip
                              refine r_ex hX hP 2 (pc' := 351) (st' := [(0, 3), (2, (Ad E 1))]) (lo' := [(0, (2, (Ad E 1))), (1, (0, z1021))]) rfl ?_
                              refine r_putIK hX hP rfl fp_12_358 hS (by omega) (by omega) (fun h1138 => ?_)
                              exact r_retV hX hP rfl rfl (by omega) (by omega) ⟨rfl, ⟨_, (hq_up (hq_up (hq_up (hq_up (hq_loop (hq_up (hq_refl _ _ _) rfl) rfl) rfl) rfl) rfl) rfl).symm⟩, rfl, trivial⟩
                            · skip
                              refine r_ex hX hP 2 (pc' := 325) (st' := [(0, 123), (0, z1021), (2, (Ad E 1))]) (lo' := [(0, (2, (Ad E 1))), (1, (0, z1021))]) rfl ?_
                              refine r_ic_eq hX hP rfl (tgt := 346) rfl (by omega) (by omega) (by omega) (by omega) (fun c1139 => ?_) (fun c1139 => ?_)
                              · skip
                                refine r_ex hX hP 2 (pc' := 351) (st' := [(0, 3), (2, (Ad E 1))]) (lo' := [(0, (2, (Ad E 1))), (1, (0, z1021))]) rfl ?_
                                refine r_putIK hX hP rfl fp_12_358 hS (by omega) (by omega) (fun h1140 => ?_)
                                exact r_retV hX hP rfl rfl (by omega) (by omega) ⟨rfl, ⟨_, (hq_up (hq_up (hq_up (hq_up (hq_loop (hq_up (hq_refl _ _ _) rfl) rfl) rfl) rfl) rfl) rfl).symm⟩, rfl, trivial⟩
                              · skip
                                refine r_ex hX hP 2 (pc' := 331) (st' := [(0, 125), (0, z1021), (2, (Ad E 1))]) (lo' := [(0, (2, (Ad E 1))), (1, (0, z1021))]) rfl ?_
                                refine r_ic_eq hX hP rfl (tgt := 346) rfl (by omega) (by omega) (by omega) (by omega) (fun c1141 => ?_) (fun c1141 => ?_)
                                · skip
                                  refine r_ex hX hP 2 (pc' := 351) (st' := [(0, 3), (2, (Ad E 1))]) (lo' := [(0, (2, (Ad E 1))), (1, (0, z1021))]) rfl ?_
                                  refine r_putIK hX hP rfl fp_12_358 hS (by omega) (by omega) (fun h1142 => ?_)
                                  exact r_retV hX hP rfl rfl (by omega) (by omega) ⟨rfl, ⟨_, (hq_up (hq_up (hq_up (hq_up (hq_loop (hq_up (hq_refl _ _ _) rfl) rfl) rfl) rfl) rfl) rfl).symm⟩, rfl, trivial⟩
                                · skip
                                  refine r_ex hX hP 2 (pc' := 337) (st' := [(0, 60), (0, z1021), (2, (Ad E 1))]) (lo' := [(0, (2, (Ad E 1))), (1, (0, z1021))]) rfl ?_
                                  refine r_ic_eq hX hP rfl (tgt := 346) rfl (by omega) (by omega) (by omega) (by omega) (fun c1143 => ?_) (fun c1143 => ?_)
                                  · skip
                                    refine r_ex hX hP 2 (pc' := 351) (st' := [(0, 3), (2, (Ad E 1))]) (lo' := [(0, (2, (Ad E 1))), (1, (0, z1021))]) rfl ?_
                                    refine r_putIK hX hP rfl fp_12_358 hS (by omega) (by omega) (fun h1144 => ?_)
                                    exact r_retV hX hP rfl rfl (by omega) (by omega) ⟨rfl, ⟨_, (hq_up (hq_up (hq_up (hq_up (hq_loop (hq_up (hq_refl _ _ _) rfl) rfl) rfl) rfl) rfl) rfl).symm⟩, rfl, trivial⟩
                                  · skip
                                    refine r_ex hX hP 2 (pc' := 343) (st' := [(0, 62), (0, z1021), (2, (Ad E 1))]) (lo' := [(0, (2, (Ad E 1))), (1, (0, z1021))]) rfl ?_
                                    refine r_ic_ne hX hP rfl (tgt := 350) rfl (by omega) (by omega) (by omega) (by omega) (fun c1145 => ?_) (fun c1145 => ?_)
                                    · skip
                                      refine r_ex hX hP 1 (pc' := 351) (st' := [(0, 4), (2, (Ad E 1))]) (lo' := [(0, (2, (Ad E 1))), (1, (0, z1021))]) rfl ?_
                                      refine r_putIK hX hP rfl fp_12_358 hS (by omega) (by omega) (fun h1146 => ?_)
                                      exact r_retV hX hP rfl rfl (by omega) (by omega) ⟨rfl, ⟨_, (hq_up (hq_up (hq_up (hq_up (hq_loop (hq_up (hq_refl _ _ _) rfl) rfl) rfl) rfl) rfl) rfl).symm⟩, rfl, trivial⟩
                                    · skip
                                      refine r_ex hX hP 2 (pc' := 351) (st' := [(0, 3), (2, (Ad E 1))]) (lo' := [(0, (2, (Ad E 1))), (1, (0, z1021))]) rfl ?_
                                      refine r_putIK hX hP rfl fp_12_358 hS (by omega) (by omega) (fun h1147 => ?_)
                                      exact r_retV hX hP rfl rfl (by omega) (by omega) ⟨rfl, ⟨_, (hq_up (hq_up (hq_up (hq_up (hq_loop (hq_up (hq_refl _ _ _) rfl) rfl) rfl) rfl) rfl) rfl).symm⟩, rfl, trivial⟩
                          · skip
                            exfalso; omega
                      · skip
                        exfalso; omega
                  · skip
                    refine r_ex hX hP 2 (pc' := 93) (st' := [(0, 0)]) (lo' := [(0, (2, (Ad E 1))), (1, (0, 0))]) rfl ?_
                    refine r_callS gd hX hP rfl cs_12_361 (d' := 0) (mc' := 0) (ms' := 0) (as' := [(0, 0)]) (st := []) (by decide) (by decide) (by decide) rfl rfl (Nat.le_of_ble_eq_true rfl) (c_X12_isLetter E S (up (hv [83] [] (up G 1 (Ad E 1) 83 bf1) Gk8) 1 (Ad E 1) 84 at_8) 0 (by omega) (by omega)) ?_
                    rintro _ _ _ ⟨rfl, rfl, z1148, rfl, (⟨rfl, f1149, f1150⟩ | ⟨rfl, f1151⟩)⟩
                    · skip
                      refine r_if_eq hX hP rfl (tgt := 198) rfl (by omega) (by omega) (fun c1152 => ?_) (fun c1152 => ?_)
                      · skip
                        exfalso; omega
                      · skip
                        refine r_ex hX hP 2 (pc' := 101) (st' := [(0, 1), (2, (Ad E 1))]) (lo' := [(0, (2, (Ad E 1))), (1, (0, 0))]) rfl ?_
                        refine r_putIK hX hP rfl fp_12_358 hS (by omega) (by omega) (fun h1153 => ?_)
                        refine r_ex hX hP 2 (pc' := 106) (st' := [(1, 0), (2, (Ad E 1))]) (lo' := [(0, (2, (Ad E 1))), (1, (0, 0))]) rfl ?_
                        refine r_putLK hX hP rfl fp_12_364 hS (by omega) (by omega) (fun h1154 => ?_)
                        have loop109 : ∀ (n : Nat) (behind_109 : Int) (Gk109 : Gh), behind_109 = (hv [84, 87] [] (up (up (up (hv [83] [] (up G 1 (Ad E 1) 83 bf1) Gk8) 1 (Ad E 1) 84 at_8) 1 (Ad E 1) 82 1) 1 (Ad E 1) 87 0) Gk109) 1 (Ad E 1) 84 → 0 ≤ behind_109 → behind_109 ≤ 400 → 400 - behind_109 < (n : Int) → X 0 0 109 [] [(0, (2, (Ad E 1))), (1, (0, 0))] S (hv [84, 87] [] (up (up (up (hv [83] [] (up G 1 (Ad E 1) 83 bf1) Gk8) 1 (Ad E 1) 84 at_8) 1 (Ad E 1) 82 1) 1 (Ad E 1) 87 0) Gk109) := by
                          intro n
                          induction n with
                          | zero => intro behind_109 Gk109 behind_109_e y109_0 y109_1 ym109; exfalso; omega
                          | succ n ih109 =>
                            intro behind_109 Gk109 behind_109_e y109_0 y109_1 ym109
                            refine r_ex hX hP 2 (pc' := 111) (st' := [(2, (Ad E 1)), (2, (Ad E 1))]) (lo' := [(0, (2, (Ad E 1))), (1, (0, 0))]) rfl ?_
                            refine r_getKI hX hP rfl fl_12_349 hS (x := behind_109) behind_109_e ?_
                            refine r_callV gd hX hP rfl cv_12_355 hS (d' := 0) (mc' := 0) (ms' := 0) (as' := [(0, behind_109)]) (st := []) (by decide) (by decide) (by decide) rfl rfl (Nat.le_of_ble_eq_true rfl) (c_X12_look E S (hv [84, 87] [] (up (up (up (hv [83] [] (up G 1 (Ad E 1) 83 bf1) Gk8) 1 (Ad E 1) 84 at_8) 1 (Ad E 1) 82 1) 1 (Ad E 1) 87 0) Gk109) behind_109 hS tf3 tf3e (by omega) (by omega)) ?_
                            rintro _ _ _ ⟨rfl, rfl, z1155, rfl, (⟨z1155a, z1155b, f1156⟩ | ⟨rfl, f1157⟩)⟩
                            · skip
                              refine r_callS gd hX hP rfl cs_12_361 (d' := 0) (mc' := 0) (ms' := 0) (as' := [(0, z1155)]) (st := []) (by decide) (by decide) (by decide) rfl rfl (Nat.le_of_ble_eq_true rfl) (c_X12_isLetter E S (hv [84, 87] [] (up (up (up (hv [83] [] (up G 1 (Ad E 1) 83 bf1) Gk8) 1 (Ad E 1) 84 at_8) 1 (Ad E 1) 82 1) 1 (Ad E 1) 87 0) Gk109) z1155 (by omega) (by omega)) ?_
                              rintro _ _ _ ⟨rfl, rfl, z1158, rfl, (⟨rfl, f1159, f1160⟩ | ⟨rfl, f1161⟩)⟩
                              · skip
                                refine r_if_eq hX hP rfl (tgt := 182) rfl (by omega) (by omega) (fun c1162 => ?_) (fun c1162 => ?_)
                                · skip
                                  exfalso; omega
                                · skip
                                  refine r_ex hX hP 2 (pc' := 125) (st' := [(2, (Ad E 1)), (2, (Ad E 1))]) (lo' := [(0, (2, (Ad E 1))), (1, (0, 0))]) rfl ?_
                                  refine r_getKI hX hP rfl fl_12_349 hS (x := behind_109) behind_109_e ?_
                                  refine r_ex hX hP 1 (pc' := 129) (st' := [(2, (Ad E 1)), (0, behind_109), (2, (Ad E 1))]) (lo' := [(0, (2, (Ad E 1))), (1, (0, 0))]) rfl ?_
                                  refine r_getKI hX hP rfl fl_12_352 hS (x := at_8) at_8_e ?_
                                  refine r_ex hX hP 2 (pc' := 135) (st' := [(0, 12), (0, (behind_109 - at_8)), (2, (Ad E 1))]) (lo' := [(0, (2, (Ad E 1))), (1, (0, 0))]) rfl ?_
                                  refine r_ic_ge hX hP rfl (tgt := 163) rfl (by omega) (by omega) (by omega) (by omega) (fun c1163 => ?_) (fun c1163 => ?_)
                                  · skip
                                    refine r_ldc2 hX hP rfl (v := (-1)) (tbg sg9 135 rfl rfl) ?_
                                    refine r_putLK hX hP rfl fp_12_364 hS (by omega) (by omega) (fun h1164 => ?_)
                                    refine r_ex hX hP 2 (pc' := 171) (st' := [(2, (Ad E 1)), (2, (Ad E 1))]) (lo' := [(0, (2, (Ad E 1))), (1, (0, 0))]) rfl ?_
                                    refine r_getKI hX hP rfl fl_12_349 hS (x := behind_109) behind_109_e ?_
                                    refine r_ex hX hP 2 (pc' := 176) (st' := [(0, (behind_109 + 1)), (2, (Ad E 1))]) (lo' := [(0, (2, (Ad E 1))), (1, (0, 0))]) rfl ?_
                                    refine r_putIK hX hP rfl fp_12_349 hS (by omega) (by omega) (fun h1165 => ?_)
                                    refine r_ex hX hP 1 (pc' := 109) (st' := []) (lo' := [(0, (2, (Ad E 1))), (1, (0, 0))]) rfl ?_
                                    refine r_eqG (X := X) (hq_up (hq_up (hq_base _ _ _ _) rfl) rfl) ?_
                                    exact ih109 (behind_109 + 1) _ h1165 (by omega) (by omega) (by omega)
                                  · skip
                                    refine r_ex hX hP 1 (pc' := 139) (st' := [(2, (Ad E 1)), (2, (Ad E 1))]) (lo' := [(0, (2, (Ad E 1))), (1, (0, 0))]) rfl ?_
                                    refine r_getL hX hP rfl fl_12_364 hS (fun wf1166 wf1166e wf1166a wf1166b => ?_)
                                    refine r_ldc2 hX hP rfl (v := 32) (tbg sg9 133 rfl rfl) ?_
                                    refine r_ex hX hP 1 (pc' := 146) (st' := [(1, (wf1166 * 32)), (2, (Ad E 1))]) (lo' := [(0, (2, (Ad E 1))), (1, (0, 0))]) rfl ?_
                                    refine r_hvL hX (fun w1167 w1167a w1167b w1167e => ?_)
                                    refine r_ex hX hP 2 (pc' := 148) (st' := [(2, (Ad E 1)), (2, (Ad E 1)), (1, w1167), (2, (Ad E 1))]) (lo' := [(0, (2, (Ad E 1))), (1, (0, 0))]) rfl ?_
                                    refine r_getKI hX hP rfl fl_12_349 hS (x := behind_109) behind_109_e ?_
                                    refine r_callV gd hX hP rfl cv_12_355 hS (d' := 0) (mc' := 0) (ms' := 0) (as' := [(0, behind_109)]) (st := [(1, w1167), (2, (Ad E 1))]) (by decide) (by decide) (by decide) rfl rfl (Nat.le_of_ble_eq_true rfl) (c_X12_look E S (hv [84, 87] [] (up (up (up (hv [83] [] (up G 1 (Ad E 1) 83 bf1) Gk8) 1 (Ad E 1) 84 at_8) 1 (Ad E 1) 82 1) 1 (Ad E 1) 87 0) Gk109) behind_109 hS tf3 tf3e (by omega) (by omega)) ?_
                                    rintro _ _ _ ⟨rfl, rfl, z1168, rfl, (⟨z1168a, z1168b, f1169⟩ | ⟨rfl, f1170⟩)⟩
                                    · skip
                                      refine r_i2l hX hP rfl (by omega) (by omega) ?_
                                      refine r_ex hX hP 1 (pc' := 156) (st' := [(1, (w1167 + z1168)), (2, (Ad E 1))]) (lo' := [(0, (2, (Ad E 1))), (1, (0, 0))]) rfl ?_
                                      refine r_hvL hX (fun w1171 w1171a w1171b w1171e => ?_)
                                      refine r_ldc2 hX hP rfl (v := 96) (tbg sg9 134 rfl rfl) ?_
                                      refine r_ex hX hP 1 (pc' := 160) (st' := [(1, (w1171 - 96)), (2, (Ad E 1))]) (lo' := [(0, (2, (Ad E 1))), (1, (0, 0))]) rfl ?_
                                      refine r_hvL hX (fun w1172 w1172a w1172b w1172e => ?_)
                                      refine r_ex hX hP 1 (pc' := 166) (st' := [(1, w1172), (2, (Ad E 1))]) (lo' := [(0, (2, (Ad E 1))), (1, (0, 0))]) rfl ?_
                                      refine r_putLK hX hP rfl fp_12_364 hS (by omega) (by omega) (fun h1173 => ?_)
                                      refine r_ex hX hP 2 (pc' := 171) (st' := [(2, (Ad E 1)), (2, (Ad E 1))]) (lo' := [(0, (2, (Ad E 1))), (1, (0, 0))]) rfl ?_
                                      refine r_getKI hX hP rfl fl_12_349 hS (x := behind_109) behind_109_e ?_
                                      refine r_ex hX hP 2 (pc' := 176) (st' := [(0, (behind_109 + 1)), (2, (Ad E 1))]) (lo' := [(0, (2, (Ad E 1))), (1, (0, 0))]) rfl ?_
                                      refine r_putIK hX hP rfl fp_12_349 hS (by omega) (by omega) (fun h1174 => ?_)
                                      refine r_ex hX hP 1 (pc' := 109) (st' := []) (lo' := [(0, (2, (Ad E 1))), (1, (0, 0))]) rfl ?_
                                      refine r_eqG (X := X) (hq_up (hq_up (hq_base _ _ _ _) rfl) rfl) ?_
                                      exact ih109 (behind_109 + 1) _ h1174 (by omega) (by omega) (by omega)
                                    · skip
                                      refine r_i2l hX hP rfl (by omega) (by omega) ?_
                                      refine r_ex hX hP 1 (pc' := 156) (st' := [(1, (w1167 + 0)), (2, (Ad E 1))]) (lo' := [(0, (2, (Ad E 1))), (1, (0, 0))]) rfl ?_
                                      refine r_ldc2 hX hP rfl (v := 96) (tbg sg9 134 rfl rfl) ?_
                                      refine r_ex hX hP 1 (pc' := 160) (st' := [(1, ((w1167 + 0) - 96)), (2, (Ad E 1))]) (lo' := [(0, (2, (Ad E 1))), (1, (0, 0))]) rfl ?_
                                      refine r_hvL hX (fun w1175 w1175a w1175b w1175e => ?_)
                                      refine r_ex hX hP 1 (pc' := 166) (st' := [(1, w1175), (2, (Ad E 1))]) (lo' := [(0, (2, (Ad E 1))), (1, (0, 0))]) rfl ?_
                                      refine r_putLK hX hP rfl fp_12_364 hS (by omega) (by omega) (fun h1176 => ?_)
                                      refine r_ex hX hP 2 (pc' := 171) (st' := [(2, (Ad E 1)), (2, (Ad E 1))]) (lo' := [(0, (2, (Ad E 1))), (1, (0, 0))]) rfl ?_
                                      refine r_getKI hX hP rfl fl_12_349 hS (x := behind_109) behind_109_e ?_
                                      refine r_ex hX hP 2 (pc' := 176) (st' := [(0, (behind_109 + 1)), (2, (Ad E 1))]) (lo' := [(0, (2, (Ad E 1))), (1, (0, 0))]) rfl ?_
                                      refine r_putIK hX hP rfl fp_12_349 hS (by omega) (by omega) (fun h1177 => ?_)
                                      refine r_ex hX hP 1 (pc' := 109) (st' := []) (lo' := [(0, (2, (Ad E 1))), (1, (0, 0))]) rfl ?_
                                      refine r_eqG (X := X) (hq_up (hq_up (hq_base _ _ _ _) rfl) rfl) ?_
                                      exact ih109 (behind_109 + 1) _ h1177 (by omega) (by omega) (by omega)
                              · skip
                                refine r_if_eq hX hP rfl (tgt := 182) rfl (by omega) (by omega) (fun c1178 => ?_) (fun c1178 => ?_)
                                · skip
                                  refine r_ex hX hP 2 (pc' := 184) (st' := [(2, (Ad E 1)), (2, (Ad E 1))]) (lo' := [(0, (2, (Ad E 1))), (1, (0, 0))]) rfl ?_
                                  refine r_getKI hX hP rfl fl_12_349 hS (x := behind_109) behind_109_e ?_
                                  refine r_ex hX hP 1 (pc' := 188) (st' := [(2, (Ad E 1)), (0, behind_109), (2, (Ad E 1))]) (lo' := [(0, (2, (Ad E 1))), (1, (0, 0))]) rfl ?_
                                  refine r_getKI hX hP rfl fl_12_352 hS (x := at_8) at_8_e ?_
                                  refine r_ex hX hP 1 (pc' := 192) (st' := [(0, (behind_109 - at_8)), (2, (Ad E 1))]) (lo' := [(0, (2, (Ad E 1))), (1, (0, 0))]) rfl ?_
                                  refine r_putIK hX hP rfl fp_12_373 hS (by omega) (by omega) (fun h1179 => ?_)
                                  refine r_ex hX hP 1 (pc' := 354) (st' := []) (lo' := [(0, (2, (Ad E 1))), (1, (0, 0))]) rfl ?_
                                  exact r_retV hX hP rfl rfl (by omega) (by omega) ⟨rfl, ⟨_, (hq_up (hq_loop (hq_up (hq_up (hq_up (hq_loop (hq_up (hq_refl _ _ _) rfl) rfl) rfl) rfl) rfl) rfl) rfl).symm⟩, rfl, trivial⟩
                                · skip
                                  exfalso; omega
                            · skip
                              refine r_callS gd hX hP rfl cs_12_361 (d' := 0) (mc' := 0) (ms' := 0) (as' := [(0, 0)]) (st := []) (by decide) (by decide) (by decide) rfl rfl (Nat.le_of_ble_eq_true rfl) (c_X12_isLetter E S (hv [84, 87] [] (up (up (up (hv [83] [] (up G 1 (Ad E 1) 83 bf1) Gk8) 1 (Ad E 1) 84 at_8) 1 (Ad E 1) 82 1) 1 (Ad E 1) 87 0) Gk109) 0 (by omega) (by omega)) ?_
                              rintro _ _ _ ⟨rfl, rfl, z1180, rfl, (⟨rfl, f1181, f1182⟩ | ⟨rfl, f1183⟩)⟩
                              · skip
                                refine r_if_eq hX hP rfl (tgt := 182) rfl (by omega) (by omega) (fun c1184 => ?_) (fun c1184 => ?_)
                                · skip
                                  exfalso; omega
                                · skip
                                  refine r_ex hX hP 2 (pc' := 125) (st' := [(2, (Ad E 1)), (2, (Ad E 1))]) (lo' := [(0, (2, (Ad E 1))), (1, (0, 0))]) rfl ?_
                                  refine r_getKI hX hP rfl fl_12_349 hS (x := behind_109) behind_109_e ?_
                                  refine r_ex hX hP 1 (pc' := 129) (st' := [(2, (Ad E 1)), (0, behind_109), (2, (Ad E 1))]) (lo' := [(0, (2, (Ad E 1))), (1, (0, 0))]) rfl ?_
                                  refine r_getKI hX hP rfl fl_12_352 hS (x := at_8) at_8_e ?_
                                  refine r_ex hX hP 2 (pc' := 135) (st' := [(0, 12), (0, (behind_109 - at_8)), (2, (Ad E 1))]) (lo' := [(0, (2, (Ad E 1))), (1, (0, 0))]) rfl ?_
                                  refine r_ic_ge hX hP rfl (tgt := 163) rfl (by omega) (by omega) (by omega) (by omega) (fun c1185 => ?_) (fun c1185 => ?_)
                                  · skip
                                    refine r_ldc2 hX hP rfl (v := (-1)) (tbg sg9 135 rfl rfl) ?_
                                    refine r_putLK hX hP rfl fp_12_364 hS (by omega) (by omega) (fun h1186 => ?_)
                                    refine r_ex hX hP 2 (pc' := 171) (st' := [(2, (Ad E 1)), (2, (Ad E 1))]) (lo' := [(0, (2, (Ad E 1))), (1, (0, 0))]) rfl ?_
                                    refine r_getKI hX hP rfl fl_12_349 hS (x := behind_109) behind_109_e ?_
                                    refine r_ex hX hP 2 (pc' := 176) (st' := [(0, (behind_109 + 1)), (2, (Ad E 1))]) (lo' := [(0, (2, (Ad E 1))), (1, (0, 0))]) rfl ?_
                                    refine r_putIK hX hP rfl fp_12_349 hS (by omega) (by omega) (fun h1187 => ?_)
                                    refine r_ex hX hP 1 (pc' := 109) (st' := []) (lo' := [(0, (2, (Ad E 1))), (1, (0, 0))]) rfl ?_
                                    refine r_eqG (X := X) (hq_up (hq_up (hq_base _ _ _ _) rfl) rfl) ?_
                                    exact ih109 (behind_109 + 1) _ h1187 (by omega) (by omega) (by omega)
                                  · skip
                                    refine r_ex hX hP 1 (pc' := 139) (st' := [(2, (Ad E 1)), (2, (Ad E 1))]) (lo' := [(0, (2, (Ad E 1))), (1, (0, 0))]) rfl ?_
                                    refine r_getL hX hP rfl fl_12_364 hS (fun wf1188 wf1188e wf1188a wf1188b => ?_)
                                    refine r_ldc2 hX hP rfl (v := 32) (tbg sg9 133 rfl rfl) ?_
                                    refine r_ex hX hP 1 (pc' := 146) (st' := [(1, (wf1188 * 32)), (2, (Ad E 1))]) (lo' := [(0, (2, (Ad E 1))), (1, (0, 0))]) rfl ?_
                                    refine r_hvL hX (fun w1189 w1189a w1189b w1189e => ?_)
                                    refine r_ex hX hP 2 (pc' := 148) (st' := [(2, (Ad E 1)), (2, (Ad E 1)), (1, w1189), (2, (Ad E 1))]) (lo' := [(0, (2, (Ad E 1))), (1, (0, 0))]) rfl ?_
                                    refine r_getKI hX hP rfl fl_12_349 hS (x := behind_109) behind_109_e ?_
                                    refine r_callV gd hX hP rfl cv_12_355 hS (d' := 0) (mc' := 0) (ms' := 0) (as' := [(0, behind_109)]) (st := [(1, w1189), (2, (Ad E 1))]) (by decide) (by decide) (by decide) rfl rfl (Nat.le_of_ble_eq_true rfl) (c_X12_look E S (hv [84, 87] [] (up (up (up (hv [83] [] (up G 1 (Ad E 1) 83 bf1) Gk8) 1 (Ad E 1) 84 at_8) 1 (Ad E 1) 82 1) 1 (Ad E 1) 87 0) Gk109) behind_109 hS tf3 tf3e (by omega) (by omega)) ?_
                                    rintro _ _ _ ⟨rfl, rfl, z1190, rfl, (⟨z1190a, z1190b, f1191⟩ | ⟨rfl, f1192⟩)⟩
                                    · skip
                                      refine r_i2l hX hP rfl (by omega) (by omega) ?_
                                      refine r_ex hX hP 1 (pc' := 156) (st' := [(1, (w1189 + z1190)), (2, (Ad E 1))]) (lo' := [(0, (2, (Ad E 1))), (1, (0, 0))]) rfl ?_
                                      refine r_hvL hX (fun w1193 w1193a w1193b w1193e => ?_)
                                      refine r_ldc2 hX hP rfl (v := 96) (tbg sg9 134 rfl rfl) ?_
                                      refine r_ex hX hP 1 (pc' := 160) (st' := [(1, (w1193 - 96)), (2, (Ad E 1))]) (lo' := [(0, (2, (Ad E 1))), (1, (0, 0))]) rfl ?_
                                      refine r_hvL hX (fun w1194 w1194a w1194b w1194e => ?_)
                                      refine r_ex hX hP 1 (pc' := 166) (st' := [(1, w1194), (2, (Ad E 1))]) (lo' := [(0, (2, (Ad E 1))), (1, (0, 0))]) rfl ?_
                                      refine r_putLK hX hP rfl fp_12_364 hS (by omega) (by omega) (fun h1195 => ?_)
                                      refine r_ex hX hP 2 (pc' := 171) (st' := [(2, (Ad E 1)), (2, (Ad E 1))]) (lo' := [(0, (2, (Ad E 1))), (1, (0, 0))]) rfl ?_
                                      refine r_getKI hX hP rfl fl_12_349 hS (x := behind_109) behind_109_e ?_
                                      refine r_ex hX hP 2 (pc' := 176) (st' := [(0, (behind_109 + 1)), (2, (Ad E 1))]) (lo' := [(0, (2, (Ad E 1))), (1, (0, 0))]) rfl ?_
                                      refine r_putIK hX hP rfl fp_12_349 hS (by omega) (by omega) (fun h1196 => ?_)
                                      refine r_ex hX hP 1 (pc' := 109) (st' := []) (lo' := [(0, (2, (Ad E 1))), (1, (0, 0))]) rfl ?_
                                      refine r_eqG (X := X) (hq_up (hq_up (hq_base _ _ _ _) rfl) rfl) ?_
                                      exact ih109 (behind_109 + 1) _ h1196 (by omega) (by omega) (by omega)
                                    · skip
                                      refine r_i2l hX hP rfl (by omega) (by omega) ?_
                                      refine r_ex hX hP 1 (pc' := 156) (st' := [(1, (w1189 + 0)), (2, (Ad E 1))]) (lo' := [(0, (2, (Ad E 1))), (1, (0, 0))]) rfl ?_
                                      refine r_ldc2 hX hP rfl (v := 96) (tbg sg9 134 rfl rfl) ?_
                                      refine r_ex hX hP 1 (pc' := 160) (st' := [(1, ((w1189 + 0) - 96)), (2, (Ad E 1))]) (lo' := [(0, (2, (Ad E 1))), (1, (0, 0))]) rfl ?_
                                      refine r_hvL hX (fun w1197 w1197a w1197b w1197e => ?_)
                                      refine r_ex hX hP 1 (pc' := 166) (st' := [(1, w1197), (2, (Ad E 1))]) (lo' := [(0, (2, (Ad E 1))), (1, (0, 0))]) rfl ?_
                                      refine r_putLK hX hP rfl fp_12_364 hS (by omega) (by omega) (fun h1198 => ?_)
                                      refine r_ex hX hP 2 (pc' := 171) (st' := [(2, (Ad E 1)), (2, (Ad E 1))]) (lo' := [(0, (2, (Ad E 1))), (1, (0, 0))]) rfl ?_
                                      refine r_getKI hX hP rfl fl_12_349 hS (x := behind_109) behind_109_e ?_
                                      refine r_ex hX hP 2 (pc' := 176) (st' := [(0, (behind_109 + 1)), (2, (Ad E 1))]) (lo' := [(0, (2, (Ad E 1))), (1, (0, 0))]) rfl ?_
                                      refine r_putIK hX hP rfl fp_12_349 hS (by omega) (by omega) (fun h1199 => ?_)
                                      refine r_ex hX hP 1 (pc' := 109) (st' := []) (lo' := [(0, (2, (Ad E 1))), (1, (0, 0))]) rfl ?_
                                      refine r_eqG (X := X) (hq_up (hq_up (hq_base _ _ _ _) rfl) rfl) ?_
                                      exact ih109 (behind_109 + 1) _ h1199 (by omega) (by omega) (by omega)
                              · skip
                                refine r_if_eq hX hP rfl (tgt := 182) rfl (by omega) (by omega) (fun c1200 => ?_) (fun c1200 => ?_)
                                · skip
                                  refine r_ex hX hP 2 (pc' := 184) (st' := [(2, (Ad E 1)), (2, (Ad E 1))]) (lo' := [(0, (2, (Ad E 1))), (1, (0, 0))]) rfl ?_
                                  refine r_getKI hX hP rfl fl_12_349 hS (x := behind_109) behind_109_e ?_
                                  refine r_ex hX hP 1 (pc' := 188) (st' := [(2, (Ad E 1)), (0, behind_109), (2, (Ad E 1))]) (lo' := [(0, (2, (Ad E 1))), (1, (0, 0))]) rfl ?_
                                  refine r_getKI hX hP rfl fl_12_352 hS (x := at_8) at_8_e ?_
                                  refine r_ex hX hP 1 (pc' := 192) (st' := [(0, (behind_109 - at_8)), (2, (Ad E 1))]) (lo' := [(0, (2, (Ad E 1))), (1, (0, 0))]) rfl ?_
                                  refine r_putIK hX hP rfl fp_12_373 hS (by omega) (by omega) (fun h1201 => ?_)
                                  refine r_ex hX hP 1 (pc' := 354) (st' := []) (lo' := [(0, (2, (Ad E 1))), (1, (0, 0))]) rfl ?_
                                  exact r_retV hX hP rfl rfl (by omega) (by omega) ⟨rfl, ⟨_, (hq_up (hq_loop (hq_up (hq_up (hq_up (hq_loop (hq_up (hq_refl _ _ _) rfl) rfl) rfl) rfl) rfl) rfl) rfl).symm⟩, rfl, trivial⟩
                                · skip
                                  exfalso; omega
                        refine r_eqG (X := X) (hq_refl [84, 87] [] _) ?_
                        exact loop109 ((400 - at_8) + 1).toNat at_8 _ h1019 (by omega) (by omega) (by omega)
                    · skip
                      refine r_if_eq hX hP rfl (tgt := 198) rfl (by omega) (by omega) (fun c1202 => ?_) (fun c1202 => ?_)
                      · skip
                        refine r_ex hX hP 1 (pc' := 199) (st' := [(0, 0)]) (lo' := [(0, (2, (Ad E 1))), (1, (0, 0))]) rfl ?_
                        refine r_callS gd hX hP rfl cs_12_376 (d' := 0) (mc' := 0) (ms' := 0) (as' := [(0, 0)]) (st := []) (by decide) (by decide) (by decide) rfl rfl (Nat.le_of_ble_eq_true rfl) (c_X12_isDigit E S (up (hv [83] [] (up G 1 (Ad E 1) 83 bf1) Gk8) 1 (Ad E 1) 84 at_8) 0 (by omega) (by omega)) ?_
                        rintro _ _ _ ⟨rfl, rfl, z1203, rfl, (⟨rfl, f1204, f1205⟩ | ⟨rfl, f1206⟩)⟩
                        · skip
                          refine r_if_eq hX hP rfl (tgt := 300) rfl (by omega) (by omega) (fun c1207 => ?_) (fun c1207 => ?_)
                          · skip
                            exfalso; omega
                          · skip
                            refine r_ex hX hP 2 (pc' := 207) (st' := [(0, 0), (2, (Ad E 1))]) (lo' := [(0, (2, (Ad E 1))), (1, (0, 0))]) rfl ?_
                            refine r_putIK hX hP rfl fp_12_379 hS (by omega) (by omega) (fun h1208 => ?_)
                            have loop210 : ∀ (n : Nat) (behind_210 : Int) (Gk210 : Gh), behind_210 = (hv [84, 85] [] (up (up (hv [83] [] (up G 1 (Ad E 1) 83 bf1) Gk8) 1 (Ad E 1) 84 at_8) 1 (Ad E 1) 85 0) Gk210) 1 (Ad E 1) 84 → 0 ≤ behind_210 → behind_210 ≤ 400 → 400 - behind_210 < (n : Int) → X 0 0 210 [] [(0, (2, (Ad E 1))), (1, (0, 0))] S (hv [84, 85] [] (up (up (hv [83] [] (up G 1 (Ad E 1) 83 bf1) Gk8) 1 (Ad E 1) 84 at_8) 1 (Ad E 1) 85 0) Gk210) := by
                              intro n
                              induction n with
                              | zero => intro behind_210 Gk210 behind_210_e y210_0 y210_1 ym210; exfalso; omega
                              | succ n ih210 =>
                                intro behind_210 Gk210 behind_210_e y210_0 y210_1 ym210
                                refine r_ex hX hP 2 (pc' := 212) (st' := [(2, (Ad E 1)), (2, (Ad E 1))]) (lo' := [(0, (2, (Ad E 1))), (1, (0, 0))]) rfl ?_
                                refine r_getKI hX hP rfl fl_12_349 hS (x := behind_210) behind_210_e ?_
                                refine r_callV gd hX hP rfl cv_12_355 hS (d' := 0) (mc' := 0) (ms' := 0) (as' := [(0, behind_210)]) (st := []) (by decide) (by decide) (by decide) rfl rfl (Nat.le_of_ble_eq_true rfl) (c_X12_look E S (hv [84, 85] [] (up (up (hv [83] [] (up G 1 (Ad E 1) 83 bf1) Gk8) 1 (Ad E 1) 84 at_8) 1 (Ad E 1) 85 0) Gk210) behind_210 hS tf3 tf3e (by omega) (by omega)) ?_
                                rintro _ _ _ ⟨rfl, rfl, z1209, rfl, (⟨z1209a, z1209b, f1210⟩ | ⟨rfl, f1211⟩)⟩
                                · skip
                                  refine r_callS gd hX hP rfl cs_12_376 (d' := 0) (mc' := 0) (ms' := 0) (as' := [(0, z1209)]) (st := []) (by decide) (by decide) (by decide) rfl rfl (Nat.le_of_ble_eq_true rfl) (c_X12_isDigit E S (hv [84, 85] [] (up (up (hv [83] [] (up G 1 (Ad E 1) 83 bf1) Gk8) 1 (Ad E 1) 84 at_8) 1 (Ad E 1) 85 0) Gk210) z1209 (by omega) (by omega)) ?_
                                  rintro _ _ _ ⟨rfl, rfl, z1212, rfl, (⟨rfl, f1213, f1214⟩ | ⟨rfl, f1215⟩)⟩
                                  · skip
                                    refine r_if_eq hX hP rfl (tgt := 274) rfl (by omega) (by omega) (fun c1216 => ?_) (fun c1216 => ?_)
                                    · skip
                                      exfalso; omega
                                    · skip
                                      refine r_ex hX hP 1 (pc' := 225) (st' := [(2, (Ad E 1))]) (lo' := [(0, (2, (Ad E 1))), (1, (0, 0))]) rfl ?_
                                      refine r_getKI hX hP rfl fl_12_349 hS (x := behind_210) behind_210_e ?_
                                      refine r_ex hX hP 1 (pc' := 229) (st' := [(2, (Ad E 1)), (0, behind_210)]) (lo' := [(0, (2, (Ad E 1))), (1, (0, 0))]) rfl ?_
                                      refine r_getKI hX hP rfl fl_12_352 hS (x := at_8) at_8_e ?_
                                      refine r_ex hX hP 2 (pc' := 235) (st' := [(0, 7), (0, (behind_210 - at_8))]) (lo' := [(0, (2, (Ad E 1))), (1, (0, 0))]) rfl ?_
                                      refine r_ic_ge hX hP rfl (tgt := 261) rfl (by omega) (by omega) (by omega) (by omega) (fun c1217 => ?_) (fun c1217 => ?_)
                                      · skip
                                        refine r_ex hX hP 2 (pc' := 263) (st' := [(2, (Ad E 1)), (2, (Ad E 1))]) (lo' := [(0, (2, (Ad E 1))), (1, (0, 0))]) rfl ?_
                                        refine r_getKI hX hP rfl fl_12_349 hS (x := behind_210) behind_210_e ?_
                                        refine r_ex hX hP 2 (pc' := 268) (st' := [(0, (behind_210 + 1)), (2, (Ad E 1))]) (lo' := [(0, (2, (Ad E 1))), (1, (0, 0))]) rfl ?_
                                        refine r_putIK hX hP rfl fp_12_349 hS (by omega) (by omega) (fun h1218 => ?_)
                                        refine r_ex hX hP 1 (pc' := 210) (st' := []) (lo' := [(0, (2, (Ad E 1))), (1, (0, 0))]) rfl ?_
                                        refine r_eqG (X := X) (hq_up (hq_base _ _ _ _) rfl) ?_
                                        exact ih210 (behind_210 + 1) _ h1218 (by omega) (by omega) (by omega)
                                      · skip
                                        refine r_ex hX hP 3 (pc' := 242) (st' := [(2, (Ad E 1)), (0, 10), (2, (Ad E 1))]) (lo' := [(0, (2, (Ad E 1))), (1, (0, 0))]) rfl ?_
                                        refine r_getI hX hP rfl fl_12_379 hS (fun nf1219 nf1219e nf1219a nf1219b => ?_)
                                        refine r_ex hX hP 1 (pc' := 246) (st' := [(0, (10 * nf1219)), (2, (Ad E 1))]) (lo' := [(0, (2, (Ad E 1))), (1, (0, 0))]) rfl ?_
                                        refine r_hvI hX (fun w1220 w1220a w1220b w1220e => ?_)
                                        refine r_ex hX hP 2 (pc' := 248) (st' := [(2, (Ad E 1)), (2, (Ad E 1)), (0, w1220), (2, (Ad E 1))]) (lo' := [(0, (2, (Ad E 1))), (1, (0, 0))]) rfl ?_
                                        refine r_getKI hX hP rfl fl_12_349 hS (x := behind_210) behind_210_e ?_
                                        refine r_callV gd hX hP rfl cv_12_355 hS (d' := 0) (mc' := 0) (ms' := 0) (as' := [(0, behind_210)]) (st := [(0, w1220), (2, (Ad E 1))]) (by decide) (by decide) (by decide) rfl rfl (Nat.le_of_ble_eq_true rfl) (c_X12_look E S (hv [84, 85] [] (up (up (hv [83] [] (up G 1 (Ad E 1) 83 bf1) Gk8) 1 (Ad E 1) 84 at_8) 1 (Ad E 1) 85 0) Gk210) behind_210 hS tf3 tf3e (by omega) (by omega)) ?_
                                        rintro _ _ _ ⟨rfl, rfl, z1221, rfl, (⟨z1221a, z1221b, f1222⟩ | ⟨rfl, f1223⟩)⟩
                                        · skip
                                          refine r_ex hX hP 1 (pc' := 255) (st' := [(0, (w1220 + z1221)), (2, (Ad E 1))]) (lo' := [(0, (2, (Ad E 1))), (1, (0, 0))]) rfl ?_
                                          refine r_hvI hX (fun w1224 w1224a w1224b w1224e => ?_)
                                          refine r_ex hX hP 2 (pc' := 258) (st' := [(0, (w1224 - 48)), (2, (Ad E 1))]) (lo' := [(0, (2, (Ad E 1))), (1, (0, 0))]) rfl ?_
                                          refine r_hvI hX (fun w1225 w1225a w1225b w1225e => ?_)
                                          refine r_putIK hX hP rfl fp_12_379 hS (by omega) (by omega) (fun h1226 => ?_)
                                          refine r_ex hX hP 2 (pc' := 263) (st' := [(2, (Ad E 1)), (2, (Ad E 1))]) (lo' := [(0, (2, (Ad E 1))), (1, (0, 0))]) rfl ?_
                                          refine r_getKI hX hP rfl fl_12_349 hS (x := behind_210) behind_210_e ?_
                                          refine r_ex hX hP 2 (pc' := 268) (st' := [(0, (behind_210 + 1)), (2, (Ad E 1))]) (lo' := [(0, (2, (Ad E 1))), (1, (0, 0))]) rfl ?_
                                          refine r_putIK hX hP rfl fp_12_349 hS (by omega) (by omega) (fun h1227 => ?_)
                                          refine r_ex hX hP 1 (pc' := 210) (st' := []) (lo' := [(0, (2, (Ad E 1))), (1, (0, 0))]) rfl ?_
                                          refine r_eqG (X := X) (hq_up (hq_up (hq_base _ _ _ _) rfl) rfl) ?_
                                          exact ih210 (behind_210 + 1) _ h1227 (by omega) (by omega) (by omega)
                                        · skip
                                          refine r_ex hX hP 3 (pc' := 258) (st' := [(0, ((w1220 + 0) - 48)), (2, (Ad E 1))]) (lo' := [(0, (2, (Ad E 1))), (1, (0, 0))]) rfl ?_
                                          refine r_hvI hX (fun w1228 w1228a w1228b w1228e => ?_)
                                          refine r_putIK hX hP rfl fp_12_379 hS (by omega) (by omega) (fun h1229 => ?_)
                                          refine r_ex hX hP 2 (pc' := 263) (st' := [(2, (Ad E 1)), (2, (Ad E 1))]) (lo' := [(0, (2, (Ad E 1))), (1, (0, 0))]) rfl ?_
                                          refine r_getKI hX hP rfl fl_12_349 hS (x := behind_210) behind_210_e ?_
                                          refine r_ex hX hP 2 (pc' := 268) (st' := [(0, (behind_210 + 1)), (2, (Ad E 1))]) (lo' := [(0, (2, (Ad E 1))), (1, (0, 0))]) rfl ?_
                                          refine r_putIK hX hP rfl fp_12_349 hS (by omega) (by omega) (fun h1230 => ?_)
                                          refine r_ex hX hP 1 (pc' := 210) (st' := []) (lo' := [(0, (2, (Ad E 1))), (1, (0, 0))]) rfl ?_
                                          refine r_eqG (X := X) (hq_up (hq_up (hq_base _ _ _ _) rfl) rfl) ?_
                                          exact ih210 (behind_210 + 1) _ h1230 (by omega) (by omega) (by omega)
                                  · skip
                                    refine r_if_eq hX hP rfl (tgt := 274) rfl (by omega) (by omega) (fun c1231 => ?_) (fun c1231 => ?_)
                                    · skip
                                      refine r_ex hX hP 2 (pc' := 276) (st' := [(2, (Ad E 1)), (2, (Ad E 1))]) (lo' := [(0, (2, (Ad E 1))), (1, (0, 0))]) rfl ?_
                                      refine r_getKI hX hP rfl fl_12_349 hS (x := behind_210) behind_210_e ?_
                                      refine r_ex hX hP 1 (pc' := 280) (st' := [(2, (Ad E 1)), (0, behind_210), (2, (Ad E 1))]) (lo' := [(0, (2, (Ad E 1))), (1, (0, 0))]) rfl ?_
                                      refine r_getKI hX hP rfl fl_12_352 hS (x := at_8) at_8_e ?_
                                      refine r_ex hX hP 2 (pc' := 286) (st' := [(0, 7), (0, (behind_210 - at_8)), (2, (Ad E 1))]) (lo' := [(0, (2, (Ad E 1))), (1, (0, 0))]) rfl ?_
                                      refine r_ic_le hX hP rfl (tgt := 293) rfl (by omega) (by omega) (by omega) (by omega) (fun c1232 => ?_) (fun c1232 => ?_)
                                      · skip
                                        refine r_ex hX hP 1 (pc' := 294) (st' := [(0, 2), (2, (Ad E 1))]) (lo' := [(0, (2, (Ad E 1))), (1, (0, 0))]) rfl ?_
                                        refine r_putIK hX hP rfl fp_12_358 hS (by omega) (by omega) (fun h1233 => ?_)
                                        refine r_ex hX hP 1 (pc' := 354) (st' := []) (lo' := [(0, (2, (Ad E 1))), (1, (0, 0))]) rfl ?_
                                        exact r_retV hX hP rfl rfl (by omega) (by omega) ⟨rfl, ⟨_, (hq_up (hq_loop (hq_up (hq_up (hq_loop (hq_up (hq_refl _ _ _) rfl) rfl) rfl) rfl) rfl) rfl).symm⟩, rfl, trivial⟩
                                      · skip
                                        refine r_ex hX hP 2 (pc' := 294) (st' := [(0, 4), (2, (Ad E 1))]) (lo' := [(0, (2, (Ad E 1))), (1, (0, 0))]) rfl ?_
                                        refine r_putIK hX hP rfl fp_12_358 hS (by omega) (by omega) (fun h1234 => ?_)
                                        refine r_ex hX hP 1 (pc' := 354) (st' := []) (lo' := [(0, (2, (Ad E 1))), (1, (0, 0))]) rfl ?_
                                        exact r_retV hX hP rfl rfl (by omega) (by omega) ⟨rfl, ⟨_, (hq_up (hq_loop (hq_up (hq_up (hq_loop (hq_up (hq_refl _ _ _) rfl) rfl) rfl) rfl) rfl) rfl).symm⟩, rfl, trivial⟩
                                    · skip
                                      exfalso; omega
                                · skip
                                  refine r_callS gd hX hP rfl cs_12_376 (d' := 0) (mc' := 0) (ms' := 0) (as' := [(0, 0)]) (st := []) (by decide) (by decide) (by decide) rfl rfl (Nat.le_of_ble_eq_true rfl) (c_X12_isDigit E S (hv [84, 85] [] (up (up (hv [83] [] (up G 1 (Ad E 1) 83 bf1) Gk8) 1 (Ad E 1) 84 at_8) 1 (Ad E 1) 85 0) Gk210) 0 (by omega) (by omega)) ?_
                                  rintro _ _ _ ⟨rfl, rfl, z1235, rfl, (⟨rfl, f1236, f1237⟩ | ⟨rfl, f1238⟩)⟩
                                  · skip
                                    refine r_if_eq hX hP rfl (tgt := 274) rfl (by omega) (by omega) (fun c1239 => ?_) (fun c1239 => ?_)
                                    · skip
                                      exfalso; omega
                                    · skip
                                      refine r_ex hX hP 1 (pc' := 225) (st' := [(2, (Ad E 1))]) (lo' := [(0, (2, (Ad E 1))), (1, (0, 0))]) rfl ?_
                                      refine r_getKI hX hP rfl fl_12_349 hS (x := behind_210) behind_210_e ?_
                                      refine r_ex hX hP 1 (pc' := 229) (st' := [(2, (Ad E 1)), (0, behind_210)]) (lo' := [(0, (2, (Ad E 1))), (1, (0, 0))]) rfl ?_
                                      refine r_getKI hX hP rfl fl_12_352 hS (x := at_8) at_8_e ?_
                                      refine r_ex hX hP 2 (pc' := 235) (st' := [(0, 7), (0, (behind_210 - at_8))]) (lo' := [(0, (2, (Ad E 1))), (1, (0, 0))]) rfl ?_
                                      refine r_ic_ge hX hP rfl (tgt := 261) rfl (by omega) (by omega) (by omega) (by omega) (fun c1240 => ?_) (fun c1240 => ?_)
                                      · skip
                                        refine r_ex hX hP 2 (pc' := 263) (st' := [(2, (Ad E 1)), (2, (Ad E 1))]) (lo' := [(0, (2, (Ad E 1))), (1, (0, 0))]) rfl ?_
                                        refine r_getKI hX hP rfl fl_12_349 hS (x := behind_210) behind_210_e ?_
                                        refine r_ex hX hP 2 (pc' := 268) (st' := [(0, (behind_210 + 1)), (2, (Ad E 1))]) (lo' := [(0, (2, (Ad E 1))), (1, (0, 0))]) rfl ?_
                                        refine r_putIK hX hP rfl fp_12_349 hS (by omega) (by omega) (fun h1241 => ?_)
                                        refine r_ex hX hP 1 (pc' := 210) (st' := []) (lo' := [(0, (2, (Ad E 1))), (1, (0, 0))]) rfl ?_
                                        refine r_eqG (X := X) (hq_up (hq_base _ _ _ _) rfl) ?_
                                        exact ih210 (behind_210 + 1) _ h1241 (by omega) (by omega) (by omega)
                                      · skip
                                        refine r_ex hX hP 3 (pc' := 242) (st' := [(2, (Ad E 1)), (0, 10), (2, (Ad E 1))]) (lo' := [(0, (2, (Ad E 1))), (1, (0, 0))]) rfl ?_
                                        refine r_getI hX hP rfl fl_12_379 hS (fun nf1242 nf1242e nf1242a nf1242b => ?_)
                                        refine r_ex hX hP 1 (pc' := 246) (st' := [(0, (10 * nf1242)), (2, (Ad E 1))]) (lo' := [(0, (2, (Ad E 1))), (1, (0, 0))]) rfl ?_
                                        refine r_hvI hX (fun w1243 w1243a w1243b w1243e => ?_)
                                        refine r_ex hX hP 2 (pc' := 248) (st' := [(2, (Ad E 1)), (2, (Ad E 1)), (0, w1243), (2, (Ad E 1))]) (lo' := [(0, (2, (Ad E 1))), (1, (0, 0))]) rfl ?_
                                        refine r_getKI hX hP rfl fl_12_349 hS (x := behind_210) behind_210_e ?_
                                        refine r_callV gd hX hP rfl cv_12_355 hS (d' := 0) (mc' := 0) (ms' := 0) (as' := [(0, behind_210)]) (st := [(0, w1243), (2, (Ad E 1))]) (by decide) (by decide) (by decide) rfl rfl (Nat.le_of_ble_eq_true rfl) (c_X12_look E S (hv [84, 85] [] (up (up (hv [83] [] (up G 1 (Ad E 1) 83 bf1) Gk8) 1 (Ad E 1) 84 at_8) 1 (Ad E 1) 85 0) Gk210) behind_210 hS tf3 tf3e (by omega) (by omega)) ?_
                                        rintro _ _ _ ⟨rfl, rfl, z1244, rfl, (⟨z1244a, z1244b, f1245⟩ | ⟨rfl, f1246⟩)⟩
                                        · skip
                                          refine r_ex hX hP 1 (pc' := 255) (st' := [(0, (w1243 + z1244)), (2, (Ad E 1))]) (lo' := [(0, (2, (Ad E 1))), (1, (0, 0))]) rfl ?_
                                          refine r_hvI hX (fun w1247 w1247a w1247b w1247e => ?_)
                                          refine r_ex hX hP 2 (pc' := 258) (st' := [(0, (w1247 - 48)), (2, (Ad E 1))]) (lo' := [(0, (2, (Ad E 1))), (1, (0, 0))]) rfl ?_
                                          refine r_hvI hX (fun w1248 w1248a w1248b w1248e => ?_)
                                          refine r_putIK hX hP rfl fp_12_379 hS (by omega) (by omega) (fun h1249 => ?_)
                                          refine r_ex hX hP 2 (pc' := 263) (st' := [(2, (Ad E 1)), (2, (Ad E 1))]) (lo' := [(0, (2, (Ad E 1))), (1, (0, 0))]) rfl ?_
                                          refine r_getKI hX hP rfl fl_12_349 hS (x := behind_210) behind_210_e ?_
                                          refine r_ex hX hP 2 (pc' := 268) (st' := [(0, (behind_210 + 1)), (2, (Ad E 1))]) (lo' := [(0, (2, (Ad E 1))), (1, (0, 0))]) rfl ?_
                                          refine r_putIK hX hP rfl fp_12_349 hS (by omega) (by omega) (fun h1250 => ?_)
                                          refine r_ex hX hP 1 (pc' := 210) (st' := []) (lo' := [(0, (2, (Ad E 1))), (1, (0, 0))]) rfl ?_
                                          refine r_eqG (X := X) (hq_up (hq_up (hq_base _ _ _ _) rfl) rfl) ?_
                                          exact ih210 (behind_210 + 1) _ h1250 (by omega) (by omega) (by omega)
                                        · skip
                                          refine r_ex hX hP 3 (pc' := 258) (st' := [(0, ((w1243 + 0) - 48)), (2, (Ad E 1))]) (lo' := [(0, (2, (Ad E 1))), (1, (0, 0))]) rfl ?_
                                          refine r_hvI hX (fun w1251 w1251a w1251b w1251e => ?_)
                                          refine r_putIK hX hP rfl fp_12_379 hS (by omega) (by omega) (fun h1252 => ?_)
                                          refine r_ex hX hP 2 (pc' := 263) (st' := [(2, (Ad E 1)), (2, (Ad E 1))]) (lo' := [(0, (2, (Ad E 1))), (1, (0, 0))]) rfl ?_
                                          refine r_getKI hX hP rfl fl_12_349 hS (x := behind_210) behind_210_e ?_
                                          refine r_ex hX hP 2 (pc' := 268) (st' := [(0, (behind_210 + 1)), (2, (Ad E 1))]) (lo' := [(0, (2, (Ad E 1))), (1, (0, 0))]) rfl ?_
                                          refine r_putIK hX hP rfl fp_12_349 hS (by omega) (by omega) (fun h1253 => ?_)
                                          refine r_ex hX hP 1 (pc' := 210) (st' := []) (lo' := [(0, (2, (Ad E 1))), (1, (0, 0))]) rfl ?_
                                          refine r_eqG (X := X) (hq_up (hq_up (hq_base _ _ _ _) rfl) rfl) ?_
                                          exact ih210 (behind_210 + 1) _ h1253 (by omega) (by omega) (by omega)
                                  · skip
                                    refine r_if_eq hX hP rfl (tgt := 274) rfl (by omega) (by omega) (fun c1254 => ?_) (fun c1254 => ?_)
                                    · skip
                                      refine r_ex hX hP 2 (pc' := 276) (st' := [(2, (Ad E 1)), (2, (Ad E 1))]) (lo' := [(0, (2, (Ad E 1))), (1, (0, 0))]) rfl ?_
                                      refine r_getKI hX hP rfl fl_12_349 hS (x := behind_210) behind_210_e ?_
                                      refine r_ex hX hP 1 (pc' := 280) (st' := [(2, (Ad E 1)), (0, behind_210), (2, (Ad E 1))]) (lo' := [(0, (2, (Ad E 1))), (1, (0, 0))]) rfl ?_
                                      refine r_getKI hX hP rfl fl_12_352 hS (x := at_8) at_8_e ?_
                                      refine r_ex hX hP 2 (pc' := 286) (st' := [(0, 7), (0, (behind_210 - at_8)), (2, (Ad E 1))]) (lo' := [(0, (2, (Ad E 1))), (1, (0, 0))]) rfl ?_
                                      refine r_ic_le hX hP rfl (tgt := 293) rfl (by omega) (by omega) (by omega) (by omega) (fun c1255 => ?_) (fun c1255 => ?_)
                                      · skip
                                        refine r_ex hX hP 1 (pc' := 294) (st' := [(0, 2), (2, (Ad E 1))]) (lo' := [(0, (2, (Ad E 1))), (1, (0, 0))]) rfl ?_
                                        refine r_putIK hX hP rfl fp_12_358 hS (by omega) (by omega) (fun h1256 => ?_)
                                        refine r_ex hX hP 1 (pc' := 354) (st' := []) (lo' := [(0, (2, (Ad E 1))), (1, (0, 0))]) rfl ?_
                                        exact r_retV hX hP rfl rfl (by omega) (by omega) ⟨rfl, ⟨_, (hq_up (hq_loop (hq_up (hq_up (hq_loop (hq_up (hq_refl _ _ _) rfl) rfl) rfl) rfl) rfl) rfl).symm⟩, rfl, trivial⟩
                                      · skip
                                        refine r_ex hX hP 2 (pc' := 294) (st' := [(0, 4), (2, (Ad E 1))]) (lo' := [(0, (2, (Ad E 1))), (1, (0, 0))]) rfl ?_
                                        refine r_putIK hX hP rfl fp_12_358 hS (by omega) (by omega) (fun h1257 => ?_)
                                        refine r_ex hX hP 1 (pc' := 354) (st' := []) (lo' := [(0, (2, (Ad E 1))), (1, (0, 0))]) rfl ?_
                                        exact r_retV hX hP rfl rfl (by omega) (by omega) ⟨rfl, ⟨_, (hq_up (hq_loop (hq_up (hq_up (hq_loop (hq_up (hq_refl _ _ _) rfl) rfl) rfl) rfl) rfl) rfl).symm⟩, rfl, trivial⟩
                                    · skip
                                      exfalso; omega
                            refine r_eqG (X := X) (hq_refl [84, 85] [] _) ?_
                            exact loop210 ((400 - at_8) + 1).toNat at_8 _ h1019 (by omega) (by omega) (by omega)
                        · skip
                          refine r_if_eq hX hP rfl (tgt := 300) rfl (by omega) (by omega) (fun c1258 => ?_) (fun c1258 => ?_)
                          · skip
                            refine r_ex hX hP 2 (pc' := 302) (st' := [(2, (Ad E 1)), (2, (Ad E 1))]) (lo' := [(0, (2, (Ad E 1))), (1, (0, 0))]) rfl ?_
                            refine r_getKI hX hP rfl fl_12_352 hS (x := at_8) at_8_e ?_
                            refine r_ex hX hP 2 (pc' := 307) (st' := [(0, (at_8 + 1)), (2, (Ad E 1))]) (lo' := [(0, (2, (Ad E 1))), (1, (0, 0))]) rfl ?_
                            refine r_putIK hX hP rfl fp_12_349 hS (by omega) (by omega) (fun h1259 => ?_)
                            refine r_ex hX hP 2 (pc' := 312) (st' := [(0, 0), (2, (Ad E 1))]) (lo' := [(0, (2, (Ad E 1))), (1, (0, 0))]) rfl ?_
                            refine r_putIK hX hP rfl fp_12_379 hS (by omega) (by omega) (fun h1260 => ?_)
                            refine r_ex hX hP 3 (pc' := 319) (st' := [(0, 59), (0, 0), (2, (Ad E 1))]) (lo' := [(0, (2, (Ad E 1))), (1, (0, 0))]) rfl ?_
                            refine r_ic_eq hX hP rfl (tgt := 346) rfl (by omega) (by omega) (by omega) (by omega) (fun c1261 => ?_) (fun c1261 => ?_)
                            · skip
                              exfalso; omega
                            · skip
                              refine r_ex hX hP 2 (pc' := 325) (st' := [(0, 123), (0, 0), (2, (Ad E 1))]) (lo' := [(0, (2, (Ad E 1))), (1, (0, 0))]) rfl ?_
                              refine r_ic_eq hX hP rfl (tgt := 346) rfl (by omega) (by omega) (by omega) (by omega) (fun c1262 => ?_) (fun c1262 => ?_)
                              · skip
                                exfalso; omega
                              · skip
                                refine r_ex hX hP 2 (pc' := 331) (st' := [(0, 125), (0, 0), (2, (Ad E 1))]) (lo' := [(0, (2, (Ad E 1))), (1, (0, 0))]) rfl ?_
                                refine r_ic_eq hX hP rfl (tgt := 346) rfl (by omega) (by omega) (by omega) (by omega) (fun c1263 => ?_) (fun c1263 => ?_)
                                · skip
                                  exfalso; omega
                                · skip
                                  refine r_ex hX hP 2 (pc' := 337) (st' := [(0, 60), (0, 0), (2, (Ad E 1))]) (lo' := [(0, (2, (Ad E 1))), (1, (0, 0))]) rfl ?_
                                  refine r_ic_eq hX hP rfl (tgt := 346) rfl (by omega) (by omega) (by omega) (by omega) (fun c1264 => ?_) (fun c1264 => ?_)
                                  · skip
                                    exfalso; omega
                                  · skip
                                    refine r_ex hX hP 2 (pc' := 343) (st' := [(0, 62), (0, 0), (2, (Ad E 1))]) (lo' := [(0, (2, (Ad E 1))), (1, (0, 0))]) rfl ?_
                                    refine r_ic_ne hX hP rfl (tgt := 350) rfl (by omega) (by omega) (by omega) (by omega) (fun c1265 => ?_) (fun c1265 => ?_)
                                    · skip
                                      refine r_ex hX hP 1 (pc' := 351) (st' := [(0, 4), (2, (Ad E 1))]) (lo' := [(0, (2, (Ad E 1))), (1, (0, 0))]) rfl ?_
                                      refine r_putIK hX hP rfl fp_12_358 hS (by omega) (by omega) (fun h1266 => ?_)
                                      exact r_retV hX hP rfl rfl (by omega) (by omega) ⟨rfl, ⟨_, (hq_up (hq_up (hq_up (hq_up (hq_loop (hq_up (hq_refl _ _ _) rfl) rfl) rfl) rfl) rfl) rfl).symm⟩, rfl, trivial⟩
                                    · skip
                                      exfalso; omega
                          · skip
                            exfalso; omega
                      · skip
                        exfalso; omega
                · skip
                  refine r_ex hX hP 2 (pc' := 79) (st' := [(0, 0), (2, (Ad E 1))]) (lo' := [(0, (2, (Ad E 1)))]) rfl ?_
                  refine r_putIK hX hP rfl fp_12_358 hS (by omega) (by omega) (fun h1267 => ?_)
                  exact r_retV hX hP rfl rfl (by omega) (by omega) ⟨rfl, ⟨_, (hq_up (hq_up (hq_loop (hq_up (hq_refl _ _ _) rfl) rfl) rfl) rfl).symm⟩, rfl, trivial⟩
              · skip
                exfalso; omega
  refine r_eqG (X := X) (hq_refl [83] [] _) ?_
  exact loop8 ((400 - bf1) + 1).toNat bf1 _ h2 (by omega) (by omega) (by omega)
set_option maxRecDepth 100000 in
set_option maxHeartbeats 4000000 in
theorem c_X12_spelled (E : En) (S : Sg) (G : Gh) (a b c d e f : Int) (a_a : 0 ≤ a) (a_b : a ≤ 255) (b_a : 0 ≤ b) (b_b : b ≤ 255) (c_a : 0 ≤ c) (c_b : c ≤ 255) (d_a : 0 ≤ d) (d_b : d ≤ 255) (e_a : 0 ≤ e) (e_b : e ≤ 255) (f_a : 0 ≤ f) (f_b : f ≤ 255) : Calls E mX12_spelled [(0, a), (0, b), (0, c), (0, d), (0, e), (0, f)] S G 0 0 0 (fun r S' G' => S = S' ∧ G = G' ∧ ∃ z : Int, r = some (1, z) ∧ (-9223372036854775808) ≤ z ∧ z ≤ 9223372036854775807) := by
  refine calls_by [(0, (0, a)), (1, (0, b)), (2, (0, c)), (3, (0, d)), (4, (0, e)), (5, (0, f))] rfl rfl (Nat.le_of_ble_eq_true rfl) (fun X hX => ?_)
  have hP := hPX12_spelled
  refine r_ex hX hP 1 (pc' := 1) (st' := [(0, a)]) (lo' := [(0, (0, a)), (1, (0, b)), (2, (0, c)), (3, (0, d)), (4, (0, e)), (5, (0, f))]) rfl ?_
  refine r_i2l hX hP rfl (by omega) (by omega) ?_
  refine r_ldc2 hX hP rfl (v := 96) (tbg sg9 134 rfl rfl) ?_
  refine r_ex hX hP 3 (pc' := 10) (st' := [(1, (a - 96))]) (lo' := [(0, (0, a)), (1, (0, b)), (2, (0, c)), (3, (0, d)), (4, (0, e)), (5, (0, f)), (6, (1, (a - 96)))]) rfl ?_
  refine r_ldc2 hX hP rfl (v := 32) (tbg sg9 133 rfl rfl) ?_
  refine r_ex hX hP 2 (pc' := 15) (st' := [(0, b), (1, ((a - 96) * 32))]) (lo' := [(0, (0, a)), (1, (0, b)), (2, (0, c)), (3, (0, d)), (4, (0, e)), (5, (0, f)), (6, (1, (a - 96)))]) rfl ?_
  refine r_i2l hX hP rfl (by omega) (by omega) ?_
  refine r_ex hX hP 1 (pc' := 17) (st' := [(1, (((a - 96) * 32) + b))]) (lo' := [(0, (0, a)), (1, (0, b)), (2, (0, c)), (3, (0, d)), (4, (0, e)), (5, (0, f)), (6, (1, (a - 96)))]) rfl ?_
  refine r_ldc2 hX hP rfl (v := 96) (tbg sg9 134 rfl rfl) ?_
  refine r_ex hX hP 3 (pc' := 24) (st' := [(0, c)]) (lo' := [(0, (0, a)), (1, (0, b)), (2, (0, c)), (3, (0, d)), (4, (0, e)), (5, (0, f)), (6, (1, ((((a - 96) * 32) + b) - 96)))]) rfl ?_
  refine r_if_le hX hP rfl (tgt := 43) rfl (by omega) (by omega) (fun c1 => ?_) (fun c1 => ?_)
  · skip
    refine r_ex hX hP 3 (pc' := 48) (st' := [(0, d)]) (lo' := [(0, (0, a)), (1, (0, b)), (2, (0, c)), (3, (0, d)), (4, (0, e)), (5, (0, f)), (6, (1, ((((a - 96) * 32) + b) - 96)))]) rfl ?_
    refine r_if_le hX hP rfl (tgt := 67) rfl (by omega) (by omega) (fun c2 => ?_) (fun c2 => ?_)
    · skip
      refine r_ex hX hP 3 (pc' := 73) (st' := [(0, e)]) (lo' := [(0, (0, a)), (1, (0, b)), (2, (0, c)), (3, (0, d)), (4, (0, e)), (5, (0, f)), (6, (1, ((((a - 96) * 32) + b) - 96)))]) rfl ?_
      refine r_if_le hX hP rfl (tgt := 93) rfl (by omega) (by omega) (fun c3 => ?_) (fun c3 => ?_)
      · skip
        refine r_ex hX hP 3 (pc' := 99) (st' := [(0, f)]) (lo' := [(0, (0, a)), (1, (0, b)), (2, (0, c)), (3, (0, d)), (4, (0, e)), (5, (0, f)), (6, (1, ((((a - 96) * 32) + b) - 96)))]) rfl ?_
        refine r_if_le hX hP rfl (tgt := 119) rfl (by omega) (by omega) (fun c4 => ?_) (fun c4 => ?_)
        · skip
          refine r_ex hX hP 1 (pc' := 121) (st' := [(1, ((((a - 96) * 32) + b) - 96))]) (lo' := [(0, (0, a)), (1, (0, b)), (2, (0, c)), (3, (0, d)), (4, (0, e)), (5, (0, f)), (6, (1, ((((a - 96) * 32) + b) - 96)))]) rfl ?_
          exact r_retL hX hP rfl rfl (by omega) (by omega) ⟨rfl, rfl, ((((a - 96) * 32) + b) - 96), rfl, (by omega)⟩
        · skip
          refine r_ex hX hP 1 (pc' := 104) (st' := [(1, ((((a - 96) * 32) + b) - 96))]) (lo' := [(0, (0, a)), (1, (0, b)), (2, (0, c)), (3, (0, d)), (4, (0, e)), (5, (0, f)), (6, (1, ((((a - 96) * 32) + b) - 96)))]) rfl ?_
          refine r_ldc2 hX hP rfl (v := 32) (tbg sg9 133 rfl rfl) ?_
          refine r_ex hX hP 2 (pc' := 110) (st' := [(0, f), (1, (((((a - 96) * 32) + b) - 96) * 32))]) (lo' := [(0, (0, a)), (1, (0, b)), (2, (0, c)), (3, (0, d)), (4, (0, e)), (5, (0, f)), (6, (1, ((((a - 96) * 32) + b) - 96)))]) rfl ?_
          refine r_i2l hX hP rfl (by omega) (by omega) ?_
          refine r_ex hX hP 1 (pc' := 112) (st' := [(1, ((((((a - 96) * 32) + b) - 96) * 32) + f))]) (lo' := [(0, (0, a)), (1, (0, b)), (2, (0, c)), (3, (0, d)), (4, (0, e)), (5, (0, f)), (6, (1, ((((a - 96) * 32) + b) - 96)))]) rfl ?_
          refine r_ldc2 hX hP rfl (v := 96) (tbg sg9 134 rfl rfl) ?_
          refine r_ex hX hP 2 (pc' := 121) (st' := [(1, (((((((a - 96) * 32) + b) - 96) * 32) + f) - 96))]) (lo' := [(0, (0, a)), (1, (0, b)), (2, (0, c)), (3, (0, d)), (4, (0, e)), (5, (0, f)), (6, (1, ((((a - 96) * 32) + b) - 96)))]) rfl ?_
          exact r_retL hX hP rfl rfl (by omega) (by omega) ⟨rfl, rfl, (((((((a - 96) * 32) + b) - 96) * 32) + f) - 96), rfl, (by omega)⟩
      · skip
        refine r_ex hX hP 1 (pc' := 78) (st' := [(1, ((((a - 96) * 32) + b) - 96))]) (lo' := [(0, (0, a)), (1, (0, b)), (2, (0, c)), (3, (0, d)), (4, (0, e)), (5, (0, f)), (6, (1, ((((a - 96) * 32) + b) - 96)))]) rfl ?_
        refine r_ldc2 hX hP rfl (v := 32) (tbg sg9 133 rfl rfl) ?_
        refine r_ex hX hP 2 (pc' := 84) (st' := [(0, e), (1, (((((a - 96) * 32) + b) - 96) * 32))]) (lo' := [(0, (0, a)), (1, (0, b)), (2, (0, c)), (3, (0, d)), (4, (0, e)), (5, (0, f)), (6, (1, ((((a - 96) * 32) + b) - 96)))]) rfl ?_
        refine r_i2l hX hP rfl (by omega) (by omega) ?_
        refine r_ex hX hP 1 (pc' := 86) (st' := [(1, ((((((a - 96) * 32) + b) - 96) * 32) + e))]) (lo' := [(0, (0, a)), (1, (0, b)), (2, (0, c)), (3, (0, d)), (4, (0, e)), (5, (0, f)), (6, (1, ((((a - 96) * 32) + b) - 96)))]) rfl ?_
        refine r_ldc2 hX hP rfl (v := 96) (tbg sg9 134 rfl rfl) ?_
        refine r_ex hX hP 4 (pc' := 99) (st' := [(0, f)]) (lo' := [(0, (0, a)), (1, (0, b)), (2, (0, c)), (3, (0, d)), (4, (0, e)), (5, (0, f)), (6, (1, (((((((a - 96) * 32) + b) - 96) * 32) + e) - 96)))]) rfl ?_
        refine r_if_le hX hP rfl (tgt := 119) rfl (by omega) (by omega) (fun c5 => ?_) (fun c5 => ?_)
        · skip
          refine r_ex hX hP 1 (pc' := 121) (st' := [(1, (((((((a - 96) * 32) + b) - 96) * 32) + e) - 96))]) (lo' := [(0, (0, a)), (1, (0, b)), (2, (0, c)), (3, (0, d)), (4, (0, e)), (5, (0, f)), (6, (1, (((((((a - 96) * 32) + b) - 96) * 32) + e) - 96)))]) rfl ?_
          exact r_retL hX hP rfl rfl (by omega) (by omega) ⟨rfl, rfl, (((((((a - 96) * 32) + b) - 96) * 32) + e) - 96), rfl, (by omega)⟩
        · skip
          refine r_ex hX hP 1 (pc' := 104) (st' := [(1, (((((((a - 96) * 32) + b) - 96) * 32) + e) - 96))]) (lo' := [(0, (0, a)), (1, (0, b)), (2, (0, c)), (3, (0, d)), (4, (0, e)), (5, (0, f)), (6, (1, (((((((a - 96) * 32) + b) - 96) * 32) + e) - 96)))]) rfl ?_
          refine r_ldc2 hX hP rfl (v := 32) (tbg sg9 133 rfl rfl) ?_
          refine r_ex hX hP 2 (pc' := 110) (st' := [(0, f), (1, ((((((((a - 96) * 32) + b) - 96) * 32) + e) - 96) * 32))]) (lo' := [(0, (0, a)), (1, (0, b)), (2, (0, c)), (3, (0, d)), (4, (0, e)), (5, (0, f)), (6, (1, (((((((a - 96) * 32) + b) - 96) * 32) + e) - 96)))]) rfl ?_
          refine r_i2l hX hP rfl (by omega) (by omega) ?_
          refine r_ex hX hP 1 (pc' := 112) (st' := [(1, (((((((((a - 96) * 32) + b) - 96) * 32) + e) - 96) * 32) + f))]) (lo' := [(0, (0, a)), (1, (0, b)), (2, (0, c)), (3, (0, d)), (4, (0, e)), (5, (0, f)), (6, (1, (((((((a - 96) * 32) + b) - 96) * 32) + e) - 96)))]) rfl ?_
          refine r_ldc2 hX hP rfl (v := 96) (tbg sg9 134 rfl rfl) ?_
          refine r_ex hX hP 2 (pc' := 121) (st' := [(1, ((((((((((a - 96) * 32) + b) - 96) * 32) + e) - 96) * 32) + f) - 96))]) (lo' := [(0, (0, a)), (1, (0, b)), (2, (0, c)), (3, (0, d)), (4, (0, e)), (5, (0, f)), (6, (1, (((((((a - 96) * 32) + b) - 96) * 32) + e) - 96)))]) rfl ?_
          exact r_retL hX hP rfl rfl (by omega) (by omega) ⟨rfl, rfl, ((((((((((a - 96) * 32) + b) - 96) * 32) + e) - 96) * 32) + f) - 96), rfl, (by omega)⟩
    · skip
      refine r_ex hX hP 1 (pc' := 53) (st' := [(1, ((((a - 96) * 32) + b) - 96))]) (lo' := [(0, (0, a)), (1, (0, b)), (2, (0, c)), (3, (0, d)), (4, (0, e)), (5, (0, f)), (6, (1, ((((a - 96) * 32) + b) - 96)))]) rfl ?_
      refine r_ldc2 hX hP rfl (v := 32) (tbg sg9 133 rfl rfl) ?_
      refine r_ex hX hP 2 (pc' := 58) (st' := [(0, d), (1, (((((a - 96) * 32) + b) - 96) * 32))]) (lo' := [(0, (0, a)), (1, (0, b)), (2, (0, c)), (3, (0, d)), (4, (0, e)), (5, (0, f)), (6, (1, ((((a - 96) * 32) + b) - 96)))]) rfl ?_
      refine r_i2l hX hP rfl (by omega) (by omega) ?_
      refine r_ex hX hP 1 (pc' := 60) (st' := [(1, ((((((a - 96) * 32) + b) - 96) * 32) + d))]) (lo' := [(0, (0, a)), (1, (0, b)), (2, (0, c)), (3, (0, d)), (4, (0, e)), (5, (0, f)), (6, (1, ((((a - 96) * 32) + b) - 96)))]) rfl ?_
      refine r_ldc2 hX hP rfl (v := 96) (tbg sg9 134 rfl rfl) ?_
      refine r_ex hX hP 4 (pc' := 73) (st' := [(0, e)]) (lo' := [(0, (0, a)), (1, (0, b)), (2, (0, c)), (3, (0, d)), (4, (0, e)), (5, (0, f)), (6, (1, (((((((a - 96) * 32) + b) - 96) * 32) + d) - 96)))]) rfl ?_
      refine r_if_le hX hP rfl (tgt := 93) rfl (by omega) (by omega) (fun c6 => ?_) (fun c6 => ?_)
      · skip
        refine r_ex hX hP 3 (pc' := 99) (st' := [(0, f)]) (lo' := [(0, (0, a)), (1, (0, b)), (2, (0, c)), (3, (0, d)), (4, (0, e)), (5, (0, f)), (6, (1, (((((((a - 96) * 32) + b) - 96) * 32) + d) - 96)))]) rfl ?_
        refine r_if_le hX hP rfl (tgt := 119) rfl (by omega) (by omega) (fun c7 => ?_) (fun c7 => ?_)
        · skip
          refine r_ex hX hP 1 (pc' := 121) (st' := [(1, (((((((a - 96) * 32) + b) - 96) * 32) + d) - 96))]) (lo' := [(0, (0, a)), (1, (0, b)), (2, (0, c)), (3, (0, d)), (4, (0, e)), (5, (0, f)), (6, (1, (((((((a - 96) * 32) + b) - 96) * 32) + d) - 96)))]) rfl ?_
          exact r_retL hX hP rfl rfl (by omega) (by omega) ⟨rfl, rfl, (((((((a - 96) * 32) + b) - 96) * 32) + d) - 96), rfl, (by omega)⟩
        · skip
          refine r_ex hX hP 1 (pc' := 104) (st' := [(1, (((((((a - 96) * 32) + b) - 96) * 32) + d) - 96))]) (lo' := [(0, (0, a)), (1, (0, b)), (2, (0, c)), (3, (0, d)), (4, (0, e)), (5, (0, f)), (6, (1, (((((((a - 96) * 32) + b) - 96) * 32) + d) - 96)))]) rfl ?_
          refine r_ldc2 hX hP rfl (v := 32) (tbg sg9 133 rfl rfl) ?_
          refine r_ex hX hP 2 (pc' := 110) (st' := [(0, f), (1, ((((((((a - 96) * 32) + b) - 96) * 32) + d) - 96) * 32))]) (lo' := [(0, (0, a)), (1, (0, b)), (2, (0, c)), (3, (0, d)), (4, (0, e)), (5, (0, f)), (6, (1, (((((((a - 96) * 32) + b) - 96) * 32) + d) - 96)))]) rfl ?_
          refine r_i2l hX hP rfl (by omega) (by omega) ?_
          refine r_ex hX hP 1 (pc' := 112) (st' := [(1, (((((((((a - 96) * 32) + b) - 96) * 32) + d) - 96) * 32) + f))]) (lo' := [(0, (0, a)), (1, (0, b)), (2, (0, c)), (3, (0, d)), (4, (0, e)), (5, (0, f)), (6, (1, (((((((a - 96) * 32) + b) - 96) * 32) + d) - 96)))]) rfl ?_
          refine r_ldc2 hX hP rfl (v := 96) (tbg sg9 134 rfl rfl) ?_
          refine r_ex hX hP 2 (pc' := 121) (st' := [(1, ((((((((((a - 96) * 32) + b) - 96) * 32) + d) - 96) * 32) + f) - 96))]) (lo' := [(0, (0, a)), (1, (0, b)), (2, (0, c)), (3, (0, d)), (4, (0, e)), (5, (0, f)), (6, (1, (((((((a - 96) * 32) + b) - 96) * 32) + d) - 96)))]) rfl ?_
          exact r_retL hX hP rfl rfl (by omega) (by omega) ⟨rfl, rfl, ((((((((((a - 96) * 32) + b) - 96) * 32) + d) - 96) * 32) + f) - 96), rfl, (by omega)⟩
      · skip
        refine r_ex hX hP 1 (pc' := 78) (st' := [(1, (((((((a - 96) * 32) + b) - 96) * 32) + d) - 96))]) (lo' := [(0, (0, a)), (1, (0, b)), (2, (0, c)), (3, (0, d)), (4, (0, e)), (5, (0, f)), (6, (1, (((((((a - 96) * 32) + b) - 96) * 32) + d) - 96)))]) rfl ?_
        refine r_ldc2 hX hP rfl (v := 32) (tbg sg9 133 rfl rfl) ?_
        refine r_ex hX hP 2 (pc' := 84) (st' := [(0, e), (1, ((((((((a - 96) * 32) + b) - 96) * 32) + d) - 96) * 32))]) (lo' := [(0, (0, a)), (1, (0, b)), (2, (0, c)), (3, (0, d)), (4, (0, e)), (5, (0, f)), (6, (1, (((((((a - 96) * 32) + b) - 96) * 32) + d) - 96)))]) rfl ?_
        refine r_i2l hX hP rfl (by omega) (by omega) ?_
        refine r_ex hX hP 1 (pc' := 86) (st' := [(1, (((((((((a - 96) * 32) + b) - 96) * 32) + d) - 96) * 32) + e))]) (lo' := [(0, (0, a)), (1, (0, b)), (2, (0, c)), (3, (0, d)), (4, (0, e)), (5, (0, f)), (6, (1, (((((((a - 96) * 32) + b) - 96) * 32) + d) - 96)))]) rfl ?_
        refine r_ldc2 hX hP rfl (v := 96) (tbg sg9 134 rfl rfl) ?_
        refine r_ex hX hP 4 (pc' := 99) (st' := [(0, f)]) (lo' := [(0, (0, a)), (1, (0, b)), (2, (0, c)), (3, (0, d)), (4, (0, e)), (5, (0, f)), (6, (1, ((((((((((a - 96) * 32) + b) - 96) * 32) + d) - 96) * 32) + e) - 96)))]) rfl ?_
        refine r_if_le hX hP rfl (tgt := 119) rfl (by omega) (by omega) (fun c8 => ?_) (fun c8 => ?_)
        · skip
          refine r_ex hX hP 1 (pc' := 121) (st' := [(1, ((((((((((a - 96) * 32) + b) - 96) * 32) + d) - 96) * 32) + e) - 96))]) (lo' := [(0, (0, a)), (1, (0, b)), (2, (0, c)), (3, (0, d)), (4, (0, e)), (5, (0, f)), (6, (1, ((((((((((a - 96) * 32) + b) - 96) * 32) + d) - 96) * 32) + e) - 96)))]) rfl ?_
          exact r_retL hX hP rfl rfl (by omega) (by omega) ⟨rfl, rfl, ((((((((((a - 96) * 32) + b) - 96) * 32) + d) - 96) * 32) + e) - 96), rfl, (by omega)⟩
        · skip
          refine r_ex hX hP 1 (pc' := 104) (st' := [(1, ((((((((((a - 96) * 32) + b) - 96) * 32) + d) - 96) * 32) + e) - 96))]) (lo' := [(0, (0, a)), (1, (0, b)), (2, (0, c)), (3, (0, d)), (4, (0, e)), (5, (0, f)), (6, (1, ((((((((((a - 96) * 32) + b) - 96) * 32) + d) - 96) * 32) + e) - 96)))]) rfl ?_
          refine r_ldc2 hX hP rfl (v := 32) (tbg sg9 133 rfl rfl) ?_
          refine r_ex hX hP 2 (pc' := 110) (st' := [(0, f), (1, (((((((((((a - 96) * 32) + b) - 96) * 32) + d) - 96) * 32) + e) - 96) * 32))]) (lo' := [(0, (0, a)), (1, (0, b)), (2, (0, c)), (3, (0, d)), (4, (0, e)), (5, (0, f)), (6, (1, ((((((((((a - 96) * 32) + b) - 96) * 32) + d) - 96) * 32) + e) - 96)))]) rfl ?_
          refine r_i2l hX hP rfl (by omega) (by omega) ?_
          refine r_ex hX hP 1 (pc' := 112) (st' := [(1, ((((((((((((a - 96) * 32) + b) - 96) * 32) + d) - 96) * 32) + e) - 96) * 32) + f))]) (lo' := [(0, (0, a)), (1, (0, b)), (2, (0, c)), (3, (0, d)), (4, (0, e)), (5, (0, f)), (6, (1, ((((((((((a - 96) * 32) + b) - 96) * 32) + d) - 96) * 32) + e) - 96)))]) rfl ?_
          refine r_ldc2 hX hP rfl (v := 96) (tbg sg9 134 rfl rfl) ?_
          refine r_ex hX hP 2 (pc' := 121) (st' := [(1, (((((((((((((a - 96) * 32) + b) - 96) * 32) + d) - 96) * 32) + e) - 96) * 32) + f) - 96))]) (lo' := [(0, (0, a)), (1, (0, b)), (2, (0, c)), (3, (0, d)), (4, (0, e)), (5, (0, f)), (6, (1, ((((((((((a - 96) * 32) + b) - 96) * 32) + d) - 96) * 32) + e) - 96)))]) rfl ?_
          exact r_retL hX hP rfl rfl (by omega) (by omega) ⟨rfl, rfl, (((((((((((((a - 96) * 32) + b) - 96) * 32) + d) - 96) * 32) + e) - 96) * 32) + f) - 96), rfl, (by omega)⟩
  · skip
    refine r_ex hX hP 1 (pc' := 29) (st' := [(1, ((((a - 96) * 32) + b) - 96))]) (lo' := [(0, (0, a)), (1, (0, b)), (2, (0, c)), (3, (0, d)), (4, (0, e)), (5, (0, f)), (6, (1, ((((a - 96) * 32) + b) - 96)))]) rfl ?_
    refine r_ldc2 hX hP rfl (v := 32) (tbg sg9 133 rfl rfl) ?_
    refine r_ex hX hP 2 (pc' := 34) (st' := [(0, c), (1, (((((a - 96) * 32) + b) - 96) * 32))]) (lo' := [(0, (0, a)), (1, (0, b)), (2, (0, c)), (3, (0, d)), (4, (0, e)), (5, (0, f)), (6, (1, ((((a - 96) * 32) + b) - 96)))]) rfl ?_
    refine r_i2l hX hP rfl (by omega) (by omega) ?_
    refine r_ex hX hP 1 (pc' := 36) (st' := [(1, ((((((a - 96) * 32) + b) - 96) * 32) + c))]) (lo' := [(0, (0, a)), (1, (0, b)), (2, (0, c)), (3, (0, d)), (4, (0, e)), (5, (0, f)), (6, (1, ((((a - 96) * 32) + b) - 96)))]) rfl ?_
    refine r_ldc2 hX hP rfl (v := 96) (tbg sg9 134 rfl rfl) ?_
    refine r_ex hX hP 4 (pc' := 48) (st' := [(0, d)]) (lo' := [(0, (0, a)), (1, (0, b)), (2, (0, c)), (3, (0, d)), (4, (0, e)), (5, (0, f)), (6, (1, (((((((a - 96) * 32) + b) - 96) * 32) + c) - 96)))]) rfl ?_
    refine r_if_le hX hP rfl (tgt := 67) rfl (by omega) (by omega) (fun c9 => ?_) (fun c9 => ?_)
    · skip
      refine r_ex hX hP 3 (pc' := 73) (st' := [(0, e)]) (lo' := [(0, (0, a)), (1, (0, b)), (2, (0, c)), (3, (0, d)), (4, (0, e)), (5, (0, f)), (6, (1, (((((((a - 96) * 32) + b) - 96) * 32) + c) - 96)))]) rfl ?_
      refine r_if_le hX hP rfl (tgt := 93) rfl (by omega) (by omega) (fun c10 => ?_) (fun c10 => ?_)
      · skip
        refine r_ex hX hP 3 (pc' := 99) (st' := [(0, f)]) (lo' := [(0, (0, a)), (1, (0, b)), (2, (0, c)), (3, (0, d)), (4, (0, e)), (5, (0, f)), (6, (1, (((((((a - 96) * 32) + b) - 96) * 32) + c) - 96)))]) rfl ?_
        refine r_if_le hX hP rfl (tgt := 119) rfl (by omega) (by omega) (fun c11 => ?_) (fun c11 => ?_)
        · skip
          refine r_ex hX hP 1 (pc' := 121) (st' := [(1, (((((((a - 96) * 32) + b) - 96) * 32) + c) - 96))]) (lo' := [(0, (0, a)), (1, (0, b)), (2, (0, c)), (3, (0, d)), (4, (0, e)), (5, (0, f)), (6, (1, (((((((a - 96) * 32) + b) - 96) * 32) + c) - 96)))]) rfl ?_
          exact r_retL hX hP rfl rfl (by omega) (by omega) ⟨rfl, rfl, (((((((a - 96) * 32) + b) - 96) * 32) + c) - 96), rfl, (by omega)⟩
        · skip
          refine r_ex hX hP 1 (pc' := 104) (st' := [(1, (((((((a - 96) * 32) + b) - 96) * 32) + c) - 96))]) (lo' := [(0, (0, a)), (1, (0, b)), (2, (0, c)), (3, (0, d)), (4, (0, e)), (5, (0, f)), (6, (1, (((((((a - 96) * 32) + b) - 96) * 32) + c) - 96)))]) rfl ?_
          refine r_ldc2 hX hP rfl (v := 32) (tbg sg9 133 rfl rfl) ?_
          refine r_ex hX hP 2 (pc' := 110) (st' := [(0, f), (1, ((((((((a - 96) * 32) + b) - 96) * 32) + c) - 96) * 32))]) (lo' := [(0, (0, a)), (1, (0, b)), (2, (0, c)), (3, (0, d)), (4, (0, e)), (5, (0, f)), (6, (1, (((((((a - 96) * 32) + b) - 96) * 32) + c) - 96)))]) rfl ?_
          refine r_i2l hX hP rfl (by omega) (by omega) ?_
          refine r_ex hX hP 1 (pc' := 112) (st' := [(1, (((((((((a - 96) * 32) + b) - 96) * 32) + c) - 96) * 32) + f))]) (lo' := [(0, (0, a)), (1, (0, b)), (2, (0, c)), (3, (0, d)), (4, (0, e)), (5, (0, f)), (6, (1, (((((((a - 96) * 32) + b) - 96) * 32) + c) - 96)))]) rfl ?_
          refine r_ldc2 hX hP rfl (v := 96) (tbg sg9 134 rfl rfl) ?_
          refine r_ex hX hP 2 (pc' := 121) (st' := [(1, ((((((((((a - 96) * 32) + b) - 96) * 32) + c) - 96) * 32) + f) - 96))]) (lo' := [(0, (0, a)), (1, (0, b)), (2, (0, c)), (3, (0, d)), (4, (0, e)), (5, (0, f)), (6, (1, (((((((a - 96) * 32) + b) - 96) * 32) + c) - 96)))]) rfl ?_
          exact r_retL hX hP rfl rfl (by omega) (by omega) ⟨rfl, rfl, ((((((((((a - 96) * 32) + b) - 96) * 32) + c) - 96) * 32) + f) - 96), rfl, (by omega)⟩
      · skip
        refine r_ex hX hP 1 (pc' := 78) (st' := [(1, (((((((a - 96) * 32) + b) - 96) * 32) + c) - 96))]) (lo' := [(0, (0, a)), (1, (0, b)), (2, (0, c)), (3, (0, d)), (4, (0, e)), (5, (0, f)), (6, (1, (((((((a - 96) * 32) + b) - 96) * 32) + c) - 96)))]) rfl ?_
        refine r_ldc2 hX hP rfl (v := 32) (tbg sg9 133 rfl rfl) ?_
        refine r_ex hX hP 2 (pc' := 84) (st' := [(0, e), (1, ((((((((a - 96) * 32) + b) - 96) * 32) + c) - 96) * 32))]) (lo' := [(0, (0, a)), (1, (0, b)), (2, (0, c)), (3, (0, d)), (4, (0, e)), (5, (0, f)), (6, (1, (((((((a - 96) * 32) + b) - 96) * 32) + c) - 96)))]) rfl ?_
        refine r_i2l hX hP rfl (by omega) (by omega) ?_
        refine r_ex hX hP 1 (pc' := 86) (st' := [(1, (((((((((a - 96) * 32) + b) - 96) * 32) + c) - 96) * 32) + e))]) (lo' := [(0, (0, a)), (1, (0, b)), (2, (0, c)), (3, (0, d)), (4, (0, e)), (5, (0, f)), (6, (1, (((((((a - 96) * 32) + b) - 96) * 32) + c) - 96)))]) rfl ?_
        refine r_ldc2 hX hP rfl (v := 96) (tbg sg9 134 rfl rfl) ?_
        refine r_ex hX hP 4 (pc' := 99) (st' := [(0, f)]) (lo' := [(0, (0, a)), (1, (0, b)), (2, (0, c)), (3, (0, d)), (4, (0, e)), (5, (0, f)), (6, (1, ((((((((((a - 96) * 32) + b) - 96) * 32) + c) - 96) * 32) + e) - 96)))]) rfl ?_
        refine r_if_le hX hP rfl (tgt := 119) rfl (by omega) (by omega) (fun c12 => ?_) (fun c12 => ?_)
        · skip
          refine r_ex hX hP 1 (pc' := 121) (st' := [(1, ((((((((((a - 96) * 32) + b) - 96) * 32) + c) - 96) * 32) + e) - 96))]) (lo' := [(0, (0, a)), (1, (0, b)), (2, (0, c)), (3, (0, d)), (4, (0, e)), (5, (0, f)), (6, (1, ((((((((((a - 96) * 32) + b) - 96) * 32) + c) - 96) * 32) + e) - 96)))]) rfl ?_
          exact r_retL hX hP rfl rfl (by omega) (by omega) ⟨rfl, rfl, ((((((((((a - 96) * 32) + b) - 96) * 32) + c) - 96) * 32) + e) - 96), rfl, (by omega)⟩
        · skip
          refine r_ex hX hP 1 (pc' := 104) (st' := [(1, ((((((((((a - 96) * 32) + b) - 96) * 32) + c) - 96) * 32) + e) - 96))]) (lo' := [(0, (0, a)), (1, (0, b)), (2, (0, c)), (3, (0, d)), (4, (0, e)), (5, (0, f)), (6, (1, ((((((((((a - 96) * 32) + b) - 96) * 32) + c) - 96) * 32) + e) - 96)))]) rfl ?_
          refine r_ldc2 hX hP rfl (v := 32) (tbg sg9 133 rfl rfl) ?_
          refine r_ex hX hP 2 (pc' := 110) (st' := [(0, f), (1, (((((((((((a - 96) * 32) + b) - 96) * 32) + c) - 96) * 32) + e) - 96) * 32))]) (lo' := [(0, (0, a)), (1, (0, b)), (2, (0, c)), (3, (0, d)), (4, (0, e)), (5, (0, f)), (6, (1, ((((((((((a - 96) * 32) + b) - 96) * 32) + c) - 96) * 32) + e) - 96)))]) rfl ?_
          refine r_i2l hX hP rfl (by omega) (by omega) ?_
          refine r_ex hX hP 1 (pc' := 112) (st' := [(1, ((((((((((((a - 96) * 32) + b) - 96) * 32) + c) - 96) * 32) + e) - 96) * 32) + f))]) (lo' := [(0, (0, a)), (1, (0, b)), (2, (0, c)), (3, (0, d)), (4, (0, e)), (5, (0, f)), (6, (1, ((((((((((a - 96) * 32) + b) - 96) * 32) + c) - 96) * 32) + e) - 96)))]) rfl ?_
          refine r_ldc2 hX hP rfl (v := 96) (tbg sg9 134 rfl rfl) ?_
          refine r_ex hX hP 2 (pc' := 121) (st' := [(1, (((((((((((((a - 96) * 32) + b) - 96) * 32) + c) - 96) * 32) + e) - 96) * 32) + f) - 96))]) (lo' := [(0, (0, a)), (1, (0, b)), (2, (0, c)), (3, (0, d)), (4, (0, e)), (5, (0, f)), (6, (1, ((((((((((a - 96) * 32) + b) - 96) * 32) + c) - 96) * 32) + e) - 96)))]) rfl ?_
          exact r_retL hX hP rfl rfl (by omega) (by omega) ⟨rfl, rfl, (((((((((((((a - 96) * 32) + b) - 96) * 32) + c) - 96) * 32) + e) - 96) * 32) + f) - 96), rfl, (by omega)⟩
    · skip
      refine r_ex hX hP 1 (pc' := 53) (st' := [(1, (((((((a - 96) * 32) + b) - 96) * 32) + c) - 96))]) (lo' := [(0, (0, a)), (1, (0, b)), (2, (0, c)), (3, (0, d)), (4, (0, e)), (5, (0, f)), (6, (1, (((((((a - 96) * 32) + b) - 96) * 32) + c) - 96)))]) rfl ?_
      refine r_ldc2 hX hP rfl (v := 32) (tbg sg9 133 rfl rfl) ?_
      refine r_ex hX hP 2 (pc' := 58) (st' := [(0, d), (1, ((((((((a - 96) * 32) + b) - 96) * 32) + c) - 96) * 32))]) (lo' := [(0, (0, a)), (1, (0, b)), (2, (0, c)), (3, (0, d)), (4, (0, e)), (5, (0, f)), (6, (1, (((((((a - 96) * 32) + b) - 96) * 32) + c) - 96)))]) rfl ?_
      refine r_i2l hX hP rfl (by omega) (by omega) ?_
      refine r_ex hX hP 1 (pc' := 60) (st' := [(1, (((((((((a - 96) * 32) + b) - 96) * 32) + c) - 96) * 32) + d))]) (lo' := [(0, (0, a)), (1, (0, b)), (2, (0, c)), (3, (0, d)), (4, (0, e)), (5, (0, f)), (6, (1, (((((((a - 96) * 32) + b) - 96) * 32) + c) - 96)))]) rfl ?_
      refine r_ldc2 hX hP rfl (v := 96) (tbg sg9 134 rfl rfl) ?_
      refine r_ex hX hP 4 (pc' := 73) (st' := [(0, e)]) (lo' := [(0, (0, a)), (1, (0, b)), (2, (0, c)), (3, (0, d)), (4, (0, e)), (5, (0, f)), (6, (1, ((((((((((a - 96) * 32) + b) - 96) * 32) + c) - 96) * 32) + d) - 96)))]) rfl ?_
      refine r_if_le hX hP rfl (tgt := 93) rfl (by omega) (by omega) (fun c13 => ?_) (fun c13 => ?_)
      · skip
        refine r_ex hX hP 3 (pc' := 99) (st' := [(0, f)]) (lo' := [(0, (0, a)), (1, (0, b)), (2, (0, c)), (3, (0, d)), (4, (0, e)), (5, (0, f)), (6, (1, ((((((((((a - 96) * 32) + b) - 96) * 32) + c) - 96) * 32) + d) - 96)))]) rfl ?_
        refine r_if_le hX hP rfl (tgt := 119) rfl (by omega) (by omega) (fun c14 => ?_) (fun c14 => ?_)
        · skip
          refine r_ex hX hP 1 (pc' := 121) (st' := [(1, ((((((((((a - 96) * 32) + b) - 96) * 32) + c) - 96) * 32) + d) - 96))]) (lo' := [(0, (0, a)), (1, (0, b)), (2, (0, c)), (3, (0, d)), (4, (0, e)), (5, (0, f)), (6, (1, ((((((((((a - 96) * 32) + b) - 96) * 32) + c) - 96) * 32) + d) - 96)))]) rfl ?_
          exact r_retL hX hP rfl rfl (by omega) (by omega) ⟨rfl, rfl, ((((((((((a - 96) * 32) + b) - 96) * 32) + c) - 96) * 32) + d) - 96), rfl, (by omega)⟩
        · skip
          refine r_ex hX hP 1 (pc' := 104) (st' := [(1, ((((((((((a - 96) * 32) + b) - 96) * 32) + c) - 96) * 32) + d) - 96))]) (lo' := [(0, (0, a)), (1, (0, b)), (2, (0, c)), (3, (0, d)), (4, (0, e)), (5, (0, f)), (6, (1, ((((((((((a - 96) * 32) + b) - 96) * 32) + c) - 96) * 32) + d) - 96)))]) rfl ?_
          refine r_ldc2 hX hP rfl (v := 32) (tbg sg9 133 rfl rfl) ?_
          refine r_ex hX hP 2 (pc' := 110) (st' := [(0, f), (1, (((((((((((a - 96) * 32) + b) - 96) * 32) + c) - 96) * 32) + d) - 96) * 32))]) (lo' := [(0, (0, a)), (1, (0, b)), (2, (0, c)), (3, (0, d)), (4, (0, e)), (5, (0, f)), (6, (1, ((((((((((a - 96) * 32) + b) - 96) * 32) + c) - 96) * 32) + d) - 96)))]) rfl ?_
          refine r_i2l hX hP rfl (by omega) (by omega) ?_
          refine r_ex hX hP 1 (pc' := 112) (st' := [(1, ((((((((((((a - 96) * 32) + b) - 96) * 32) + c) - 96) * 32) + d) - 96) * 32) + f))]) (lo' := [(0, (0, a)), (1, (0, b)), (2, (0, c)), (3, (0, d)), (4, (0, e)), (5, (0, f)), (6, (1, ((((((((((a - 96) * 32) + b) - 96) * 32) + c) - 96) * 32) + d) - 96)))]) rfl ?_
          refine r_ldc2 hX hP rfl (v := 96) (tbg sg9 134 rfl rfl) ?_
          refine r_ex hX hP 2 (pc' := 121) (st' := [(1, (((((((((((((a - 96) * 32) + b) - 96) * 32) + c) - 96) * 32) + d) - 96) * 32) + f) - 96))]) (lo' := [(0, (0, a)), (1, (0, b)), (2, (0, c)), (3, (0, d)), (4, (0, e)), (5, (0, f)), (6, (1, ((((((((((a - 96) * 32) + b) - 96) * 32) + c) - 96) * 32) + d) - 96)))]) rfl ?_
          exact r_retL hX hP rfl rfl (by omega) (by omega) ⟨rfl, rfl, (((((((((((((a - 96) * 32) + b) - 96) * 32) + c) - 96) * 32) + d) - 96) * 32) + f) - 96), rfl, (by omega)⟩
      · skip
        refine r_ex hX hP 1 (pc' := 78) (st' := [(1, ((((((((((a - 96) * 32) + b) - 96) * 32) + c) - 96) * 32) + d) - 96))]) (lo' := [(0, (0, a)), (1, (0, b)), (2, (0, c)), (3, (0, d)), (4, (0, e)), (5, (0, f)), (6, (1, ((((((((((a - 96) * 32) + b) - 96) * 32) + c) - 96) * 32) + d) - 96)))]) rfl ?_
        refine r_ldc2 hX hP rfl (v := 32) (tbg sg9 133 rfl rfl) ?_
        refine r_ex hX hP 2 (pc' := 84) (st' := [(0, e), (1, (((((((((((a - 96) * 32) + b) - 96) * 32) + c) - 96) * 32) + d) - 96) * 32))]) (lo' := [(0, (0, a)), (1, (0, b)), (2, (0, c)), (3, (0, d)), (4, (0, e)), (5, (0, f)), (6, (1, ((((((((((a - 96) * 32) + b) - 96) * 32) + c) - 96) * 32) + d) - 96)))]) rfl ?_
        refine r_i2l hX hP rfl (by omega) (by omega) ?_
        refine r_ex hX hP 1 (pc' := 86) (st' := [(1, ((((((((((((a - 96) * 32) + b) - 96) * 32) + c) - 96) * 32) + d) - 96) * 32) + e))]) (lo' := [(0, (0, a)), (1, (0, b)), (2, (0, c)), (3, (0, d)), (4, (0, e)), (5, (0, f)), (6, (1, ((((((((((a - 96) * 32) + b) - 96) * 32) + c) - 96) * 32) + d) - 96)))]) rfl ?_
        refine r_ldc2 hX hP rfl (v := 96) (tbg sg9 134 rfl rfl) ?_
        refine r_ex hX hP 4 (pc' := 99) (st' := [(0, f)]) (lo' := [(0, (0, a)), (1, (0, b)), (2, (0, c)), (3, (0, d)), (4, (0, e)), (5, (0, f)), (6, (1, (((((((((((((a - 96) * 32) + b) - 96) * 32) + c) - 96) * 32) + d) - 96) * 32) + e) - 96)))]) rfl ?_
        refine r_if_le hX hP rfl (tgt := 119) rfl (by omega) (by omega) (fun c15 => ?_) (fun c15 => ?_)
        · skip
          refine r_ex hX hP 1 (pc' := 121) (st' := [(1, (((((((((((((a - 96) * 32) + b) - 96) * 32) + c) - 96) * 32) + d) - 96) * 32) + e) - 96))]) (lo' := [(0, (0, a)), (1, (0, b)), (2, (0, c)), (3, (0, d)), (4, (0, e)), (5, (0, f)), (6, (1, (((((((((((((a - 96) * 32) + b) - 96) * 32) + c) - 96) * 32) + d) - 96) * 32) + e) - 96)))]) rfl ?_
          exact r_retL hX hP rfl rfl (by omega) (by omega) ⟨rfl, rfl, (((((((((((((a - 96) * 32) + b) - 96) * 32) + c) - 96) * 32) + d) - 96) * 32) + e) - 96), rfl, (by omega)⟩
        · skip
          refine r_ex hX hP 1 (pc' := 104) (st' := [(1, (((((((((((((a - 96) * 32) + b) - 96) * 32) + c) - 96) * 32) + d) - 96) * 32) + e) - 96))]) (lo' := [(0, (0, a)), (1, (0, b)), (2, (0, c)), (3, (0, d)), (4, (0, e)), (5, (0, f)), (6, (1, (((((((((((((a - 96) * 32) + b) - 96) * 32) + c) - 96) * 32) + d) - 96) * 32) + e) - 96)))]) rfl ?_
          refine r_ldc2 hX hP rfl (v := 32) (tbg sg9 133 rfl rfl) ?_
          refine r_ex hX hP 2 (pc' := 110) (st' := [(0, f), (1, ((((((((((((((a - 96) * 32) + b) - 96) * 32) + c) - 96) * 32) + d) - 96) * 32) + e) - 96) * 32))]) (lo' := [(0, (0, a)), (1, (0, b)), (2, (0, c)), (3, (0, d)), (4, (0, e)), (5, (0, f)), (6, (1, (((((((((((((a - 96) * 32) + b) - 96) * 32) + c) - 96) * 32) + d) - 96) * 32) + e) - 96)))]) rfl ?_
          refine r_i2l hX hP rfl (by omega) (by omega) ?_
          refine r_ex hX hP 1 (pc' := 112) (st' := [(1, (((((((((((((((a - 96) * 32) + b) - 96) * 32) + c) - 96) * 32) + d) - 96) * 32) + e) - 96) * 32) + f))]) (lo' := [(0, (0, a)), (1, (0, b)), (2, (0, c)), (3, (0, d)), (4, (0, e)), (5, (0, f)), (6, (1, (((((((((((((a - 96) * 32) + b) - 96) * 32) + c) - 96) * 32) + d) - 96) * 32) + e) - 96)))]) rfl ?_
          refine r_ldc2 hX hP rfl (v := 96) (tbg sg9 134 rfl rfl) ?_
          refine r_ex hX hP 2 (pc' := 121) (st' := [(1, ((((((((((((((((a - 96) * 32) + b) - 96) * 32) + c) - 96) * 32) + d) - 96) * 32) + e) - 96) * 32) + f) - 96))]) (lo' := [(0, (0, a)), (1, (0, b)), (2, (0, c)), (3, (0, d)), (4, (0, e)), (5, (0, f)), (6, (1, (((((((((((((a - 96) * 32) + b) - 96) * 32) + c) - 96) * 32) + d) - 96) * 32) + e) - 96)))]) rfl ?_
          exact r_retL hX hP rfl rfl (by omega) (by omega) ⟨rfl, rfl, ((((((((((((((((a - 96) * 32) + b) - 96) * 32) + c) - 96) * 32) + d) - 96) * 32) + e) - 96) * 32) + f) - 96), rfl, (by omega)⟩
set_option maxRecDepth 100000 in
set_option maxHeartbeats 4000000 in
theorem c_X12_isWord (E : En) (S : Sg) (G : Gh) (w : Int) (hS : S (Ad E 1) = 1) (w_a : (-9223372036854775808) ≤ w) (w_b : w ≤ 9223372036854775807) : Calls E mX12_isWord [(2, (Ad E 1)), (1, w)] S G 0 0 0 (fun r S' G' => S = S' ∧ G = G' ∧ ∃ z : Int, r = some (0, z) ∧ 0 ≤ z ∧ z ≤ 1) := by
  refine calls_by [(0, (2, (Ad E 1))), (1, (1, w))] rfl rfl (Nat.le_of_ble_eq_true rfl) (fun X hX => ?_)
  have hP := hPX12_isWord
  refine r_ex hX hP 1 (pc' := 1) (st' := [(2, (Ad E 1))]) (lo' := [(0, (2, (Ad E 1))), (1, (1, w))]) rfl ?_
  refine r_getI hX hP rfl fl_12_358 hS (fun sf1 sf1e sf1a sf1b => ?_)
  refine r_ex hX hP 1 (pc' := 5) (st' := [(0, 1), (0, sf1)]) (lo' := [(0, (2, (Ad E 1))), (1, (1, w))]) rfl ?_
  refine r_ic_ne hX hP rfl (tgt := 21) rfl (by omega) (by omega) (by omega) (by omega) (fun c2 => ?_) (fun c2 => ?_)
  · skip
    refine r_ex hX hP 1 (pc' := 22) (st' := [(0, 0)]) (lo' := [(0, (2, (Ad E 1))), (1, (1, w))]) rfl ?_
    exact r_retZ hX hP rfl rfl (by omega) (by omega) (by omega) (by omega) ⟨rfl, rfl, 0, rfl, (by omega)⟩
  · skip
    refine r_ex hX hP 1 (pc' := 9) (st' := [(2, (Ad E 1))]) (lo' := [(0, (2, (Ad E 1))), (1, (1, w))]) rfl ?_
    refine r_getL hX hP rfl fl_12_364 hS (fun wf3 wf3e wf3a wf3b => ?_)
    refine r_ex hX hP 1 (pc' := 13) (st' := [(1, w), (1, wf3)]) (lo' := [(0, (2, (Ad E 1))), (1, (1, w))]) rfl ?_
    refine r_lc_ne hX hP rfl rfl (tgt := 21) rfl (by omega) (by omega) (by omega) (by omega) (fun c4 => ?_) (fun c4 => ?_)
    · skip
      refine r_ex hX hP 1 (pc' := 22) (st' := [(0, 0)]) (lo' := [(0, (2, (Ad E 1))), (1, (1, w))]) rfl ?_
      exact r_retZ hX hP rfl rfl (by omega) (by omega) (by omega) (by omega) ⟨rfl, rfl, 0, rfl, (by omega)⟩
    · skip
      refine r_ex hX hP 2 (pc' := 22) (st' := [(0, 1)]) (lo' := [(0, (2, (Ad E 1))), (1, (1, w))]) rfl ?_
      exact r_retZ hX hP rfl rfl (by omega) (by omega) (by omega) (by omega) ⟨rfl, rfl, 1, rfl, (by omega)⟩
set_option maxRecDepth 100000 in
set_option maxHeartbeats 4000000 in
theorem c_X12_isSign (E : En) (S : Sg) (G : Gh) (c : Int) (hS : S (Ad E 1) = 1) (c_a : 0 ≤ c) (c_b : c ≤ 255) : Calls E mX12_isSign [(2, (Ad E 1)), (0, c)] S G 0 0 0 (fun r S' G' => S = S' ∧ G = G' ∧ ∃ z : Int, r = some (0, z) ∧ 0 ≤ z ∧ z ≤ 1) := by
  refine calls_by [(0, (2, (Ad E 1))), (1, (0, c))] rfl rfl (Nat.le_of_ble_eq_true rfl) (fun X hX => ?_)
  have hP := hPX12_isSign
  refine r_ex hX hP 1 (pc' := 1) (st' := [(2, (Ad E 1))]) (lo' := [(0, (2, (Ad E 1))), (1, (0, c))]) rfl ?_
  refine r_getI hX hP rfl fl_12_358 hS (fun sf1 sf1e sf1a sf1b => ?_)
  refine r_ex hX hP 1 (pc' := 5) (st' := [(0, 3), (0, sf1)]) (lo' := [(0, (2, (Ad E 1))), (1, (0, c))]) rfl ?_
  refine r_ic_ne hX hP rfl (tgt := 20) rfl (by omega) (by omega) (by omega) (by omega) (fun c2 => ?_) (fun c2 => ?_)
  · skip
    refine r_ex hX hP 1 (pc' := 21) (st' := [(0, 0)]) (lo' := [(0, (2, (Ad E 1))), (1, (0, c))]) rfl ?_
    exact r_retZ hX hP rfl rfl (by omega) (by omega) (by omega) (by omega) ⟨rfl, rfl, 0, rfl, (by omega)⟩
  · skip
    refine r_ex hX hP 1 (pc' := 9) (st' := [(2, (Ad E 1))]) (lo' := [(0, (2, (Ad E 1))), (1, (0, c))]) rfl ?_
    refine r_getI hX hP rfl fl_12_379 hS (fun nf3 nf3e nf3a nf3b => ?_)
    refine r_ex hX hP 1 (pc' := 13) (st' := [(0, c), (0, nf3)]) (lo' := [(0, (2, (Ad E 1))), (1, (0, c))]) rfl ?_
    refine r_ic_ne hX hP rfl (tgt := 20) rfl (by omega) (by omega) (by omega) (by omega) (fun c4 => ?_) (fun c4 => ?_)
    · skip
      refine r_ex hX hP 1 (pc' := 21) (st' := [(0, 0)]) (lo' := [(0, (2, (Ad E 1))), (1, (0, c))]) rfl ?_
      exact r_retZ hX hP rfl rfl (by omega) (by omega) (by omega) (by omega) ⟨rfl, rfl, 0, rfl, (by omega)⟩
    · skip
      refine r_ex hX hP 2 (pc' := 21) (st' := [(0, 1)]) (lo' := [(0, (2, (Ad E 1))), (1, (0, c))]) rfl ?_
      exact r_retZ hX hP rfl rfl (by omega) (by omega) (by omega) (by omega) ⟨rfl, rfl, 1, rfl, (by omega)⟩
set_option maxRecDepth 100000 in
set_option maxHeartbeats 4000000 in
theorem c_X12_fail (E : En) (S : Sg) (G : Gh) (w p : Int) (hS : S (Ad E 1) = 1) (w_a : 1 ≤ w) (w_b : w ≤ 6) (p_a : (-2147483648) ≤ p) (p_b : p ≤ 2147483647) : Calls E mX12_fail [(2, (Ad E 1)), (0, w), (0, p)] S G 0 0 0 (fun r S' G' => S = S' ∧ (∃ G1, hv [80, 81] [] G G1 = G') ∧ r = none ∧ ∃ bad' : Int, bad' = G' 1 (Ad E 1) 80 ∧ 1 ≤ bad') := by
  refine calls_by [(0, (2, (Ad E 1))), (1, (0, w)), (2, (0, p))] rfl rfl (Nat.le_of_ble_eq_true rfl) (fun X hX => ?_)
  have hP := hPX12_fail
  refine r_ex hX hP 1 (pc' := 1) (st' := [(2, (Ad E 1))]) (lo' := [(0, (2, (Ad E 1))), (1, (0, w)), (2, (0, p))]) rfl ?_
  refine r_getI hX hP rfl fl_12_382 hS (fun bf1 bf1e bf1a bf1b => ?_)
  refine r_if_le hX hP rfl (tgt := 8) rfl (by omega) (by omega) (fun c2 => ?_) (fun c2 => ?_)
  · skip
    refine r_ex hX hP 2 (pc' := 10) (st' := [(0, w), (2, (Ad E 1))]) (lo' := [(0, (2, (Ad E 1))), (1, (0, w)), (2, (0, p))]) rfl ?_
    refine r_putIK hX hP rfl fp_12_382 hS (by omega) (by omega) (fun h3 => ?_)
    refine r_ex hX hP 2 (pc' := 15) (st' := [(0, p), (2, (Ad E 1))]) (lo' := [(0, (2, (Ad E 1))), (1, (0, w)), (2, (0, p))]) rfl ?_
    refine r_putIK hX hP rfl fp_12_385 hS (by omega) (by omega) (fun h4 => ?_)
    exact r_retV hX hP rfl rfl (by omega) (by omega) ⟨rfl, ⟨_, (hq_up (hq_up (hq_refl _ _ _) rfl) rfl).symm⟩, rfl, w, h3, (by omega)⟩
  · skip
    exact r_retV hX hP rfl rfl (by omega) (by omega) ⟨rfl, ⟨_, (hq_refl _ _ _).symm⟩, rfl, bf1, bf1e, (by omega)⟩
set_option maxRecDepth 100000 in
set_option maxHeartbeats 4000000 in
theorem c_X12_wrong (E : En) (S : Sg) (G : Gh) (hS : S (Ad E 1) = 1) : Calls E mX12_wrong [(2, (Ad E 1))] S G 1 0 0 (fun r S' G' => S = S' ∧ (∃ G1, hv [80, 81] [] G G1 = G') ∧ r = none ∧ ∃ bad' : Int, bad' = G' 1 (Ad E 1) 80 ∧ 1 ≤ bad') := by
  refine calls_by [(0, (2, (Ad E 1)))] rfl rfl (Nat.le_of_ble_eq_true rfl) (fun X hX => ?_)
  have hP := hPX12_wrong
  refine r_ex hX hP 2 (pc' := 2) (st' := [(2, (Ad E 1)), (2, (Ad E 1))]) (lo' := [(0, (2, (Ad E 1)))]) rfl ?_
  refine r_getI hX hP rfl fl_12_358 hS (fun sf1 sf1e sf1a sf1b => ?_)
  refine r_ex hX hP 1 (pc' := 6) (st' := [(0, 4), (0, sf1), (2, (Ad E 1))]) (lo' := [(0, (2, (Ad E 1)))]) rfl ?_
  refine r_ic_ne hX hP rfl (tgt := 13) rfl (by omega) (by omega) (by omega) (by omega) (fun c2 => ?_) (fun c2 => ?_)
  · skip
    refine r_ex hX hP 2 (pc' := 15) (st' := [(2, (Ad E 1)), (0, 2), (2, (Ad E 1))]) (lo' := [(0, (2, (Ad E 1)))]) rfl ?_
    refine r_getI hX hP rfl fl_12_352 hS (fun af3 af3e af3a af3b => ?_)
    refine r_callV gd hX hP rfl cv_12_388 hS (d' := 0) (mc' := 0) (ms' := 0) (as' := [(0, 2), (0, af3)]) (st := []) (by decide) (by decide) (by decide) rfl rfl (Nat.le_of_ble_eq_true rfl) (c_X12_fail E S G 2 af3 hS (by omega) (by omega) (by omega) (by omega)) ?_
    rintro _ _ _ ⟨rfl, ⟨G4, rfl⟩, rfl, bah5, bah5e, f6⟩
    exact r_retV hX hP rfl rfl (by omega) (by omega) ⟨rfl, ⟨_, (hq_call (hq_refl _ _ _) rfl).symm⟩, rfl, bah5, bah5e, (by omega)⟩
  · skip
    refine r_ex hX hP 3 (pc' := 15) (st' := [(2, (Ad E 1)), (0, 1), (2, (Ad E 1))]) (lo' := [(0, (2, (Ad E 1)))]) rfl ?_
    refine r_getI hX hP rfl fl_12_352 hS (fun af7 af7e af7a af7b => ?_)
    refine r_callV gd hX hP rfl cv_12_388 hS (d' := 0) (mc' := 0) (ms' := 0) (as' := [(0, 1), (0, af7)]) (st := []) (by decide) (by decide) (by decide) rfl rfl (Nat.le_of_ble_eq_true rfl) (c_X12_fail E S G 1 af7 hS (by omega) (by omega) (by omega) (by omega)) ?_
    rintro _ _ _ ⟨rfl, ⟨G8, rfl⟩, rfl, bah9, bah9e, f10⟩
    exact r_retV hX hP rfl rfl (by omega) (by omega) ⟨rfl, ⟨_, (hq_call (hq_refl _ _ _) rfl).symm⟩, rfl, bah9, bah9e, (by omega)⟩

