set_option maxRecDepth 100000 in
set_option maxHeartbeats 4000000 in
theorem c_X12_isIn (E : En) (S : Sg) (G : Gh) (v low top : Int) (v_a : (-2147483648) ≤ v) (v_b : v ≤ 2147483647) (low_a : (-2147483648) ≤ low) (low_b : low ≤ 2147483647) (top_a : (-2147483648) ≤ top) (top_b : top ≤ 2147483647) : Calls E mX12_isIn [(0, v), (0, low), (0, top)] S G 0 0 0 (fun r S' G' => S = S' ∧ G = G' ∧ ∃ z : Int, r = some (0, z) ∧ ((z = 1 ∧ low ≤ v ∧ v ≤ top) ∨ (z = 0 ∧ (v < low ∨ top < v)))) := by
  refine calls_by [(0, (0, v)), (1, (0, low)), (2, (0, top))] rfl rfl (Nat.le_of_ble_eq_true rfl) (fun X hX => ?_)
  have hP := hPX12_isIn
  refine r_ex hX hP 2 (pc' := 2) (st' := [(0, low), (0, v)]) (lo' := [(0, (0, v)), (1, (0, low)), (2, (0, top))]) rfl ?_
  refine r_ic_lt hX hP rfl (tgt := 14) rfl (by omega) (by omega) (by omega) (by omega) (fun c1 => ?_) (fun c1 => ?_)
  · skip
    refine r_ex hX hP 1 (pc' := 15) (st' := [(0, 0)]) (lo' := [(0, (0, v)), (1, (0, low)), (2, (0, top))]) rfl ?_
    exact r_retZ hX hP rfl rfl (by omega) (by omega) (by omega) (by omega) ⟨rfl, rfl, 0, rfl, (by omega)⟩
  · skip
    refine r_ex hX hP 2 (pc' := 7) (st' := [(0, top), (0, v)]) (lo' := [(0, (0, v)), (1, (0, low)), (2, (0, top))]) rfl ?_
    refine r_ic_gt hX hP rfl (tgt := 14) rfl (by omega) (by omega) (by omega) (by omega) (fun c2 => ?_) (fun c2 => ?_)
    · skip
      refine r_ex hX hP 1 (pc' := 15) (st' := [(0, 0)]) (lo' := [(0, (0, v)), (1, (0, low)), (2, (0, top))]) rfl ?_
      exact r_retZ hX hP rfl rfl (by omega) (by omega) (by omega) (by omega) ⟨rfl, rfl, 0, rfl, (by omega)⟩
    · skip
      refine r_ex hX hP 2 (pc' := 15) (st' := [(0, 1)]) (lo' := [(0, (0, v)), (1, (0, low)), (2, (0, top))]) rfl ?_
      exact r_retZ hX hP rfl rfl (by omega) (by omega) (by omega) (by omega) ⟨rfl, rfl, 1, rfl, (by omega)⟩
set_option maxRecDepth 100000 in
set_option maxHeartbeats 4000000 in
theorem c_X12_isDay (E : En) (S : Sg) (G : Gh) (v : Int) (v_a : (-2147483648) ≤ v) (v_b : v ≤ 2147483647) : Calls E mX12_isDay [(0, v)] S G 1 0 0 (fun r S' G' => S = S' ∧ G = G' ∧ ∃ z : Int, r = some (0, z) ∧ ((z = 1 ∧ 0 ≤ v ∧ v ≤ 40000) ∨ (z = 0 ∧ (v < 0 ∨ 40000 < v)))) := by
  refine calls_by [(0, (0, v))] rfl rfl (Nat.le_of_ble_eq_true rfl) (fun X hX => ?_)
  have hP := hPX12_isDay
  refine r_ex hX hP 2 (pc' := 2) (st' := [(0, 0), (0, v)]) (lo' := [(0, (0, v))]) rfl ?_
  refine r_ldc hX hP rfl (v := 40000) (tbg sg7 130 rfl rfl) ?_
  refine r_callS gd hX hP rfl cs_12_310 (d' := 0) (mc' := 0) (ms' := 0) (as' := [(0, v), (0, 0), (0, 40000)]) (st := []) (by omega) (by omega) (by omega) rfl rfl (Nat.le_of_ble_eq_true rfl) (c_X12_isIn E S G v 0 40000 (by omega) (by omega) (by omega) (by omega) (by omega) (by omega)) ?_
  rintro _ _ _ ⟨rfl, rfl, z1, rfl, (⟨rfl, f2, f3⟩ | ⟨rfl, f4⟩)⟩
  · skip
    exact r_retZ hX hP rfl rfl (by omega) (by omega) (by omega) (by omega) ⟨rfl, rfl, 1, rfl, (by omega)⟩
  · skip
    exact r_retZ hX hP rfl rfl (by omega) (by omega) (by omega) (by omega) ⟨rfl, rfl, 0, rfl, (by omega)⟩
set_option maxRecDepth 100000 in
set_option maxHeartbeats 4000000 in
theorem c_X12_isPaper (E : En) (S : Sg) (G : Gh) (v : Int) (v_a : (-2147483648) ≤ v) (v_b : v ≤ 2147483647) : Calls E mX12_isPaper [(0, v)] S G 1 0 0 (fun r S' G' => S = S' ∧ G = G' ∧ ∃ z : Int, r = some (0, z) ∧ ((z = 1 ∧ 0 ≤ v ∧ v ≤ 19) ∨ (z = 0 ∧ (v < 0 ∨ 19 < v)))) := by
  refine calls_by [(0, (0, v))] rfl rfl (Nat.le_of_ble_eq_true rfl) (fun X hX => ?_)
  have hP := hPX12_isPaper
  refine r_ex hX hP 3 (pc' := 4) (st' := [(0, 19), (0, 0), (0, v)]) (lo' := [(0, (0, v))]) rfl ?_
  refine r_callS gd hX hP rfl cs_12_310 (d' := 0) (mc' := 0) (ms' := 0) (as' := [(0, v), (0, 0), (0, 19)]) (st := []) (by omega) (by omega) (by omega) rfl rfl (Nat.le_of_ble_eq_true rfl) (c_X12_isIn E S G v 0 19 (by omega) (by omega) (by omega) (by omega) (by omega) (by omega)) ?_
  rintro _ _ _ ⟨rfl, rfl, z1, rfl, (⟨rfl, f2, f3⟩ | ⟨rfl, f4⟩)⟩
  · skip
    exact r_retZ hX hP rfl rfl (by omega) (by omega) (by omega) (by omega) ⟨rfl, rfl, 1, rfl, (by omega)⟩
  · skip
    exact r_retZ hX hP rfl rfl (by omega) (by omega) (by omega) (by omega) ⟨rfl, rfl, 0, rfl, (by omega)⟩
set_option maxRecDepth 100000 in
set_option maxHeartbeats 4000000 in
theorem c_X12_isAccount (E : En) (S : Sg) (G : Gh) (v : Int) (hS : S (Ad E 1) = 1) (accounts : Int) (accounts_e : accounts = G 1 (Ad E 1) 6) (v_a : (-2147483648) ≤ v) (v_b : v ≤ 2147483647) : Calls E mX12_isAccount [(2, (Ad E 1)), (0, v)] S G 1 0 0 (fun r S' G' => S = S' ∧ G = G' ∧ ∃ z : Int, r = some (0, z) ∧ ((z = 1 ∧ 0 ≤ v ∧ v < accounts) ∨ (z = 0 ∧ (v < 0 ∨ accounts ≤ v)))) := by
  refine calls_by [(0, (2, (Ad E 1))), (1, (0, v))] rfl rfl (Nat.le_of_ble_eq_true rfl) (fun X hX => ?_)
  have hP := hPX12_isAccount
  refine r_peekI hX (tl1 6 rfl (by decide)) hS (fun accounts_o accounts_oe accounts_oa accounts_ob => ?_)
  obtain rfl : accounts = accounts_o := accounts_e.trans accounts_oe.symm
  refine r_ex hX hP 3 (pc' := 3) (st' := [(2, (Ad E 1)), (0, 0), (0, v)]) (lo' := [(0, (2, (Ad E 1))), (1, (0, v))]) rfl ?_
  refine r_getKI hX hP rfl fl_12_314 hS (x := accounts) accounts_e ?_
  refine r_ex hX hP 2 (pc' := 8) (st' := [(0, (accounts - 1)), (0, 0), (0, v)]) (lo' := [(0, (2, (Ad E 1))), (1, (0, v))]) rfl ?_
  refine r_callS gd hX hP rfl cs_12_310 (d' := 0) (mc' := 0) (ms' := 0) (as' := [(0, v), (0, 0), (0, (accounts - 1))]) (st := []) (by omega) (by omega) (by omega) rfl rfl (Nat.le_of_ble_eq_true rfl) (c_X12_isIn E S G v 0 (accounts - 1) (by omega) (by omega) (by omega) (by omega) (by omega) (by omega)) ?_
  rintro _ _ _ ⟨rfl, rfl, z1, rfl, (⟨rfl, f2, f3⟩ | ⟨rfl, f4⟩)⟩
  · skip
    exact r_retZ hX hP rfl rfl (by omega) (by omega) (by omega) (by omega) ⟨rfl, rfl, 1, rfl, (by omega)⟩
  · skip
    exact r_retZ hX hP rfl rfl (by omega) (by omega) (by omega) (by omega) ⟨rfl, rfl, 0, rfl, (by omega)⟩
set_option maxRecDepth 100000 in
set_option maxHeartbeats 4000000 in
theorem c_X12_no (E : En) (S : Sg) (G : Gh) (w : Int) (hS : S (Ad E 1) = 1) (w_a : 0 ≤ w) (w_b : w ≤ 8) : Calls E mX12_no [(2, (Ad E 1)), (0, w)] S G 0 0 0 (fun r S' G' => S = S' ∧ (∃ G1, hv [0] [] G G1 = G') ∧ ∃ z : Int, r = some (0, z) ∧ (z = 0)) := by
  refine calls_by [(0, (2, (Ad E 1))), (1, (0, w))] rfl rfl (Nat.le_of_ble_eq_true rfl) (fun X hX => ?_)
  have hP := hPX12_no
  refine r_ex hX hP 2 (pc' := 2) (st' := [(0, w), (2, (Ad E 1))]) (lo' := [(0, (2, (Ad E 1))), (1, (0, w))]) rfl ?_
  refine r_putIK hX hP rfl fp_12_307 hS (by omega) (by omega) (fun h1 => ?_)
  refine r_ex hX hP 1 (pc' := 6) (st' := [(0, 0)]) (lo' := [(0, (2, (Ad E 1))), (1, (0, w))]) rfl ?_
  exact r_retZ hX hP rfl rfl (by omega) (by omega) (by omega) (by omega) ⟨rfl, ⟨_, (hq_up (hq_refl _ _ _) rfl).symm⟩, 0, rfl, (by omega)⟩
set_option maxRecDepth 100000 in
set_option maxHeartbeats 4000000 in
theorem c_X12_refuse (E : En) (S : Sg) (G : Gh) (w : Int) (hS : S (Ad E 1) = 1) (w_a : 0 ≤ w) (w_b : w ≤ 8) : Calls E mX12_refuse [(2, (Ad E 1)), (0, w)] S G 0 0 0 (fun r S' G' => S = S' ∧ (∃ G1, hv [0] [] G G1 = G') ∧ ∃ z : Int, r = some (0, z) ∧ (z = (-1))) := by
  refine calls_by [(0, (2, (Ad E 1))), (1, (0, w))] rfl rfl (Nat.le_of_ble_eq_true rfl) (fun X hX => ?_)
  have hP := hPX12_refuse
  refine r_ex hX hP 2 (pc' := 2) (st' := [(0, w), (2, (Ad E 1))]) (lo' := [(0, (2, (Ad E 1))), (1, (0, w))]) rfl ?_
  refine r_putIK hX hP rfl fp_12_307 hS (by omega) (by omega) (fun h1 => ?_)
  refine r_ex hX hP 1 (pc' := 6) (st' := [(0, (-1))]) (lo' := [(0, (2, (Ad E 1))), (1, (0, w))]) rfl ?_
  exact r_retI hX hP rfl rfl (by omega) (by omega) ⟨rfl, ⟨_, (hq_up (hq_refl _ _ _) rfl).symm⟩, (-1), rfl, (by omega)⟩
set_option maxRecDepth 100000 in
set_option maxHeartbeats 4000000 in
theorem c_X12_status (E : En) (S : Sg) (G : Gh) (hS : S (Ad E 1) = 1) : Calls E mX12_status [(2, (Ad E 1))] S G 0 0 0 (fun r S' G' => S = S' ∧ (∃ G1, hv [1] [] G G1 = G') ∧ ∃ z : Int, r = some (0, z) ∧ (-2147483648) ≤ z ∧ z ≤ 2147483647) := by
  refine calls_by [(0, (2, (Ad E 1)))] rfl rfl (Nat.le_of_ble_eq_true rfl) (fun X hX => ?_)
  have hP := hPX12_status
  refine r_ex hX hP 2 (pc' := 2) (st' := [(0, 0), (2, (Ad E 1))]) (lo' := [(0, (2, (Ad E 1)))]) rfl ?_
  refine r_putIK hX hP rfl fp_12_304 hS (by omega) (by omega) (fun h1 => ?_)
  refine r_ex hX hP 1 (pc' := 6) (st' := [(2, (Ad E 1))]) (lo' := [(0, (2, (Ad E 1)))]) rfl ?_
  refine r_getI hX hP rfl fl_12_307 hS (fun sf2 sf2e sf2a sf2b => ?_)
  exact r_retI hX hP rfl rfl (by omega) (by omega) ⟨rfl, ⟨_, (hq_up (hq_refl _ _ _) rfl).symm⟩, sf2, rfl, (by omega)⟩
set_option maxRecDepth 100000 in
set_option maxHeartbeats 4000000 in
theorem c_X12_asof (E : En) (S : Sg) (G : Gh) (d : Int) (hS : S (Ad E 1) = 1) (d_a : (-2147483648) ≤ d) (d_b : d ≤ 2147483647) : Calls E mX12_asof [(2, (Ad E 1)), (0, d)] S G 2 0 0 (fun r S' G' => S = S' ∧ (∃ G1, hv [0, 1, 2] [] G G1 = G') ∧ ∃ z : Int, r = some (0, z) ∧ ((z = 1 ∧ 0 ≤ d ∧ d ≤ 40000) ∨ (z = 0 ∧ (d < 0 ∨ 40000 < d)))) := by
  refine calls_by [(0, (2, (Ad E 1))), (1, (0, d))] rfl rfl (Nat.le_of_ble_eq_true rfl) (fun X hX => ?_)
  have hP := hPX12_asof
  refine r_ex hX hP 2 (pc' := 2) (st' := [(0, 0), (2, (Ad E 1))]) (lo' := [(0, (2, (Ad E 1))), (1, (0, d))]) rfl ?_
  refine r_putIK hX hP rfl fp_12_304 hS (by omega) (by omega) (fun h1 => ?_)
  refine r_ex hX hP 2 (pc' := 7) (st' := [(0, 0), (2, (Ad E 1))]) (lo' := [(0, (2, (Ad E 1))), (1, (0, d))]) rfl ?_
  refine r_putIK hX hP rfl fp_12_307 hS (by omega) (by omega) (fun h2 => ?_)
  refine r_ex hX hP 1 (pc' := 11) (st' := [(0, d)]) (lo' := [(0, (2, (Ad E 1))), (1, (0, d))]) rfl ?_
  refine r_callS gd hX hP rfl cs_12_317 (d' := 1) (mc' := 0) (ms' := 0) (as' := [(0, d)]) (st := []) (by omega) (by omega) (by omega) rfl rfl (Nat.le_of_ble_eq_true rfl) (c_X12_isDay E S (up (up G 1 (Ad E 1) 1 0) 1 (Ad E 1) 0 0) d (by omega) (by omega)) ?_
  rintro _ _ _ ⟨rfl, rfl, z3, rfl, (⟨rfl, f4, f5⟩ | ⟨rfl, f6⟩)⟩
  · skip
    refine r_if_ne hX hP rfl (tgt := 23) rfl (by omega) (by omega) (fun c7 => ?_) (fun c7 => ?_)
    · skip
      refine r_ex hX hP 2 (pc' := 25) (st' := [(0, d), (2, (Ad E 1))]) (lo' := [(0, (2, (Ad E 1))), (1, (0, d))]) rfl ?_
      refine r_putIK hX hP rfl fp_12_10 hS (by omega) (by omega) (fun h8 => ?_)
      refine r_ex hX hP 1 (pc' := 29) (st' := [(0, 1)]) (lo' := [(0, (2, (Ad E 1))), (1, (0, d))]) rfl ?_
      exact r_retZ hX hP rfl rfl (by omega) (by omega) (by omega) (by omega) ⟨rfl, ⟨_, (hq_up (hq_up (hq_up (hq_refl _ _ _) rfl) rfl) rfl).symm⟩, 1, rfl, (by omega)⟩
    · skip
      exfalso; omega
  · skip
    refine r_if_ne hX hP rfl (tgt := 23) rfl (by omega) (by omega) (fun c9 => ?_) (fun c9 => ?_)
    · skip
      exfalso; omega
    · skip
      refine r_ex hX hP 2 (pc' := 19) (st' := [(0, 2), (2, (Ad E 1))]) (lo' := [(0, (2, (Ad E 1))), (1, (0, d))]) rfl ?_
      refine r_callV gd hX hP rfl cv_12_321 hS (d' := 0) (mc' := 0) (ms' := 0) (as' := [(0, 2)]) (st := []) (by omega) (by omega) (by omega) rfl rfl (Nat.le_of_ble_eq_true rfl) (c_X12_no E S (up (up G 1 (Ad E 1) 1 0) 1 (Ad E 1) 0 0) 2 hS (by omega) (by omega)) ?_
      rintro _ _ _ ⟨rfl, ⟨G10, rfl⟩, z11, rfl, rfl⟩
      exact r_retZ hX hP rfl rfl (by omega) (by omega) (by omega) (by omega) ⟨rfl, ⟨_, (hq_call (hq_up (hq_up (hq_refl _ _ _) rfl) rfl) rfl).symm⟩, 0, rfl, (by omega)⟩
set_option maxRecDepth 100000 in
set_option maxHeartbeats 4000000 in
theorem c_X12_issue (E : En) (S : Sg) (G : Gh) (a p d sh w k : Int) (hS : S (Ad E 1) = 1) (a_a : (-2147483648) ≤ a) (a_b : a ≤ 2147483647) (p_a : (-2147483648) ≤ p) (p_b : p ≤ 2147483647) (d_a : (-2147483648) ≤ d) (d_b : d ≤ 2147483647) (sh_a : (-2147483648) ≤ sh) (sh_b : sh ≤ 2147483647) (w_a : (-2147483648) ≤ w) (w_b : w ≤ 2147483647) (k_a : (-2147483648) ≤ k) (k_b : k ≤ 2147483647) : Calls E mX12_issue [(2, (Ad E 1)), (0, a), (0, p), (0, d), (0, sh), (0, w), (0, k)] S G 2 0 0 (fun r S' G' => S = S' ∧ (∃ G1, hv [0, 1, 3, 7] [5, 6, 7, 8, 9, 10] G G1 = G') ∧ ∃ z : Int, r = some (0, z) ∧ 0 ≤ z ∧ z ≤ 1) := by
  refine calls_by [(0, (2, (Ad E 1))), (1, (0, a)), (2, (0, p)), (3, (0, d)), (4, (0, sh)), (5, (0, w)), (6, (0, k))] rfl rfl (Nat.le_of_ble_eq_true rfl) (fun X hX => ?_)
  have hP := hPX12_issue
  refine r_ex hX hP 2 (pc' := 2) (st' := [(0, 0), (2, (Ad E 1))]) (lo' := [(0, (2, (Ad E 1))), (1, (0, a)), (2, (0, p)), (3, (0, d)), (4, (0, sh)), (5, (0, w)), (6, (0, k))]) rfl ?_
  refine r_putIK hX hP rfl fp_12_304 hS (by omega) (by omega) (fun h1 => ?_)
  refine r_ex hX hP 2 (pc' := 7) (st' := [(0, 0), (2, (Ad E 1))]) (lo' := [(0, (2, (Ad E 1))), (1, (0, a)), (2, (0, p)), (3, (0, d)), (4, (0, sh)), (5, (0, w)), (6, (0, k))]) rfl ?_
  refine r_putIK hX hP rfl fp_12_307 hS (by omega) (by omega) (fun h2 => ?_)
  refine r_ex hX hP 2 (pc' := 12) (st' := [(0, a), (2, (Ad E 1))]) (lo' := [(0, (2, (Ad E 1))), (1, (0, a)), (2, (0, p)), (3, (0, d)), (4, (0, sh)), (5, (0, w)), (6, (0, k))]) rfl ?_
  refine r_peekI hX (tl1 6 rfl (by decide)) hS (fun acp3 acp3e acp3a acp3b => ?_)
  refine r_callV gd hX hP rfl cv_12_324 hS (d' := 1) (mc' := 0) (ms' := 0) (as' := [(0, a)]) (st := []) (by omega) (by omega) (by omega) rfl rfl (Nat.le_of_ble_eq_true rfl) (c_X12_isAccount E S (up (up G 1 (Ad E 1) 1 0) 1 (Ad E 1) 0 0) a hS acp3 acp3e (by omega) (by omega)) ?_
  rintro _ _ _ ⟨rfl, rfl, z4, rfl, (⟨rfl, f5, f6⟩ | ⟨rfl, f7⟩)⟩
  · skip
    refine r_if_eq hX hP rfl (tgt := 25) rfl (by omega) (by omega) (fun c8 => ?_) (fun c8 => ?_)
    · skip
      exfalso; omega
    · skip
      refine r_ex hX hP 1 (pc' := 19) (st' := [(0, p)]) (lo' := [(0, (2, (Ad E 1))), (1, (0, a)), (2, (0, p)), (3, (0, d)), (4, (0, sh)), (5, (0, w)), (6, (0, k))]) rfl ?_
      refine r_callS gd hX hP rfl cs_12_331 (d' := 1) (mc' := 0) (ms' := 0) (as' := [(0, p)]) (st := []) (by omega) (by omega) (by omega) rfl rfl (Nat.le_of_ble_eq_true rfl) (c_X12_isPaper E S (up (up G 1 (Ad E 1) 1 0) 1 (Ad E 1) 0 0) p (by omega) (by omega)) ?_
      rintro _ _ _ ⟨rfl, rfl, z9, rfl, (⟨rfl, f10, f11⟩ | ⟨rfl, f12⟩)⟩
      · skip
        refine r_if_ne hX hP rfl (tgt := 31) rfl (by omega) (by omega) (fun c13 => ?_) (fun c13 => ?_)
        · skip
          refine r_ex hX hP 1 (pc' := 32) (st' := [(0, d)]) (lo' := [(0, (2, (Ad E 1))), (1, (0, a)), (2, (0, p)), (3, (0, d)), (4, (0, sh)), (5, (0, w)), (6, (0, k))]) rfl ?_
          refine r_callS gd hX hP rfl cs_12_317 (d' := 1) (mc' := 0) (ms' := 0) (as' := [(0, d)]) (st := []) (by omega) (by omega) (by omega) rfl rfl (Nat.le_of_ble_eq_true rfl) (c_X12_isDay E S (up (up G 1 (Ad E 1) 1 0) 1 (Ad E 1) 0 0) d (by omega) (by omega)) ?_
          rintro _ _ _ ⟨rfl, rfl, z14, rfl, (⟨rfl, f15, f16⟩ | ⟨rfl, f17⟩)⟩
          · skip
            refine r_if_eq hX hP rfl (tgt := 70) rfl (by omega) (by omega) (fun c18 => ?_) (fun c18 => ?_)
            · skip
              exfalso; omega
            · skip
              refine r_ex hX hP 2 (pc' := 41) (st' := [(0, 1), (0, sh)]) (lo' := [(0, (2, (Ad E 1))), (1, (0, a)), (2, (0, p)), (3, (0, d)), (4, (0, sh)), (5, (0, w)), (6, (0, k))]) rfl ?_
              refine r_ldcw hX hP rfl (v := 1000000) (tbg sg9 103 rfl rfl) ?_
              refine r_callS gd hX hP rfl cs_12_310 (d' := 0) (mc' := 0) (ms' := 0) (as' := [(0, sh), (0, 1), (0, 1000000)]) (st := []) (by omega) (by omega) (by omega) rfl rfl (Nat.le_of_ble_eq_true rfl) (c_X12_isIn E S (up (up G 1 (Ad E 1) 1 0) 1 (Ad E 1) 0 0) sh 1 1000000 (by omega) (by omega) (by omega) (by omega) (by omega) (by omega)) ?_
              rintro _ _ _ ⟨rfl, rfl, z19, rfl, (⟨rfl, f20, f21⟩ | ⟨rfl, f22⟩)⟩
              · skip
                refine r_if_eq hX hP rfl (tgt := 70) rfl (by omega) (by omega) (fun c23 => ?_) (fun c23 => ?_)
                · skip
                  exfalso; omega
                · skip
                  refine r_ex hX hP 2 (pc' := 53) (st' := [(0, 0), (0, w)]) (lo' := [(0, (2, (Ad E 1))), (1, (0, a)), (2, (0, p)), (3, (0, d)), (4, (0, sh)), (5, (0, w)), (6, (0, k))]) rfl ?_
                  refine r_ldcw hX hP rfl (v := 100000000) (tbg sg9 104 rfl rfl) ?_
                  refine r_callS gd hX hP rfl cs_12_310 (d' := 0) (mc' := 0) (ms' := 0) (as' := [(0, w), (0, 0), (0, 100000000)]) (st := []) (by omega) (by omega) (by omega) rfl rfl (Nat.le_of_ble_eq_true rfl) (c_X12_isIn E S (up (up G 1 (Ad E 1) 1 0) 1 (Ad E 1) 0 0) w 0 100000000 (by omega) (by omega) (by omega) (by omega) (by omega) (by omega)) ?_
                  rintro _ _ _ ⟨rfl, rfl, z24, rfl, (⟨rfl, f25, f26⟩ | ⟨rfl, f27⟩)⟩
                  · skip
                    refine r_if_eq hX hP rfl (tgt := 70) rfl (by omega) (by omega) (fun c28 => ?_) (fun c28 => ?_)
                    · skip
                      exfalso; omega
                    · skip
                      refine r_ex hX hP 1 (pc' := 64) (st' := [(0, k)]) (lo' := [(0, (2, (Ad E 1))), (1, (0, a)), (2, (0, p)), (3, (0, d)), (4, (0, sh)), (5, (0, w)), (6, (0, k))]) rfl ?_
                      refine r_callS gd hX hP rfl cs_12_317 (d' := 1) (mc' := 0) (ms' := 0) (as' := [(0, k)]) (st := []) (by omega) (by omega) (by omega) rfl rfl (Nat.le_of_ble_eq_true rfl) (c_X12_isDay E S (up (up G 1 (Ad E 1) 1 0) 1 (Ad E 1) 0 0) k (by omega) (by omega)) ?_
                      rintro _ _ _ ⟨rfl, rfl, z29, rfl, (⟨rfl, f30, f31⟩ | ⟨rfl, f32⟩)⟩
                      · skip
                        refine r_if_ne hX hP rfl (tgt := 76) rfl (by omega) (by omega) (fun c33 => ?_) (fun c33 => ?_)
                        · skip
                          refine r_ex hX hP 1 (pc' := 77) (st' := [(2, (Ad E 1))]) (lo' := [(0, (2, (Ad E 1))), (1, (0, a)), (2, (0, p)), (3, (0, d)), (4, (0, sh)), (5, (0, w)), (6, (0, k))]) rfl ?_
                          refine r_getI hX hP rfl fl_12_336 hS (fun if34 if34e if34a if34b => ?_)
                          refine r_ex hX hP 1 (pc' := 82) (st' := [(0, 40), (0, if34)]) (lo' := [(0, (2, (Ad E 1))), (1, (0, a)), (2, (0, p)), (3, (0, d)), (4, (0, sh)), (5, (0, w)), (6, (0, k))]) rfl ?_
                          refine r_ic_ne hX hP rfl (tgt := 91) rfl (by omega) (by omega) (by omega) (by omega) (fun c35 => ?_) (fun c35 => ?_)
                          · skip
                            refine r_ex hX hP 2 (pc' := 94) (st' := [(2, (Ad E 1)), (0, k)]) (lo' := [(0, (2, (Ad E 1))), (1, (0, a)), (2, (0, p)), (3, (0, d)), (4, (0, sh)), (5, (0, w)), (6, (0, k))]) rfl ?_
                            refine r_getI hX hP rfl fl_12_339 hS (fun lf36 lf36e lf36a lf36b => ?_)
                            refine r_ic_ge hX hP rfl (tgt := 106) rfl (by omega) (by omega) (by omega) (by omega) (fun c37 => ?_) (fun c37 => ?_)
                            · skip
                              refine r_ex hX hP 1 (pc' := 107) (st' := [(2, (Ad E 1))]) (lo' := [(0, (2, (Ad E 1))), (1, (0, a)), (2, (0, p)), (3, (0, d)), (4, (0, sh)), (5, (0, w)), (6, (0, k))]) rfl ?_
                              refine r_getC hX hP rfl fl_12_28 hS (fun s38 => ?_)
                              refine r_ex hX hP 1 (pc' := 111) (st' := [(2, (Ad E 1)), (2, (Ad E 5))]) (lo' := [(0, (2, (Ad E 1))), (1, (0, a)), (2, (0, p)), (3, (0, d)), (4, (0, sh)), (5, (0, w)), (6, (0, k))]) rfl ?_
                              refine r_getKI hX hP rfl fl_12_336 hS (x := if34) if34e ?_
                              refine r_ex hX hP 1 (pc' := 115) (st' := [(0, a), (0, if34), (2, (Ad E 5))]) (lo' := [(0, (2, (Ad E 1))), (1, (0, a)), (2, (0, p)), (3, (0, d)), (4, (0, sh)), (5, (0, w)), (6, (0, k))]) rfl ?_
                              refine r_iastK hX hP rfl al_5 s38 (by omega) (by omega) (by omega) (by omega) (fun h39 => ?_)
                              refine r_ex hX hP 1 (pc' := 117) (st' := [(2, (Ad E 1))]) (lo' := [(0, (2, (Ad E 1))), (1, (0, a)), (2, (0, p)), (3, (0, d)), (4, (0, sh)), (5, (0, w)), (6, (0, k))]) rfl ?_
                              refine r_getC hX hP rfl fl_12_31 hS (fun s40 => ?_)
                              refine r_ex hX hP 1 (pc' := 121) (st' := [(2, (Ad E 1)), (2, (Ad E 6))]) (lo' := [(0, (2, (Ad E 1))), (1, (0, a)), (2, (0, p)), (3, (0, d)), (4, (0, sh)), (5, (0, w)), (6, (0, k))]) rfl ?_
                              refine r_getKI hX hP rfl fl_12_336 hS (x := if34) if34e ?_
                              refine r_ex hX hP 1 (pc' := 125) (st' := [(0, p), (0, if34), (2, (Ad E 6))]) (lo' := [(0, (2, (Ad E 1))), (1, (0, a)), (2, (0, p)), (3, (0, d)), (4, (0, sh)), (5, (0, w)), (6, (0, k))]) rfl ?_
                              refine r_iastK hX hP rfl al_6 s40 (by omega) (by omega) (by omega) (by omega) (fun h41 => ?_)
                              refine r_ex hX hP 1 (pc' := 127) (st' := [(2, (Ad E 1))]) (lo' := [(0, (2, (Ad E 1))), (1, (0, a)), (2, (0, p)), (3, (0, d)), (4, (0, sh)), (5, (0, w)), (6, (0, k))]) rfl ?_
                              refine r_getC hX hP rfl fl_12_34 hS (fun s42 => ?_)
                              refine r_ex hX hP 1 (pc' := 131) (st' := [(2, (Ad E 1)), (2, (Ad E 7))]) (lo' := [(0, (2, (Ad E 1))), (1, (0, a)), (2, (0, p)), (3, (0, d)), (4, (0, sh)), (5, (0, w)), (6, (0, k))]) rfl ?_
                              refine r_getKI hX hP rfl fl_12_336 hS (x := if34) if34e ?_
                              refine r_ex hX hP 1 (pc' := 135) (st' := [(0, d), (0, if34), (2, (Ad E 7))]) (lo' := [(0, (2, (Ad E 1))), (1, (0, a)), (2, (0, p)), (3, (0, d)), (4, (0, sh)), (5, (0, w)), (6, (0, k))]) rfl ?_
                              refine r_iastK hX hP rfl al_7 s42 (by omega) (by omega) (by omega) (by omega) (fun h43 => ?_)
                              refine r_ex hX hP 1 (pc' := 137) (st' := [(2, (Ad E 1))]) (lo' := [(0, (2, (Ad E 1))), (1, (0, a)), (2, (0, p)), (3, (0, d)), (4, (0, sh)), (5, (0, w)), (6, (0, k))]) rfl ?_
                              refine r_getC hX hP rfl fl_12_37 hS (fun s44 => ?_)
                              refine r_ex hX hP 1 (pc' := 141) (st' := [(2, (Ad E 1)), (2, (Ad E 8))]) (lo' := [(0, (2, (Ad E 1))), (1, (0, a)), (2, (0, p)), (3, (0, d)), (4, (0, sh)), (5, (0, w)), (6, (0, k))]) rfl ?_
                              refine r_getKI hX hP rfl fl_12_336 hS (x := if34) if34e ?_
                              refine r_ex hX hP 1 (pc' := 146) (st' := [(0, sh), (0, if34), (2, (Ad E 8))]) (lo' := [(0, (2, (Ad E 1))), (1, (0, a)), (2, (0, p)), (3, (0, d)), (4, (0, sh)), (5, (0, w)), (6, (0, k))]) rfl ?_
                              refine r_iastK hX hP rfl al_8 s44 (by omega) (by omega) (by omega) (by omega) (fun h45 => ?_)
                              refine r_ex hX hP 1 (pc' := 148) (st' := [(2, (Ad E 1))]) (lo' := [(0, (2, (Ad E 1))), (1, (0, a)), (2, (0, p)), (3, (0, d)), (4, (0, sh)), (5, (0, w)), (6, (0, k))]) rfl ?_
                              refine r_getC hX hP rfl fl_12_40 hS (fun s46 => ?_)
                              refine r_ex hX hP 1 (pc' := 152) (st' := [(2, (Ad E 1)), (2, (Ad E 9))]) (lo' := [(0, (2, (Ad E 1))), (1, (0, a)), (2, (0, p)), (3, (0, d)), (4, (0, sh)), (5, (0, w)), (6, (0, k))]) rfl ?_
                              refine r_getKI hX hP rfl fl_12_336 hS (x := if34) if34e ?_
                              refine r_ex hX hP 1 (pc' := 157) (st' := [(0, w), (0, if34), (2, (Ad E 9))]) (lo' := [(0, (2, (Ad E 1))), (1, (0, a)), (2, (0, p)), (3, (0, d)), (4, (0, sh)), (5, (0, w)), (6, (0, k))]) rfl ?_
                              refine r_iastK hX hP rfl al_9 s46 (by omega) (by omega) (by omega) (by omega) (fun h47 => ?_)
                              refine r_ex hX hP 1 (pc' := 159) (st' := [(2, (Ad E 1))]) (lo' := [(0, (2, (Ad E 1))), (1, (0, a)), (2, (0, p)), (3, (0, d)), (4, (0, sh)), (5, (0, w)), (6, (0, k))]) rfl ?_
                              refine r_getC hX hP rfl fl_12_43 hS (fun s48 => ?_)
                              refine r_ex hX hP 1 (pc' := 163) (st' := [(2, (Ad E 1)), (2, (Ad E 10))]) (lo' := [(0, (2, (Ad E 1))), (1, (0, a)), (2, (0, p)), (3, (0, d)), (4, (0, sh)), (5, (0, w)), (6, (0, k))]) rfl ?_
                              refine r_getKI hX hP rfl fl_12_336 hS (x := if34) if34e ?_
                              refine r_ex hX hP 1 (pc' := 168) (st' := [(0, k), (0, if34), (2, (Ad E 10))]) (lo' := [(0, (2, (Ad E 1))), (1, (0, a)), (2, (0, p)), (3, (0, d)), (4, (0, sh)), (5, (0, w)), (6, (0, k))]) rfl ?_
                              refine r_iastK hX hP rfl al_10 s48 (by omega) (by omega) (by omega) (by omega) (fun h49 => ?_)
                              refine r_ex hX hP 2 (pc' := 171) (st' := [(2, (Ad E 1)), (2, (Ad E 1))]) (lo' := [(0, (2, (Ad E 1))), (1, (0, a)), (2, (0, p)), (3, (0, d)), (4, (0, sh)), (5, (0, w)), (6, (0, k))]) rfl ?_
                              refine r_getKI hX hP rfl fl_12_336 hS (x := if34) if34e ?_
                              refine r_ex hX hP 2 (pc' := 176) (st' := [(0, (if34 + 1)), (2, (Ad E 1))]) (lo' := [(0, (2, (Ad E 1))), (1, (0, a)), (2, (0, p)), (3, (0, d)), (4, (0, sh)), (5, (0, w)), (6, (0, k))]) rfl ?_
                              refine r_putIK hX hP rfl fp_12_336 hS (by omega) (by omega) (fun h50 => ?_)
                              refine r_ex hX hP 2 (pc' := 182) (st' := [(0, k), (2, (Ad E 1))]) (lo' := [(0, (2, (Ad E 1))), (1, (0, a)), (2, (0, p)), (3, (0, d)), (4, (0, sh)), (5, (0, w)), (6, (0, k))]) rfl ?_
                              refine r_putIK hX hP rfl fp_12_339 hS (by omega) (by omega) (fun h51 => ?_)
                              refine r_ex hX hP 1 (pc' := 186) (st' := [(0, 1)]) (lo' := [(0, (2, (Ad E 1))), (1, (0, a)), (2, (0, p)), (3, (0, d)), (4, (0, sh)), (5, (0, w)), (6, (0, k))]) rfl ?_
                              exact r_retZ hX hP rfl rfl (by omega) (by omega) (by omega) (by omega) ⟨rfl, ⟨_, (hq_up (hq_up (hq_up (hq_up (hq_up (hq_up (hq_up (hq_up (hq_up (hq_up (hq_refl _ _ _) rfl) rfl) rfl) rfl) rfl) rfl) rfl) rfl) rfl) rfl).symm⟩, 1, rfl, (by omega)⟩
                            · skip
                              refine r_ex hX hP 2 (pc' := 102) (st' := [(0, 4), (2, (Ad E 1))]) (lo' := [(0, (2, (Ad E 1))), (1, (0, a)), (2, (0, p)), (3, (0, d)), (4, (0, sh)), (5, (0, w)), (6, (0, k))]) rfl ?_
                              refine r_callV gd hX hP rfl cv_12_321 hS (d' := 0) (mc' := 0) (ms' := 0) (as' := [(0, 4)]) (st := []) (by omega) (by omega) (by omega) rfl rfl (Nat.le_of_ble_eq_true rfl) (c_X12_no E S (up (up G 1 (Ad E 1) 1 0) 1 (Ad E 1) 0 0) 4 hS (by omega) (by omega)) ?_
                              rintro _ _ _ ⟨rfl, ⟨G52, rfl⟩, z53, rfl, rfl⟩
                              exact r_retZ hX hP rfl rfl (by omega) (by omega) (by omega) (by omega) ⟨rfl, ⟨_, (hq_call (hq_up (hq_up (hq_refl _ _ _) rfl) rfl) rfl).symm⟩, 0, rfl, (by omega)⟩
                          · skip
                            refine r_ex hX hP 2 (pc' := 87) (st' := [(0, 3), (2, (Ad E 1))]) (lo' := [(0, (2, (Ad E 1))), (1, (0, a)), (2, (0, p)), (3, (0, d)), (4, (0, sh)), (5, (0, w)), (6, (0, k))]) rfl ?_
                            refine r_callV gd hX hP rfl cv_12_321 hS (d' := 0) (mc' := 0) (ms' := 0) (as' := [(0, 3)]) (st := []) (by omega) (by omega) (by omega) rfl rfl (Nat.le_of_ble_eq_true rfl) (c_X12_no E S (up (up G 1 (Ad E 1) 1 0) 1 (Ad E 1) 0 0) 3 hS (by omega) (by omega)) ?_
                            rintro _ _ _ ⟨rfl, ⟨G54, rfl⟩, z55, rfl, rfl⟩
                            exact r_retZ hX hP rfl rfl (by omega) (by omega) (by omega) (by omega) ⟨rfl, ⟨_, (hq_call (hq_up (hq_up (hq_refl _ _ _) rfl) rfl) rfl).symm⟩, 0, rfl, (by omega)⟩
                        · skip
                          exfalso; omega
                      · skip
                        refine r_if_ne hX hP rfl (tgt := 76) rfl (by omega) (by omega) (fun c56 => ?_) (fun c56 => ?_)
                        · skip
                          exfalso; omega
                        · skip
                          refine r_ex hX hP 2 (pc' := 72) (st' := [(0, 2), (2, (Ad E 1))]) (lo' := [(0, (2, (Ad E 1))), (1, (0, a)), (2, (0, p)), (3, (0, d)), (4, (0, sh)), (5, (0, w)), (6, (0, k))]) rfl ?_
                          refine r_callV gd hX hP rfl cv_12_321 hS (d' := 0) (mc' := 0) (ms' := 0) (as' := [(0, 2)]) (st := []) (by omega) (by omega) (by omega) rfl rfl (Nat.le_of_ble_eq_true rfl) (c_X12_no E S (up (up G 1 (Ad E 1) 1 0) 1 (Ad E 1) 0 0) 2 hS (by omega) (by omega)) ?_
                          rintro _ _ _ ⟨rfl, ⟨G57, rfl⟩, z58, rfl, rfl⟩
                          exact r_retZ hX hP rfl rfl (by omega) (by omega) (by omega) (by omega) ⟨rfl, ⟨_, (hq_call (hq_up (hq_up (hq_refl _ _ _) rfl) rfl) rfl).symm⟩, 0, rfl, (by omega)⟩
                  · skip
                    refine r_if_eq hX hP rfl (tgt := 70) rfl (by omega) (by omega) (fun c59 => ?_) (fun c59 => ?_)
                    · skip
                      refine r_ex hX hP 2 (pc' := 72) (st' := [(0, 2), (2, (Ad E 1))]) (lo' := [(0, (2, (Ad E 1))), (1, (0, a)), (2, (0, p)), (3, (0, d)), (4, (0, sh)), (5, (0, w)), (6, (0, k))]) rfl ?_
                      refine r_callV gd hX hP rfl cv_12_321 hS (d' := 0) (mc' := 0) (ms' := 0) (as' := [(0, 2)]) (st := []) (by omega) (by omega) (by omega) rfl rfl (Nat.le_of_ble_eq_true rfl) (c_X12_no E S (up (up G 1 (Ad E 1) 1 0) 1 (Ad E 1) 0 0) 2 hS (by omega) (by omega)) ?_
                      rintro _ _ _ ⟨rfl, ⟨G60, rfl⟩, z61, rfl, rfl⟩
                      exact r_retZ hX hP rfl rfl (by omega) (by omega) (by omega) (by omega) ⟨rfl, ⟨_, (hq_call (hq_up (hq_up (hq_refl _ _ _) rfl) rfl) rfl).symm⟩, 0, rfl, (by omega)⟩
                    · skip
                      exfalso; omega
              · skip
                refine r_if_eq hX hP rfl (tgt := 70) rfl (by omega) (by omega) (fun c62 => ?_) (fun c62 => ?_)
                · skip
                  refine r_ex hX hP 2 (pc' := 72) (st' := [(0, 2), (2, (Ad E 1))]) (lo' := [(0, (2, (Ad E 1))), (1, (0, a)), (2, (0, p)), (3, (0, d)), (4, (0, sh)), (5, (0, w)), (6, (0, k))]) rfl ?_
                  refine r_callV gd hX hP rfl cv_12_321 hS (d' := 0) (mc' := 0) (ms' := 0) (as' := [(0, 2)]) (st := []) (by omega) (by omega) (by omega) rfl rfl (Nat.le_of_ble_eq_true rfl) (c_X12_no E S (up (up G 1 (Ad E 1) 1 0) 1 (Ad E 1) 0 0) 2 hS (by omega) (by omega)) ?_
                  rintro _ _ _ ⟨rfl, ⟨G63, rfl⟩, z64, rfl, rfl⟩
                  exact r_retZ hX hP rfl rfl (by omega) (by omega) (by omega) (by omega) ⟨rfl, ⟨_, (hq_call (hq_up (hq_up (hq_refl _ _ _) rfl) rfl) rfl).symm⟩, 0, rfl, (by omega)⟩
                · skip
                  exfalso; omega
          · skip
            refine r_if_eq hX hP rfl (tgt := 70) rfl (by omega) (by omega) (fun c65 => ?_) (fun c65 => ?_)
            · skip
              refine r_ex hX hP 2 (pc' := 72) (st' := [(0, 2), (2, (Ad E 1))]) (lo' := [(0, (2, (Ad E 1))), (1, (0, a)), (2, (0, p)), (3, (0, d)), (4, (0, sh)), (5, (0, w)), (6, (0, k))]) rfl ?_
              refine r_callV gd hX hP rfl cv_12_321 hS (d' := 0) (mc' := 0) (ms' := 0) (as' := [(0, 2)]) (st := []) (by omega) (by omega) (by omega) rfl rfl (Nat.le_of_ble_eq_true rfl) (c_X12_no E S (up (up G 1 (Ad E 1) 1 0) 1 (Ad E 1) 0 0) 2 hS (by omega) (by omega)) ?_
              rintro _ _ _ ⟨rfl, ⟨G66, rfl⟩, z67, rfl, rfl⟩
              exact r_retZ hX hP rfl rfl (by omega) (by omega) (by omega) (by omega) ⟨rfl, ⟨_, (hq_call (hq_up (hq_up (hq_refl _ _ _) rfl) rfl) rfl).symm⟩, 0, rfl, (by omega)⟩
            · skip
              exfalso; omega
        · skip
          exfalso; omega
      · skip
        refine r_if_ne hX hP rfl (tgt := 31) rfl (by omega) (by omega) (fun c68 => ?_) (fun c68 => ?_)
        · skip
          exfalso; omega
        · skip
          refine r_ex hX hP 2 (pc' := 27) (st' := [(0, 1), (2, (Ad E 1))]) (lo' := [(0, (2, (Ad E 1))), (1, (0, a)), (2, (0, p)), (3, (0, d)), (4, (0, sh)), (5, (0, w)), (6, (0, k))]) rfl ?_
          refine r_callV gd hX hP rfl cv_12_321 hS (d' := 0) (mc' := 0) (ms' := 0) (as' := [(0, 1)]) (st := []) (by omega) (by omega) (by omega) rfl rfl (Nat.le_of_ble_eq_true rfl) (c_X12_no E S (up (up G 1 (Ad E 1) 1 0) 1 (Ad E 1) 0 0) 1 hS (by omega) (by omega)) ?_
          rintro _ _ _ ⟨rfl, ⟨G69, rfl⟩, z70, rfl, rfl⟩
          exact r_retZ hX hP rfl rfl (by omega) (by omega) (by omega) (by omega) ⟨rfl, ⟨_, (hq_call (hq_up (hq_up (hq_refl _ _ _) rfl) rfl) rfl).symm⟩, 0, rfl, (by omega)⟩
  · skip
    refine r_if_eq hX hP rfl (tgt := 25) rfl (by omega) (by omega) (fun c71 => ?_) (fun c71 => ?_)
    · skip
      refine r_ex hX hP 2 (pc' := 27) (st' := [(0, 1), (2, (Ad E 1))]) (lo' := [(0, (2, (Ad E 1))), (1, (0, a)), (2, (0, p)), (3, (0, d)), (4, (0, sh)), (5, (0, w)), (6, (0, k))]) rfl ?_
      refine r_callV gd hX hP rfl cv_12_321 hS (d' := 0) (mc' := 0) (ms' := 0) (as' := [(0, 1)]) (st := []) (by omega) (by omega) (by omega) rfl rfl (Nat.le_of_ble_eq_true rfl) (c_X12_no E S (up (up G 1 (Ad E 1) 1 0) 1 (Ad E 1) 0 0) 1 hS (by omega) (by omega)) ?_
      rintro _ _ _ ⟨rfl, ⟨G72, rfl⟩, z73, rfl, rfl⟩
      exact r_retZ hX hP rfl rfl (by omega) (by omega) (by omega) (by omega) ⟨rfl, ⟨_, (hq_call (hq_up (hq_up (hq_refl _ _ _) rfl) rfl) rfl).symm⟩, 0, rfl, (by omega)⟩
    · skip
      exfalso; omega
set_option maxRecDepth 100000 in
set_option maxHeartbeats 4000000 in
theorem c_X12_look (E : En) (S : Sg) (G : Gh) (k : Int) (hS : S (Ad E 1) = 1) (textEnd : Int) (textEnd_e : textEnd = G 1 (Ad E 1) 77) (k_a : 0 ≤ k) (k_b : k ≤ 400) : Calls E mX12_look [(2, (Ad E 1)), (0, k)] S G 0 0 0 (fun r S' G' => S = S' ∧ G = G' ∧ ∃ z : Int, r = some (0, z) ∧ ((0 ≤ z ∧ z ≤ 255 ∧ k < textEnd) ∨ (z = 0 ∧ textEnd ≤ k))) := by
  refine calls_by [(0, (2, (Ad E 1))), (1, (0, k))] rfl rfl (Nat.le_of_ble_eq_true rfl) (fun X hX => ?_)
  have hP := hPX12_look
  refine r_peekI hX (tl1 77 rfl (by decide)) hS (fun textEnd_o textEnd_oe textEnd_oa textEnd_ob => ?_)
  obtain rfl : textEnd = textEnd_o := textEnd_e.trans textEnd_oe.symm
  refine r_ex hX hP 2 (pc' := 2) (st' := [(2, (Ad E 1)), (0, k)]) (lo' := [(0, (2, (Ad E 1))), (1, (0, k))]) rfl ?_
  refine r_getKI hX hP rfl fl_12_346 hS (x := textEnd) textEnd_e ?_
  refine r_ic_ge hX hP rfl (tgt := 21) rfl (by omega) (by omega) (by omega) (by omega) (fun c1 => ?_) (fun c1 => ?_)
  · skip
    refine r_ex hX hP 1 (pc' := 22) (st' := [(0, 0)]) (lo' := [(0, (2, (Ad E 1))), (1, (0, k))]) rfl ?_
    exact r_retI hX hP rfl rfl (by omega) (by omega) ⟨rfl, rfl, 0, rfl, (by omega)⟩
  · skip
    refine r_ex hX hP 1 (pc' := 9) (st' := [(2, (Ad E 1))]) (lo' := [(0, (2, (Ad E 1))), (1, (0, k))]) rfl ?_
    refine r_getC hX hP rfl fl_12_200 hS (fun s2 => ?_)
    refine r_ex hX hP 1 (pc' := 13) (st' := [(0, k), (2, (Ad E 61))]) (lo' := [(0, (2, (Ad E 1))), (1, (0, k))]) rfl ?_
    refine r_bald hX hP rfl al_61 s2 (by omega) (by omega) (fun x3 x3e x3a x3b => ?_)
    refine r_ex hX hP 1 (pc' := 17) (st' := [(0, 255), (0, x3)]) (lo' := [(0, (2, (Ad E 1))), (1, (0, k))]) rfl ?_
    refine r_iand hX hP rfl (fun b4 b4a b4b b4e => ?_)
    have b4d := iand_bd b4a b4b b4e (by omega) (by omega)
    refine r_ex hX hP 1 (pc' := 22) (st' := [(0, b4)]) (lo' := [(0, (2, (Ad E 1))), (1, (0, k))]) rfl ?_
    exact r_retI hX hP rfl rfl (by omega) (by omega) ⟨rfl, rfl, b4, rfl, (by omega)⟩
set_option maxRecDepth 100000 in
set_option maxHeartbeats 4000000 in
theorem c_X12_isLetter (E : En) (S : Sg) (G : Gh) (c : Int) (c_a : 0 ≤ c) (c_b : c ≤ 255) : Calls E mX12_isLetter [(0, c)] S G 0 0 0 (fun r S' G' => S = S' ∧ G = G' ∧ ∃ z : Int, r = some (0, z) ∧ ((z = 1 ∧ 97 ≤ c ∧ c ≤ 122) ∨ (z = 0 ∧ (c < 97 ∨ 122 < c)))) := by
  refine calls_by [(0, (0, c))] rfl rfl (Nat.le_of_ble_eq_true rfl) (fun X hX => ?_)
  have hP := hPX12_isLetter
  refine r_ex hX hP 2 (pc' := 3) (st' := [(0, 97), (0, c)]) (lo' := [(0, (0, c))]) rfl ?_
  refine r_ic_lt hX hP rfl (tgt := 16) rfl (by omega) (by omega) (by omega) (by omega) (fun c1 => ?_) (fun c1 => ?_)
  · skip
    refine r_ex hX hP 1 (pc' := 17) (st' := [(0, 0)]) (lo' := [(0, (0, c))]) rfl ?_
    exact r_retZ hX hP rfl rfl (by omega) (by omega) (by omega) (by omega) ⟨rfl, rfl, 0, rfl, (by omega)⟩
  · skip
    refine r_ex hX hP 2 (pc' := 9) (st' := [(0, 122), (0, c)]) (lo' := [(0, (0, c))]) rfl ?_
    refine r_ic_gt hX hP rfl (tgt := 16) rfl (by omega) (by omega) (by omega) (by omega) (fun c2 => ?_) (fun c2 => ?_)
    · skip
      refine r_ex hX hP 1 (pc' := 17) (st' := [(0, 0)]) (lo' := [(0, (0, c))]) rfl ?_
      exact r_retZ hX hP rfl rfl (by omega) (by omega) (by omega) (by omega) ⟨rfl, rfl, 0, rfl, (by omega)⟩
    · skip
      refine r_ex hX hP 2 (pc' := 17) (st' := [(0, 1)]) (lo' := [(0, (0, c))]) rfl ?_
      exact r_retZ hX hP rfl rfl (by omega) (by omega) (by omega) (by omega) ⟨rfl, rfl, 1, rfl, (by omega)⟩
set_option maxRecDepth 100000 in
set_option maxHeartbeats 4000000 in
theorem c_X12_isDigit (E : En) (S : Sg) (G : Gh) (c : Int) (c_a : 0 ≤ c) (c_b : c ≤ 255) : Calls E mX12_isDigit [(0, c)] S G 0 0 0 (fun r S' G' => S = S' ∧ G = G' ∧ ∃ z : Int, r = some (0, z) ∧ ((z = 1 ∧ 48 ≤ c ∧ c ≤ 57) ∨ (z = 0 ∧ (c < 48 ∨ 57 < c)))) := by
  refine calls_by [(0, (0, c))] rfl rfl (Nat.le_of_ble_eq_true rfl) (fun X hX => ?_)
  have hP := hPX12_isDigit
  refine r_ex hX hP 2 (pc' := 3) (st' := [(0, 48), (0, c)]) (lo' := [(0, (0, c))]) rfl ?_
  refine r_ic_lt hX hP rfl (tgt := 16) rfl (by omega) (by omega) (by omega) (by omega) (fun c1 => ?_) (fun c1 => ?_)
  · skip
    refine r_ex hX hP 1 (pc' := 17) (st' := [(0, 0)]) (lo' := [(0, (0, c))]) rfl ?_
    exact r_retZ hX hP rfl rfl (by omega) (by omega) (by omega) (by omega) ⟨rfl, rfl, 0, rfl, (by omega)⟩
  · skip
    refine r_ex hX hP 2 (pc' := 9) (st' := [(0, 57), (0, c)]) (lo' := [(0, (0, c))]) rfl ?_
    refine r_ic_gt hX hP rfl (tgt := 16) rfl (by omega) (by omega) (by omega) (by omega) (fun c2 => ?_) (fun c2 => ?_)
    · skip
      refine r_ex hX hP 1 (pc' := 17) (st' := [(0, 0)]) (lo' := [(0, (0, c))]) rfl ?_
      exact r_retZ hX hP rfl rfl (by omega) (by omega) (by omega) (by omega) ⟨rfl, rfl, 0, rfl, (by omega)⟩
    · skip
      refine r_ex hX hP 2 (pc' := 17) (st' := [(0, 1)]) (lo' := [(0, (0, c))]) rfl ?_
      exact r_retZ hX hP rfl rfl (by omega) (by omega) (by omega) (by omega) ⟨rfl, rfl, 1, rfl, (by omega)⟩
set_option maxRecDepth 100000 in
set_option maxHeartbeats 4000000 in
theorem c_X12_next (E : En) (S : Sg) (G : Gh) (hS : S (Ad E 1) = 1) : Calls E mX12_next [(2, (Ad E 1))] S G 1 0 0 (fun r S' G' => S = S' ∧ (∃ G1, hv [82, 83, 84, 85, 86, 87] [] G G1 = G') ∧ r = none ∧ True) := by
  refine calls_by [(0, (2, (Ad E 1)))] rfl rfl (Nat.le_of_ble_eq_true rfl) (fun X hX => ?_)
  have hP := hPX12_next
  refine r_ex hX hP 2 (pc' := 2) (st' := [(2, (Ad E 1)), (2, (Ad E 1))]) (lo' := [(0, (2, (Ad E 1)))]) rfl ?_
  refine r_getI hX hP rfl fl_12_349 hS (fun bf1 bf1e bf1a bf1b => ?_)
  refine r_putIK hX hP rfl fp_12_352 hS (by omega) (by omega) (fun h2 => ?_)
  have x58 : ∀ (at_x58 : Int) (Gx58 : Gh), at_x58 = (hv [83] [] (up G 1 (Ad E 1) 83 bf1) Gx58) 1 (Ad E 1) 83 → 0 ≤ at_x58 → at_x58 ≤ 400 → X 0 0 58 [] [(0, (2, (Ad E 1)))] S (hv [83] [] (up G 1 (Ad E 1) 83 bf1) Gx58) := by
    intro at_x58 Gx58 at_x58_e yx58_0 yx58_1
    refine r_ex hX hP 2 (pc' := 60) (st' := [(2, (Ad E 1)), (2, (Ad E 1))]) (lo' := [(0, (2, (Ad E 1)))]) rfl ?_
    refine r_getKI hX hP rfl fl_12_352 hS (x := at_x58) at_x58_e ?_
    refine r_putIK hX hP rfl fp_12_349 hS (by omega) (by omega) (fun h3 => ?_)
    refine r_ex hX hP 1 (pc' := 67) (st' := [(2, (Ad E 1))]) (lo' := [(0, (2, (Ad E 1)))]) rfl ?_
    refine r_getKI hX hP rfl fl_12_352 hS (x := at_x58) at_x58_e ?_
    refine r_ex hX hP 1 (pc' := 71) (st' := [(2, (Ad E 1)), (0, at_x58)]) (lo' := [(0, (2, (Ad E 1)))]) rfl ?_
    refine r_getI hX hP rfl fl_12_346 hS (fun tf4 tf4e tf4a tf4b => ?_)
    refine r_ic_lt hX hP rfl (tgt := 83) rfl (by omega) (by omega) (by omega) (by omega) (fun c5 => ?_) (fun c5 => ?_)
    · skip
      refine r_ex hX hP 2 (pc' := 85) (st' := [(2, (Ad E 1)), (2, (Ad E 1))]) (lo' := [(0, (2, (Ad E 1)))]) rfl ?_
      refine r_getKI hX hP rfl fl_12_352 hS (x := at_x58) at_x58_e ?_
      refine r_callV gd hX hP rfl cv_12_355 hS (d' := 0) (mc' := 0) (ms' := 0) (as' := [(0, at_x58)]) (st := []) (by omega) (by omega) (by omega) rfl rfl (Nat.le_of_ble_eq_true rfl) (c_X12_look E S (up (hv [83] [] (up G 1 (Ad E 1) 83 bf1) Gx58) 1 (Ad E 1) 84 at_x58) at_x58 hS tf4 tf4e (by omega) (by omega)) ?_
      rintro _ _ _ ⟨rfl, rfl, z6, rfl, (⟨z6a, z6b, f7⟩ | ⟨rfl, f8⟩)⟩
      · skip
        refine r_ex hX hP 2 (pc' := 93) (st' := [(0, z6)]) (lo' := [(0, (2, (Ad E 1))), (1, (0, z6))]) rfl ?_
        refine r_callS gd hX hP rfl cs_12_361 (d' := 0) (mc' := 0) (ms' := 0) (as' := [(0, z6)]) (st := []) (by omega) (by omega) (by omega) rfl rfl (Nat.le_of_ble_eq_true rfl) (c_X12_isLetter E S (up (hv [83] [] (up G 1 (Ad E 1) 83 bf1) Gx58) 1 (Ad E 1) 84 at_x58) z6 (by omega) (by omega)) ?_
        rintro _ _ _ ⟨rfl, rfl, z9, rfl, (⟨rfl, f10, f11⟩ | ⟨rfl, f12⟩)⟩
        · skip
          refine r_if_eq hX hP rfl (tgt := 198) rfl (by omega) (by omega) (fun c13 => ?_) (fun c13 => ?_)
          · skip
            exfalso; omega
          · skip
            refine r_ex hX hP 2 (pc' := 101) (st' := [(0, 1), (2, (Ad E 1))]) (lo' := [(0, (2, (Ad E 1))), (1, (0, z6))]) rfl ?_
            refine r_putIK hX hP rfl fp_12_358 hS (by omega) (by omega) (fun h14 => ?_)
            refine r_ex hX hP 2 (pc' := 106) (st' := [(1, 0), (2, (Ad E 1))]) (lo' := [(0, (2, (Ad E 1))), (1, (0, z6))]) rfl ?_
            refine r_putLK hX hP rfl fp_12_364 hS (by omega) (by omega) (fun h15 => ?_)
            have x182 : ∀ (behind_x182 : Int) (Gx182 : Gh), behind_x182 = (hv [84, 87] [] (up (up (up (hv [83] [] (up G 1 (Ad E 1) 83 bf1) Gx58) 1 (Ad E 1) 84 at_x58) 1 (Ad E 1) 82 1) 1 (Ad E 1) 87 0) Gx182) 1 (Ad E 1) 84 → 0 ≤ behind_x182 → behind_x182 ≤ 400 → X 0 0 182 [] [(0, (2, (Ad E 1))), (1, (0, z6))] S (hv [84, 87] [] (up (up (up (hv [83] [] (up G 1 (Ad E 1) 83 bf1) Gx58) 1 (Ad E 1) 84 at_x58) 1 (Ad E 1) 82 1) 1 (Ad E 1) 87 0) Gx182) := by
              intro behind_x182 Gx182 behind_x182_e yx182_0 yx182_1
              refine r_ex hX hP 2 (pc' := 184) (st' := [(2, (Ad E 1)), (2, (Ad E 1))]) (lo' := [(0, (2, (Ad E 1))), (1, (0, z6))]) rfl ?_
              refine r_getKI hX hP rfl fl_12_349 hS (x := behind_x182) behind_x182_e ?_
              refine r_ex hX hP 1 (pc' := 188) (st' := [(2, (Ad E 1)), (0, behind_x182), (2, (Ad E 1))]) (lo' := [(0, (2, (Ad E 1))), (1, (0, z6))]) rfl ?_
              refine r_getKI hX hP rfl fl_12_352 hS (x := at_x58) at_x58_e ?_
              refine r_ex hX hP 1 (pc' := 192) (st' := [(0, (behind_x182 - at_x58)), (2, (Ad E 1))]) (lo' := [(0, (2, (Ad E 1))), (1, (0, z6))]) rfl ?_
              refine r_putIK hX hP rfl fp_12_373 hS (by omega) (by omega) (fun h16 => ?_)
              refine r_ex hX hP 1 (pc' := 354) (st' := []) (lo' := [(0, (2, (Ad E 1))), (1, (0, z6))]) rfl ?_
              exact r_retV hX hP rfl rfl (by omega) (by omega) ⟨rfl, ⟨_, (hq_up (hq_loop (hq_up (hq_up (hq_up (hq_loop (hq_up (hq_refl _ _ _) rfl) rfl) rfl) rfl) rfl) rfl) rfl).symm⟩, rfl, trivial⟩
            have loop109 : ∀ (nF : Nat) (behind_h109 : Int) (Gh109 : Gh), behind_h109 = (hv [84, 87] [] (up (up (up (hv [83] [] (up G 1 (Ad E 1) 83 bf1) Gx58) 1 (Ad E 1) 84 at_x58) 1 (Ad E 1) 82 1) 1 (Ad E 1) 87 0) Gh109) 1 (Ad E 1) 84 → 0 ≤ behind_h109 → behind_h109 ≤ 400 → 400 - behind_h109 < (nF : Int) → X 0 0 109 [] [(0, (2, (Ad E 1))), (1, (0, z6))] S (hv [84, 87] [] (up (up (up (hv [83] [] (up G 1 (Ad E 1) 83 bf1) Gx58) 1 (Ad E 1) 84 at_x58) 1 (Ad E 1) 82 1) 1 (Ad E 1) 87 0) Gh109) := by
              intro nF
              induction nF with
              | zero => intro behind_h109 Gh109 behind_h109_e yh109_0 yh109_1 ym109; exfalso; omega
              | succ nF ih109 =>
                intro behind_h109 Gh109 behind_h109_e yh109_0 yh109_1 ym109
                refine r_ex hX hP 2 (pc' := 111) (st' := [(2, (Ad E 1)), (2, (Ad E 1))]) (lo' := [(0, (2, (Ad E 1))), (1, (0, z6))]) rfl ?_
                refine r_getKI hX hP rfl fl_12_349 hS (x := behind_h109) behind_h109_e ?_
                refine r_callV gd hX hP rfl cv_12_355 hS (d' := 0) (mc' := 0) (ms' := 0) (as' := [(0, behind_h109)]) (st := []) (by omega) (by omega) (by omega) rfl rfl (Nat.le_of_ble_eq_true rfl) (c_X12_look E S (hv [84, 87] [] (up (up (up (hv [83] [] (up G 1 (Ad E 1) 83 bf1) Gx58) 1 (Ad E 1) 84 at_x58) 1 (Ad E 1) 82 1) 1 (Ad E 1) 87 0) Gh109) behind_h109 hS tf4 tf4e (by omega) (by omega)) ?_
                rintro _ _ _ ⟨rfl, rfl, z17, rfl, (⟨z17a, z17b, f18⟩ | ⟨rfl, f19⟩)⟩
                · skip
                  refine r_callS gd hX hP rfl cs_12_361 (d' := 0) (mc' := 0) (ms' := 0) (as' := [(0, z17)]) (st := []) (by omega) (by omega) (by omega) rfl rfl (Nat.le_of_ble_eq_true rfl) (c_X12_isLetter E S (hv [84, 87] [] (up (up (up (hv [83] [] (up G 1 (Ad E 1) 83 bf1) Gx58) 1 (Ad E 1) 84 at_x58) 1 (Ad E 1) 82 1) 1 (Ad E 1) 87 0) Gh109) z17 (by omega) (by omega)) ?_
                  rintro _ _ _ ⟨rfl, rfl, z20, rfl, (⟨rfl, f21, f22⟩ | ⟨rfl, f23⟩)⟩
                  · skip
                    refine r_if_eq hX hP rfl (tgt := 182) rfl (by omega) (by omega) (fun c24 => ?_) (fun c24 => ?_)
                    · skip
                      exfalso; omega
                    · skip
                      have j166 : ∀ (k0_j166 : Int), (-9223372036854775808) ≤ k0_j166 → k0_j166 ≤ 9223372036854775807 → X 0 0 166 [(1, k0_j166), (2, (Ad E 1))] [(0, (2, (Ad E 1))), (1, (0, z6))] S (hv [84, 87] [] (up (up (up (hv [83] [] (up G 1 (Ad E 1) 83 bf1) Gx58) 1 (Ad E 1) 84 at_x58) 1 (Ad E 1) 82 1) 1 (Ad E 1) 87 0) Gh109) := by
                        intro k0_j166 yj166_0 yj166_1
                        refine r_putLK hX hP rfl fp_12_364 hS (by omega) (by omega) (fun h25 => ?_)
                        refine r_ex hX hP 2 (pc' := 171) (st' := [(2, (Ad E 1)), (2, (Ad E 1))]) (lo' := [(0, (2, (Ad E 1))), (1, (0, z6))]) rfl ?_
                        refine r_getKI hX hP rfl fl_12_349 hS (x := behind_h109) behind_h109_e ?_
                        refine r_ex hX hP 2 (pc' := 176) (st' := [(0, (behind_h109 + 1)), (2, (Ad E 1))]) (lo' := [(0, (2, (Ad E 1))), (1, (0, z6))]) rfl ?_
                        refine r_putIK hX hP rfl fp_12_349 hS (by omega) (by omega) (fun h26 => ?_)
                        refine r_ex hX hP 1 (pc' := 109) (st' := []) (lo' := [(0, (2, (Ad E 1))), (1, (0, z6))]) rfl ?_
                        refine r_eqG (X := X) (hq_up (hq_up (hq_base _ _ _ _) rfl) rfl) ?_
                        exact ih109 (behind_h109 + 1) _ h26 (by omega) (by omega) (by omega)
                      refine r_ex hX hP 2 (pc' := 125) (st' := [(2, (Ad E 1)), (2, (Ad E 1))]) (lo' := [(0, (2, (Ad E 1))), (1, (0, z6))]) rfl ?_
                      refine r_getKI hX hP rfl fl_12_349 hS (x := behind_h109) behind_h109_e ?_
                      refine r_ex hX hP 1 (pc' := 129) (st' := [(2, (Ad E 1)), (0, behind_h109), (2, (Ad E 1))]) (lo' := [(0, (2, (Ad E 1))), (1, (0, z6))]) rfl ?_
                      refine r_getKI hX hP rfl fl_12_352 hS (x := at_x58) at_x58_e ?_
                      refine r_ex hX hP 2 (pc' := 135) (st' := [(0, 12), (0, (behind_h109 - at_x58)), (2, (Ad E 1))]) (lo' := [(0, (2, (Ad E 1))), (1, (0, z6))]) rfl ?_
                      refine r_ic_ge hX hP rfl (tgt := 163) rfl (by omega) (by omega) (by omega) (by omega) (fun c27 => ?_) (fun c27 => ?_)
                      · skip
                        refine r_ldc2 hX hP rfl (v := (-1)) (tbg sg9 135 rfl rfl) ?_
                        exact j166 (-1) (by omega) (by omega)
                      · skip
                        refine r_ex hX hP 1 (pc' := 139) (st' := [(2, (Ad E 1)), (2, (Ad E 1))]) (lo' := [(0, (2, (Ad E 1))), (1, (0, z6))]) rfl ?_
                        refine r_getL hX hP rfl fl_12_364 hS (fun wf28 wf28e wf28a wf28b => ?_)
                        refine r_ldc2 hX hP rfl (v := 32) (tbg sg9 133 rfl rfl) ?_
                        refine r_ex hX hP 1 (pc' := 146) (st' := [(1, (wf28 * 32)), (2, (Ad E 1))]) (lo' := [(0, (2, (Ad E 1))), (1, (0, z6))]) rfl ?_
                        refine r_hvL hX (fun w29 w29a w29b w29e => ?_)
                        refine r_ex hX hP 2 (pc' := 148) (st' := [(2, (Ad E 1)), (2, (Ad E 1)), (1, w29), (2, (Ad E 1))]) (lo' := [(0, (2, (Ad E 1))), (1, (0, z6))]) rfl ?_
                        refine r_getKI hX hP rfl fl_12_349 hS (x := behind_h109) behind_h109_e ?_
                        refine r_callV gd hX hP rfl cv_12_355 hS (d' := 0) (mc' := 0) (ms' := 0) (as' := [(0, behind_h109)]) (st := [(1, w29), (2, (Ad E 1))]) (by omega) (by omega) (by omega) rfl rfl (Nat.le_of_ble_eq_true rfl) (c_X12_look E S (hv [84, 87] [] (up (up (up (hv [83] [] (up G 1 (Ad E 1) 83 bf1) Gx58) 1 (Ad E 1) 84 at_x58) 1 (Ad E 1) 82 1) 1 (Ad E 1) 87 0) Gh109) behind_h109 hS tf4 tf4e (by omega) (by omega)) ?_
                        rintro _ _ _ ⟨rfl, rfl, z30, rfl, (⟨z30a, z30b, f31⟩ | ⟨rfl, f32⟩)⟩
                        · skip
                          refine r_i2l hX hP rfl (by omega) (by omega) ?_
                          refine r_ex hX hP 1 (pc' := 156) (st' := [(1, (w29 + z30)), (2, (Ad E 1))]) (lo' := [(0, (2, (Ad E 1))), (1, (0, z6))]) rfl ?_
                          refine r_hvL hX (fun w33 w33a w33b w33e => ?_)
                          refine r_ldc2 hX hP rfl (v := 96) (tbg sg9 134 rfl rfl) ?_
                          refine r_ex hX hP 1 (pc' := 160) (st' := [(1, (w33 - 96)), (2, (Ad E 1))]) (lo' := [(0, (2, (Ad E 1))), (1, (0, z6))]) rfl ?_
                          refine r_hvL hX (fun w34 w34a w34b w34e => ?_)
                          refine r_ex hX hP 1 (pc' := 166) (st' := [(1, w34), (2, (Ad E 1))]) (lo' := [(0, (2, (Ad E 1))), (1, (0, z6))]) rfl ?_
                          exact j166 w34 (by omega) (by omega)
                        · skip
                          refine r_i2l hX hP rfl (by omega) (by omega) ?_
                          refine r_ex hX hP 1 (pc' := 156) (st' := [(1, (w29 + 0)), (2, (Ad E 1))]) (lo' := [(0, (2, (Ad E 1))), (1, (0, z6))]) rfl ?_
                          refine r_ldc2 hX hP rfl (v := 96) (tbg sg9 134 rfl rfl) ?_
                          refine r_ex hX hP 1 (pc' := 160) (st' := [(1, ((w29 + 0) - 96)), (2, (Ad E 1))]) (lo' := [(0, (2, (Ad E 1))), (1, (0, z6))]) rfl ?_
                          refine r_hvL hX (fun w35 w35a w35b w35e => ?_)
                          refine r_ex hX hP 1 (pc' := 166) (st' := [(1, w35), (2, (Ad E 1))]) (lo' := [(0, (2, (Ad E 1))), (1, (0, z6))]) rfl ?_
                          exact j166 w35 (by omega) (by omega)
                  · skip
                    refine r_if_eq hX hP rfl (tgt := 182) rfl (by omega) (by omega) (fun c36 => ?_) (fun c36 => ?_)
                    · skip
                      refine r_eqG (X := X) (hq_loop (hq_refl [84, 87] [] _) rfl) ?_
                      exact x182 behind_h109 _ behind_h109_e (by omega) (by omega)
                    · skip
                      exfalso; omega
                · skip
                  refine r_callS gd hX hP rfl cs_12_361 (d' := 0) (mc' := 0) (ms' := 0) (as' := [(0, 0)]) (st := []) (by omega) (by omega) (by omega) rfl rfl (Nat.le_of_ble_eq_true rfl) (c_X12_isLetter E S (hv [84, 87] [] (up (up (up (hv [83] [] (up G 1 (Ad E 1) 83 bf1) Gx58) 1 (Ad E 1) 84 at_x58) 1 (Ad E 1) 82 1) 1 (Ad E 1) 87 0) Gh109) 0 (by omega) (by omega)) ?_
                  rintro _ _ _ ⟨rfl, rfl, z37, rfl, (⟨rfl, f38, f39⟩ | ⟨rfl, f40⟩)⟩
                  · skip
                    refine r_if_eq hX hP rfl (tgt := 182) rfl (by omega) (by omega) (fun c41 => ?_) (fun c41 => ?_)
                    · skip
                      exfalso; omega
                    · skip
                      have j166 : ∀ (k0_j166 : Int), (-9223372036854775808) ≤ k0_j166 → k0_j166 ≤ 9223372036854775807 → X 0 0 166 [(1, k0_j166), (2, (Ad E 1))] [(0, (2, (Ad E 1))), (1, (0, z6))] S (hv [84, 87] [] (up (up (up (hv [83] [] (up G 1 (Ad E 1) 83 bf1) Gx58) 1 (Ad E 1) 84 at_x58) 1 (Ad E 1) 82 1) 1 (Ad E 1) 87 0) Gh109) := by
                        intro k0_j166 yj166_0 yj166_1
                        refine r_putLK hX hP rfl fp_12_364 hS (by omega) (by omega) (fun h42 => ?_)
                        refine r_ex hX hP 2 (pc' := 171) (st' := [(2, (Ad E 1)), (2, (Ad E 1))]) (lo' := [(0, (2, (Ad E 1))), (1, (0, z6))]) rfl ?_
                        refine r_getKI hX hP rfl fl_12_349 hS (x := behind_h109) behind_h109_e ?_
                        refine r_ex hX hP 2 (pc' := 176) (st' := [(0, (behind_h109 + 1)), (2, (Ad E 1))]) (lo' := [(0, (2, (Ad E 1))), (1, (0, z6))]) rfl ?_
                        refine r_putIK hX hP rfl fp_12_349 hS (by omega) (by omega) (fun h43 => ?_)
                        refine r_ex hX hP 1 (pc' := 109) (st' := []) (lo' := [(0, (2, (Ad E 1))), (1, (0, z6))]) rfl ?_
                        refine r_eqG (X := X) (hq_up (hq_up (hq_base _ _ _ _) rfl) rfl) ?_
                        exact ih109 (behind_h109 + 1) _ h43 (by omega) (by omega) (by omega)
                      refine r_ex hX hP 2 (pc' := 125) (st' := [(2, (Ad E 1)), (2, (Ad E 1))]) (lo' := [(0, (2, (Ad E 1))), (1, (0, z6))]) rfl ?_
                      refine r_getKI hX hP rfl fl_12_349 hS (x := behind_h109) behind_h109_e ?_
                      refine r_ex hX hP 1 (pc' := 129) (st' := [(2, (Ad E 1)), (0, behind_h109), (2, (Ad E 1))]) (lo' := [(0, (2, (Ad E 1))), (1, (0, z6))]) rfl ?_
                      refine r_getKI hX hP rfl fl_12_352 hS (x := at_x58) at_x58_e ?_
                      refine r_ex hX hP 2 (pc' := 135) (st' := [(0, 12), (0, (behind_h109 - at_x58)), (2, (Ad E 1))]) (lo' := [(0, (2, (Ad E 1))), (1, (0, z6))]) rfl ?_
                      refine r_ic_ge hX hP rfl (tgt := 163) rfl (by omega) (by omega) (by omega) (by omega) (fun c44 => ?_) (fun c44 => ?_)
                      · skip
                        refine r_ldc2 hX hP rfl (v := (-1)) (tbg sg9 135 rfl rfl) ?_
                        exact j166 (-1) (by omega) (by omega)
                      · skip
                        refine r_ex hX hP 1 (pc' := 139) (st' := [(2, (Ad E 1)), (2, (Ad E 1))]) (lo' := [(0, (2, (Ad E 1))), (1, (0, z6))]) rfl ?_
                        refine r_getL hX hP rfl fl_12_364 hS (fun wf45 wf45e wf45a wf45b => ?_)
                        refine r_ldc2 hX hP rfl (v := 32) (tbg sg9 133 rfl rfl) ?_
                        refine r_ex hX hP 1 (pc' := 146) (st' := [(1, (wf45 * 32)), (2, (Ad E 1))]) (lo' := [(0, (2, (Ad E 1))), (1, (0, z6))]) rfl ?_
                        refine r_hvL hX (fun w46 w46a w46b w46e => ?_)
                        refine r_ex hX hP 2 (pc' := 148) (st' := [(2, (Ad E 1)), (2, (Ad E 1)), (1, w46), (2, (Ad E 1))]) (lo' := [(0, (2, (Ad E 1))), (1, (0, z6))]) rfl ?_
                        refine r_getKI hX hP rfl fl_12_349 hS (x := behind_h109) behind_h109_e ?_
                        refine r_callV gd hX hP rfl cv_12_355 hS (d' := 0) (mc' := 0) (ms' := 0) (as' := [(0, behind_h109)]) (st := [(1, w46), (2, (Ad E 1))]) (by omega) (by omega) (by omega) rfl rfl (Nat.le_of_ble_eq_true rfl) (c_X12_look E S (hv [84, 87] [] (up (up (up (hv [83] [] (up G 1 (Ad E 1) 83 bf1) Gx58) 1 (Ad E 1) 84 at_x58) 1 (Ad E 1) 82 1) 1 (Ad E 1) 87 0) Gh109) behind_h109 hS tf4 tf4e (by omega) (by omega)) ?_
                        rintro _ _ _ ⟨rfl, rfl, z47, rfl, (⟨z47a, z47b, f48⟩ | ⟨rfl, f49⟩)⟩
                        · skip
                          refine r_i2l hX hP rfl (by omega) (by omega) ?_
                          refine r_ex hX hP 1 (pc' := 156) (st' := [(1, (w46 + z47)), (2, (Ad E 1))]) (lo' := [(0, (2, (Ad E 1))), (1, (0, z6))]) rfl ?_
                          refine r_hvL hX (fun w50 w50a w50b w50e => ?_)
                          refine r_ldc2 hX hP rfl (v := 96) (tbg sg9 134 rfl rfl) ?_
                          refine r_ex hX hP 1 (pc' := 160) (st' := [(1, (w50 - 96)), (2, (Ad E 1))]) (lo' := [(0, (2, (Ad E 1))), (1, (0, z6))]) rfl ?_
                          refine r_hvL hX (fun w51 w51a w51b w51e => ?_)
                          refine r_ex hX hP 1 (pc' := 166) (st' := [(1, w51), (2, (Ad E 1))]) (lo' := [(0, (2, (Ad E 1))), (1, (0, z6))]) rfl ?_
                          exact j166 w51 (by omega) (by omega)
                        · skip
                          refine r_i2l hX hP rfl (by omega) (by omega) ?_
                          refine r_ex hX hP 1 (pc' := 156) (st' := [(1, (w46 + 0)), (2, (Ad E 1))]) (lo' := [(0, (2, (Ad E 1))), (1, (0, z6))]) rfl ?_
                          refine r_ldc2 hX hP rfl (v := 96) (tbg sg9 134 rfl rfl) ?_
                          refine r_ex hX hP 1 (pc' := 160) (st' := [(1, ((w46 + 0) - 96)), (2, (Ad E 1))]) (lo' := [(0, (2, (Ad E 1))), (1, (0, z6))]) rfl ?_
                          refine r_hvL hX (fun w52 w52a w52b w52e => ?_)
                          refine r_ex hX hP 1 (pc' := 166) (st' := [(1, w52), (2, (Ad E 1))]) (lo' := [(0, (2, (Ad E 1))), (1, (0, z6))]) rfl ?_
                          exact j166 w52 (by omega) (by omega)
                  · skip
                    refine r_if_eq hX hP rfl (tgt := 182) rfl (by omega) (by omega) (fun c53 => ?_) (fun c53 => ?_)
                    · skip
                      refine r_eqG (X := X) (hq_loop (hq_refl [84, 87] [] _) rfl) ?_
                      exact x182 behind_h109 _ behind_h109_e (by omega) (by omega)
                    · skip
                      exfalso; omega
            refine r_eqG (X := X) (hq_refl [84, 87] [] _) ?_
            exact loop109 ((400 - at_x58) + 1 : Int).toNat at_x58 _ h3 (by omega) (by omega) (by omega)
        · skip
          refine r_if_eq hX hP rfl (tgt := 198) rfl (by omega) (by omega) (fun c54 => ?_) (fun c54 => ?_)
          · skip
            refine r_ex hX hP 1 (pc' := 199) (st' := [(0, z6)]) (lo' := [(0, (2, (Ad E 1))), (1, (0, z6))]) rfl ?_
            refine r_callS gd hX hP rfl cs_12_376 (d' := 0) (mc' := 0) (ms' := 0) (as' := [(0, z6)]) (st := []) (by omega) (by omega) (by omega) rfl rfl (Nat.le_of_ble_eq_true rfl) (c_X12_isDigit E S (up (hv [83] [] (up G 1 (Ad E 1) 83 bf1) Gx58) 1 (Ad E 1) 84 at_x58) z6 (by omega) (by omega)) ?_
            rintro _ _ _ ⟨rfl, rfl, z55, rfl, (⟨rfl, f56, f57⟩ | ⟨rfl, f58⟩)⟩
            · skip
              refine r_if_eq hX hP rfl (tgt := 300) rfl (by omega) (by omega) (fun c59 => ?_) (fun c59 => ?_)
              · skip
                exfalso; omega
              · skip
                refine r_ex hX hP 2 (pc' := 207) (st' := [(0, 0), (2, (Ad E 1))]) (lo' := [(0, (2, (Ad E 1))), (1, (0, z6))]) rfl ?_
                refine r_putIK hX hP rfl fp_12_379 hS (by omega) (by omega) (fun h60 => ?_)
                have x274 : ∀ (behind_x274 : Int) (Gx274 : Gh), behind_x274 = (hv [84, 85] [] (up (up (hv [83] [] (up G 1 (Ad E 1) 83 bf1) Gx58) 1 (Ad E 1) 84 at_x58) 1 (Ad E 1) 85 0) Gx274) 1 (Ad E 1) 84 → 0 ≤ behind_x274 → behind_x274 ≤ 400 → X 0 0 274 [] [(0, (2, (Ad E 1))), (1, (0, z6))] S (hv [84, 85] [] (up (up (hv [83] [] (up G 1 (Ad E 1) 83 bf1) Gx58) 1 (Ad E 1) 84 at_x58) 1 (Ad E 1) 85 0) Gx274) := by
                  intro behind_x274 Gx274 behind_x274_e yx274_0 yx274_1
                  have j294 : ∀ (k0_j294 : Int), 2 ≤ k0_j294 → k0_j294 ≤ 4 → X 0 0 294 [(0, k0_j294), (2, (Ad E 1))] [(0, (2, (Ad E 1))), (1, (0, z6))] S (hv [84, 85] [] (up (up (hv [83] [] (up G 1 (Ad E 1) 83 bf1) Gx58) 1 (Ad E 1) 84 at_x58) 1 (Ad E 1) 85 0) Gx274) := by
                    intro k0_j294 yj294_0 yj294_1
                    refine r_putIK hX hP rfl fp_12_358 hS (by omega) (by omega) (fun h61 => ?_)
                    refine r_ex hX hP 1 (pc' := 354) (st' := []) (lo' := [(0, (2, (Ad E 1))), (1, (0, z6))]) rfl ?_
                    exact r_retV hX hP rfl rfl (by omega) (by omega) ⟨rfl, ⟨_, (hq_up (hq_loop (hq_up (hq_up (hq_loop (hq_up (hq_refl _ _ _) rfl) rfl) rfl) rfl) rfl) rfl).symm⟩, rfl, trivial⟩
                  refine r_ex hX hP 2 (pc' := 276) (st' := [(2, (Ad E 1)), (2, (Ad E 1))]) (lo' := [(0, (2, (Ad E 1))), (1, (0, z6))]) rfl ?_
                  refine r_getKI hX hP rfl fl_12_349 hS (x := behind_x274) behind_x274_e ?_
                  refine r_ex hX hP 1 (pc' := 280) (st' := [(2, (Ad E 1)), (0, behind_x274), (2, (Ad E 1))]) (lo' := [(0, (2, (Ad E 1))), (1, (0, z6))]) rfl ?_
                  refine r_getKI hX hP rfl fl_12_352 hS (x := at_x58) at_x58_e ?_
                  refine r_ex hX hP 2 (pc' := 286) (st' := [(0, 7), (0, (behind_x274 - at_x58)), (2, (Ad E 1))]) (lo' := [(0, (2, (Ad E 1))), (1, (0, z6))]) rfl ?_
                  refine r_ic_le hX hP rfl (tgt := 293) rfl (by omega) (by omega) (by omega) (by omega) (fun c62 => ?_) (fun c62 => ?_)
                  · skip
                    refine r_ex hX hP 1 (pc' := 294) (st' := [(0, 2), (2, (Ad E 1))]) (lo' := [(0, (2, (Ad E 1))), (1, (0, z6))]) rfl ?_
                    exact j294 2 (by omega) (by omega)
                  · skip
                    refine r_ex hX hP 2 (pc' := 294) (st' := [(0, 4), (2, (Ad E 1))]) (lo' := [(0, (2, (Ad E 1))), (1, (0, z6))]) rfl ?_
                    exact j294 4 (by omega) (by omega)
                have loop210 : ∀ (nF : Nat) (behind_h210 : Int) (Gh210 : Gh), behind_h210 = (hv [84, 85] [] (up (up (hv [83] [] (up G 1 (Ad E 1) 83 bf1) Gx58) 1 (Ad E 1) 84 at_x58) 1 (Ad E 1) 85 0) Gh210) 1 (Ad E 1) 84 → 0 ≤ behind_h210 → behind_h210 ≤ 400 → 400 - behind_h210 < (nF : Int) → X 0 0 210 [] [(0, (2, (Ad E 1))), (1, (0, z6))] S (hv [84, 85] [] (up (up (hv [83] [] (up G 1 (Ad E 1) 83 bf1) Gx58) 1 (Ad E 1) 84 at_x58) 1 (Ad E 1) 85 0) Gh210) := by
                  intro nF
                  induction nF with
                  | zero => intro behind_h210 Gh210 behind_h210_e yh210_0 yh210_1 ym210; exfalso; omega
                  | succ nF ih210 =>
                    intro behind_h210 Gh210 behind_h210_e yh210_0 yh210_1 ym210
                    refine r_ex hX hP 2 (pc' := 212) (st' := [(2, (Ad E 1)), (2, (Ad E 1))]) (lo' := [(0, (2, (Ad E 1))), (1, (0, z6))]) rfl ?_
                    refine r_getKI hX hP rfl fl_12_349 hS (x := behind_h210) behind_h210_e ?_
                    refine r_callV gd hX hP rfl cv_12_355 hS (d' := 0) (mc' := 0) (ms' := 0) (as' := [(0, behind_h210)]) (st := []) (by omega) (by omega) (by omega) rfl rfl (Nat.le_of_ble_eq_true rfl) (c_X12_look E S (hv [84, 85] [] (up (up (hv [83] [] (up G 1 (Ad E 1) 83 bf1) Gx58) 1 (Ad E 1) 84 at_x58) 1 (Ad E 1) 85 0) Gh210) behind_h210 hS tf4 tf4e (by omega) (by omega)) ?_
                    rintro _ _ _ ⟨rfl, rfl, z63, rfl, (⟨z63a, z63b, f64⟩ | ⟨rfl, f65⟩)⟩
                    · skip
                      refine r_callS gd hX hP rfl cs_12_376 (d' := 0) (mc' := 0) (ms' := 0) (as' := [(0, z63)]) (st := []) (by omega) (by omega) (by omega) rfl rfl (Nat.le_of_ble_eq_true rfl) (c_X12_isDigit E S (hv [84, 85] [] (up (up (hv [83] [] (up G 1 (Ad E 1) 83 bf1) Gx58) 1 (Ad E 1) 84 at_x58) 1 (Ad E 1) 85 0) Gh210) z63 (by omega) (by omega)) ?_
                      rintro _ _ _ ⟨rfl, rfl, z66, rfl, (⟨rfl, f67, f68⟩ | ⟨rfl, f69⟩)⟩
                      · skip
                        refine r_if_eq hX hP rfl (tgt := 274) rfl (by omega) (by omega) (fun c70 => ?_) (fun c70 => ?_)
                        · skip
                          exfalso; omega
                        · skip
                          have j261 : ∀ (Gj261 : Gh), X 0 0 261 [] [(0, (2, (Ad E 1))), (1, (0, z6))] S (hv [85] [] (hv [84, 85] [] (up (up (hv [83] [] (up G 1 (Ad E 1) 83 bf1) Gx58) 1 (Ad E 1) 84 at_x58) 1 (Ad E 1) 85 0) Gh210) Gj261) := by
                            intro Gj261
                            refine r_ex hX hP 2 (pc' := 263) (st' := [(2, (Ad E 1)), (2, (Ad E 1))]) (lo' := [(0, (2, (Ad E 1))), (1, (0, z6))]) rfl ?_
                            refine r_getKI hX hP rfl fl_12_349 hS (x := behind_h210) behind_h210_e ?_
                            refine r_ex hX hP 2 (pc' := 268) (st' := [(0, (behind_h210 + 1)), (2, (Ad E 1))]) (lo' := [(0, (2, (Ad E 1))), (1, (0, z6))]) rfl ?_
                            refine r_putIK hX hP rfl fp_12_349 hS (by omega) (by omega) (fun h71 => ?_)
                            refine r_ex hX hP 1 (pc' := 210) (st' := []) (lo' := [(0, (2, (Ad E 1))), (1, (0, z6))]) rfl ?_
                            refine r_eqG (X := X) (hq_up (hq_loop (hq_base _ _ _ _) rfl) rfl) ?_
                            exact ih210 (behind_h210 + 1) _ h71 (by omega) (by omega) (by omega)
                          refine r_ex hX hP 1 (pc' := 225) (st' := [(2, (Ad E 1))]) (lo' := [(0, (2, (Ad E 1))), (1, (0, z6))]) rfl ?_
                          refine r_getKI hX hP rfl fl_12_349 hS (x := behind_h210) behind_h210_e ?_
                          refine r_ex hX hP 1 (pc' := 229) (st' := [(2, (Ad E 1)), (0, behind_h210)]) (lo' := [(0, (2, (Ad E 1))), (1, (0, z6))]) rfl ?_
                          refine r_getKI hX hP rfl fl_12_352 hS (x := at_x58) at_x58_e ?_
                          refine r_ex hX hP 2 (pc' := 235) (st' := [(0, 7), (0, (behind_h210 - at_x58))]) (lo' := [(0, (2, (Ad E 1))), (1, (0, z6))]) rfl ?_
                          refine r_ic_ge hX hP rfl (tgt := 261) rfl (by omega) (by omega) (by omega) (by omega) (fun c72 => ?_) (fun c72 => ?_)
                          · skip
                            refine r_eqG (X := X) (hq_refl [85] [] _) ?_
                            exact j261 _ 
                          · skip
                            refine r_ex hX hP 3 (pc' := 242) (st' := [(2, (Ad E 1)), (0, 10), (2, (Ad E 1))]) (lo' := [(0, (2, (Ad E 1))), (1, (0, z6))]) rfl ?_
                            refine r_getI hX hP rfl fl_12_379 hS (fun nf73 nf73e nf73a nf73b => ?_)
                            refine r_ex hX hP 1 (pc' := 246) (st' := [(0, (10 * nf73)), (2, (Ad E 1))]) (lo' := [(0, (2, (Ad E 1))), (1, (0, z6))]) rfl ?_
                            refine r_hvI hX (fun w74 w74a w74b w74e => ?_)
                            refine r_ex hX hP 2 (pc' := 248) (st' := [(2, (Ad E 1)), (2, (Ad E 1)), (0, w74), (2, (Ad E 1))]) (lo' := [(0, (2, (Ad E 1))), (1, (0, z6))]) rfl ?_
                            refine r_getKI hX hP rfl fl_12_349 hS (x := behind_h210) behind_h210_e ?_
                            refine r_callV gd hX hP rfl cv_12_355 hS (d' := 0) (mc' := 0) (ms' := 0) (as' := [(0, behind_h210)]) (st := [(0, w74), (2, (Ad E 1))]) (by omega) (by omega) (by omega) rfl rfl (Nat.le_of_ble_eq_true rfl) (c_X12_look E S (hv [84, 85] [] (up (up (hv [83] [] (up G 1 (Ad E 1) 83 bf1) Gx58) 1 (Ad E 1) 84 at_x58) 1 (Ad E 1) 85 0) Gh210) behind_h210 hS tf4 tf4e (by omega) (by omega)) ?_
                            rintro _ _ _ ⟨rfl, rfl, z75, rfl, (⟨z75a, z75b, f76⟩ | ⟨rfl, f77⟩)⟩
                            · skip
                              refine r_ex hX hP 1 (pc' := 255) (st' := [(0, (w74 + z75)), (2, (Ad E 1))]) (lo' := [(0, (2, (Ad E 1))), (1, (0, z6))]) rfl ?_
                              refine r_hvI hX (fun w78 w78a w78b w78e => ?_)
                              refine r_ex hX hP 2 (pc' := 258) (st' := [(0, (w78 - 48)), (2, (Ad E 1))]) (lo' := [(0, (2, (Ad E 1))), (1, (0, z6))]) rfl ?_
                              refine r_hvI hX (fun w79 w79a w79b w79e => ?_)
                              refine r_putIK hX hP rfl fp_12_379 hS (by omega) (by omega) (fun h80 => ?_)
                              refine r_eqG (X := X) (hq_up (hq_refl [85] [] _) rfl) ?_
                              exact j261 _ 
                            · skip
                              refine r_ex hX hP 3 (pc' := 258) (st' := [(0, ((w74 + 0) - 48)), (2, (Ad E 1))]) (lo' := [(0, (2, (Ad E 1))), (1, (0, z6))]) rfl ?_
                              refine r_hvI hX (fun w81 w81a w81b w81e => ?_)
                              refine r_putIK hX hP rfl fp_12_379 hS (by omega) (by omega) (fun h82 => ?_)
                              refine r_eqG (X := X) (hq_up (hq_refl [85] [] _) rfl) ?_
                              exact j261 _ 
                      · skip
                        refine r_if_eq hX hP rfl (tgt := 274) rfl (by omega) (by omega) (fun c83 => ?_) (fun c83 => ?_)
                        · skip
                          refine r_eqG (X := X) (hq_loop (hq_refl [84, 85] [] _) rfl) ?_
                          exact x274 behind_h210 _ behind_h210_e (by omega) (by omega)
                        · skip
                          exfalso; omega
                    · skip
                      refine r_callS gd hX hP rfl cs_12_376 (d' := 0) (mc' := 0) (ms' := 0) (as' := [(0, 0)]) (st := []) (by omega) (by omega) (by omega) rfl rfl (Nat.le_of_ble_eq_true rfl) (c_X12_isDigit E S (hv [84, 85] [] (up (up (hv [83] [] (up G 1 (Ad E 1) 83 bf1) Gx58) 1 (Ad E 1) 84 at_x58) 1 (Ad E 1) 85 0) Gh210) 0 (by omega) (by omega)) ?_
                      rintro _ _ _ ⟨rfl, rfl, z84, rfl, (⟨rfl, f85, f86⟩ | ⟨rfl, f87⟩)⟩
                      · skip
                        refine r_if_eq hX hP rfl (tgt := 274) rfl (by omega) (by omega) (fun c88 => ?_) (fun c88 => ?_)
                        · skip
                          exfalso; omega
                        · skip
                          have j261 : ∀ (Gj261 : Gh), X 0 0 261 [] [(0, (2, (Ad E 1))), (1, (0, z6))] S (hv [85] [] (hv [84, 85] [] (up (up (hv [83] [] (up G 1 (Ad E 1) 83 bf1) Gx58) 1 (Ad E 1) 84 at_x58) 1 (Ad E 1) 85 0) Gh210) Gj261) := by
                            intro Gj261
                            refine r_ex hX hP 2 (pc' := 263) (st' := [(2, (Ad E 1)), (2, (Ad E 1))]) (lo' := [(0, (2, (Ad E 1))), (1, (0, z6))]) rfl ?_
                            refine r_getKI hX hP rfl fl_12_349 hS (x := behind_h210) behind_h210_e ?_
                            refine r_ex hX hP 2 (pc' := 268) (st' := [(0, (behind_h210 + 1)), (2, (Ad E 1))]) (lo' := [(0, (2, (Ad E 1))), (1, (0, z6))]) rfl ?_
                            refine r_putIK hX hP rfl fp_12_349 hS (by omega) (by omega) (fun h89 => ?_)
                            refine r_ex hX hP 1 (pc' := 210) (st' := []) (lo' := [(0, (2, (Ad E 1))), (1, (0, z6))]) rfl ?_
                            refine r_eqG (X := X) (hq_up (hq_loop (hq_base _ _ _ _) rfl) rfl) ?_
                            exact ih210 (behind_h210 + 1) _ h89 (by omega) (by omega) (by omega)
                          refine r_ex hX hP 1 (pc' := 225) (st' := [(2, (Ad E 1))]) (lo' := [(0, (2, (Ad E 1))), (1, (0, z6))]) rfl ?_
                          refine r_getKI hX hP rfl fl_12_349 hS (x := behind_h210) behind_h210_e ?_
                          refine r_ex hX hP 1 (pc' := 229) (st' := [(2, (Ad E 1)), (0, behind_h210)]) (lo' := [(0, (2, (Ad E 1))), (1, (0, z6))]) rfl ?_
                          refine r_getKI hX hP rfl fl_12_352 hS (x := at_x58) at_x58_e ?_
                          refine r_ex hX hP 2 (pc' := 235) (st' := [(0, 7), (0, (behind_h210 - at_x58))]) (lo' := [(0, (2, (Ad E 1))), (1, (0, z6))]) rfl ?_
                          refine r_ic_ge hX hP rfl (tgt := 261) rfl (by omega) (by omega) (by omega) (by omega) (fun c90 => ?_) (fun c90 => ?_)
                          · skip
                            refine r_eqG (X := X) (hq_refl [85] [] _) ?_
                            exact j261 _ 
                          · skip
                            refine r_ex hX hP 3 (pc' := 242) (st' := [(2, (Ad E 1)), (0, 10), (2, (Ad E 1))]) (lo' := [(0, (2, (Ad E 1))), (1, (0, z6))]) rfl ?_
                            refine r_getI hX hP rfl fl_12_379 hS (fun nf91 nf91e nf91a nf91b => ?_)
                            refine r_ex hX hP 1 (pc' := 246) (st' := [(0, (10 * nf91)), (2, (Ad E 1))]) (lo' := [(0, (2, (Ad E 1))), (1, (0, z6))]) rfl ?_
                            refine r_hvI hX (fun w92 w92a w92b w92e => ?_)
                            refine r_ex hX hP 2 (pc' := 248) (st' := [(2, (Ad E 1)), (2, (Ad E 1)), (0, w92), (2, (Ad E 1))]) (lo' := [(0, (2, (Ad E 1))), (1, (0, z6))]) rfl ?_
                            refine r_getKI hX hP rfl fl_12_349 hS (x := behind_h210) behind_h210_e ?_
                            refine r_callV gd hX hP rfl cv_12_355 hS (d' := 0) (mc' := 0) (ms' := 0) (as' := [(0, behind_h210)]) (st := [(0, w92), (2, (Ad E 1))]) (by omega) (by omega) (by omega) rfl rfl (Nat.le_of_ble_eq_true rfl) (c_X12_look E S (hv [84, 85] [] (up (up (hv [83] [] (up G 1 (Ad E 1) 83 bf1) Gx58) 1 (Ad E 1) 84 at_x58) 1 (Ad E 1) 85 0) Gh210) behind_h210 hS tf4 tf4e (by omega) (by omega)) ?_
                            rintro _ _ _ ⟨rfl, rfl, z93, rfl, (⟨z93a, z93b, f94⟩ | ⟨rfl, f95⟩)⟩
                            · skip
                              refine r_ex hX hP 1 (pc' := 255) (st' := [(0, (w92 + z93)), (2, (Ad E 1))]) (lo' := [(0, (2, (Ad E 1))), (1, (0, z6))]) rfl ?_
                              refine r_hvI hX (fun w96 w96a w96b w96e => ?_)
                              refine r_ex hX hP 2 (pc' := 258) (st' := [(0, (w96 - 48)), (2, (Ad E 1))]) (lo' := [(0, (2, (Ad E 1))), (1, (0, z6))]) rfl ?_
                              refine r_hvI hX (fun w97 w97a w97b w97e => ?_)
                              refine r_putIK hX hP rfl fp_12_379 hS (by omega) (by omega) (fun h98 => ?_)
                              refine r_eqG (X := X) (hq_up (hq_refl [85] [] _) rfl) ?_
                              exact j261 _ 
                            · skip
                              refine r_ex hX hP 3 (pc' := 258) (st' := [(0, ((w92 + 0) - 48)), (2, (Ad E 1))]) (lo' := [(0, (2, (Ad E 1))), (1, (0, z6))]) rfl ?_
                              refine r_hvI hX (fun w99 w99a w99b w99e => ?_)
                              refine r_putIK hX hP rfl fp_12_379 hS (by omega) (by omega) (fun h100 => ?_)
                              refine r_eqG (X := X) (hq_up (hq_refl [85] [] _) rfl) ?_
                              exact j261 _ 
                      · skip
                        refine r_if_eq hX hP rfl (tgt := 274) rfl (by omega) (by omega) (fun c101 => ?_) (fun c101 => ?_)
                        · skip
                          refine r_eqG (X := X) (hq_loop (hq_refl [84, 85] [] _) rfl) ?_
                          exact x274 behind_h210 _ behind_h210_e (by omega) (by omega)
                        · skip
                          exfalso; omega
                refine r_eqG (X := X) (hq_refl [84, 85] [] _) ?_
                exact loop210 ((400 - at_x58) + 1 : Int).toNat at_x58 _ h3 (by omega) (by omega) (by omega)
            · skip
              refine r_if_eq hX hP rfl (tgt := 300) rfl (by omega) (by omega) (fun c102 => ?_) (fun c102 => ?_)
              · skip
                refine r_ex hX hP 2 (pc' := 302) (st' := [(2, (Ad E 1)), (2, (Ad E 1))]) (lo' := [(0, (2, (Ad E 1))), (1, (0, z6))]) rfl ?_
                refine r_getKI hX hP rfl fl_12_352 hS (x := at_x58) at_x58_e ?_
                refine r_ex hX hP 2 (pc' := 307) (st' := [(0, (at_x58 + 1)), (2, (Ad E 1))]) (lo' := [(0, (2, (Ad E 1))), (1, (0, z6))]) rfl ?_
                refine r_putIK hX hP rfl fp_12_349 hS (by omega) (by omega) (fun h103 => ?_)
                refine r_ex hX hP 2 (pc' := 312) (st' := [(0, z6), (2, (Ad E 1))]) (lo' := [(0, (2, (Ad E 1))), (1, (0, z6))]) rfl ?_
                refine r_putIK hX hP rfl fp_12_379 hS (by omega) (by omega) (fun h104 => ?_)
                refine r_ex hX hP 1 (pc' := 316) (st' := [(2, (Ad E 1))]) (lo' := [(0, (2, (Ad E 1))), (1, (0, z6))]) rfl ?_
                have j351 : ∀ (k0_j351 : Int), 3 ≤ k0_j351 → k0_j351 ≤ 4 → X 0 0 351 [(0, k0_j351), (2, (Ad E 1))] [(0, (2, (Ad E 1))), (1, (0, z6))] S (up (up (up (hv [83] [] (up G 1 (Ad E 1) 83 bf1) Gx58) 1 (Ad E 1) 84 at_x58) 1 (Ad E 1) 84 (at_x58 + 1)) 1 (Ad E 1) 85 z6) := by
                  intro k0_j351 yj351_0 yj351_1
                  refine r_putIK hX hP rfl fp_12_358 hS (by omega) (by omega) (fun h105 => ?_)
                  exact r_retV hX hP rfl rfl (by omega) (by omega) ⟨rfl, ⟨_, (hq_up (hq_up (hq_up (hq_up (hq_loop (hq_up (hq_refl _ _ _) rfl) rfl) rfl) rfl) rfl) rfl).symm⟩, rfl, trivial⟩
                refine r_ex hX hP 2 (pc' := 319) (st' := [(0, 59), (0, z6), (2, (Ad E 1))]) (lo' := [(0, (2, (Ad E 1))), (1, (0, z6))]) rfl ?_
                refine r_ic_eq hX hP rfl (tgt := 346) rfl (by omega) (by omega) (by omega) (by omega) (fun c106 => ?_) (fun c106 => ?_)
                · skip
                  refine r_ex hX hP 2 (pc' := 351) (st' := [(0, 3), (2, (Ad E 1))]) (lo' := [(0, (2, (Ad E 1))), (1, (0, z6))]) rfl ?_
                  exact j351 3 (by omega) (by omega)
                · skip
                  refine r_ex hX hP 2 (pc' := 325) (st' := [(0, 123), (0, z6), (2, (Ad E 1))]) (lo' := [(0, (2, (Ad E 1))), (1, (0, z6))]) rfl ?_
                  refine r_ic_eq hX hP rfl (tgt := 346) rfl (by omega) (by omega) (by omega) (by omega) (fun c107 => ?_) (fun c107 => ?_)
                  · skip
                    refine r_ex hX hP 2 (pc' := 351) (st' := [(0, 3), (2, (Ad E 1))]) (lo' := [(0, (2, (Ad E 1))), (1, (0, z6))]) rfl ?_
                    exact j351 3 (by omega) (by omega)
                  · skip
                    refine r_ex hX hP 2 (pc' := 331) (st' := [(0, 125), (0, z6), (2, (Ad E 1))]) (lo' := [(0, (2, (Ad E 1))), (1, (0, z6))]) rfl ?_
                    refine r_ic_eq hX hP rfl (tgt := 346) rfl (by omega) (by omega) (by omega) (by omega) (fun c108 => ?_) (fun c108 => ?_)
                    · skip
                      refine r_ex hX hP 2 (pc' := 351) (st' := [(0, 3), (2, (Ad E 1))]) (lo' := [(0, (2, (Ad E 1))), (1, (0, z6))]) rfl ?_
                      exact j351 3 (by omega) (by omega)
                    · skip
                      refine r_ex hX hP 2 (pc' := 337) (st' := [(0, 60), (0, z6), (2, (Ad E 1))]) (lo' := [(0, (2, (Ad E 1))), (1, (0, z6))]) rfl ?_
                      refine r_ic_eq hX hP rfl (tgt := 346) rfl (by omega) (by omega) (by omega) (by omega) (fun c109 => ?_) (fun c109 => ?_)
                      · skip
                        refine r_ex hX hP 2 (pc' := 351) (st' := [(0, 3), (2, (Ad E 1))]) (lo' := [(0, (2, (Ad E 1))), (1, (0, z6))]) rfl ?_
                        exact j351 3 (by omega) (by omega)
                      · skip
                        refine r_ex hX hP 2 (pc' := 343) (st' := [(0, 62), (0, z6), (2, (Ad E 1))]) (lo' := [(0, (2, (Ad E 1))), (1, (0, z6))]) rfl ?_
                        refine r_ic_ne hX hP rfl (tgt := 350) rfl (by omega) (by omega) (by omega) (by omega) (fun c110 => ?_) (fun c110 => ?_)
                        · skip
                          refine r_ex hX hP 1 (pc' := 351) (st' := [(0, 4), (2, (Ad E 1))]) (lo' := [(0, (2, (Ad E 1))), (1, (0, z6))]) rfl ?_
                          exact j351 4 (by omega) (by omega)
                        · skip
                          refine r_ex hX hP 2 (pc' := 351) (st' := [(0, 3), (2, (Ad E 1))]) (lo' := [(0, (2, (Ad E 1))), (1, (0, z6))]) rfl ?_
                          exact j351 3 (by omega) (by omega)
              · skip
                exfalso; omega
          · skip
            exfalso; omega
      · skip
        refine r_ex hX hP 2 (pc' := 93) (st' := [(0, 0)]) (lo' := [(0, (2, (Ad E 1))), (1, (0, 0))]) rfl ?_
        refine r_callS gd hX hP rfl cs_12_361 (d' := 0) (mc' := 0) (ms' := 0) (as' := [(0, 0)]) (st := []) (by omega) (by omega) (by omega) rfl rfl (Nat.le_of_ble_eq_true rfl) (c_X12_isLetter E S (up (hv [83] [] (up G 1 (Ad E 1) 83 bf1) Gx58) 1 (Ad E 1) 84 at_x58) 0 (by omega) (by omega)) ?_
        rintro _ _ _ ⟨rfl, rfl, z111, rfl, (⟨rfl, f112, f113⟩ | ⟨rfl, f114⟩)⟩
        · skip
          refine r_if_eq hX hP rfl (tgt := 198) rfl (by omega) (by omega) (fun c115 => ?_) (fun c115 => ?_)
          · skip
            exfalso; omega
          · skip
            refine r_ex hX hP 2 (pc' := 101) (st' := [(0, 1), (2, (Ad E 1))]) (lo' := [(0, (2, (Ad E 1))), (1, (0, 0))]) rfl ?_
            refine r_putIK hX hP rfl fp_12_358 hS (by omega) (by omega) (fun h116 => ?_)
            refine r_ex hX hP 2 (pc' := 106) (st' := [(1, 0), (2, (Ad E 1))]) (lo' := [(0, (2, (Ad E 1))), (1, (0, 0))]) rfl ?_
            refine r_putLK hX hP rfl fp_12_364 hS (by omega) (by omega) (fun h117 => ?_)
            have x182 : ∀ (behind_x182 : Int) (Gx182 : Gh), behind_x182 = (hv [84, 87] [] (up (up (up (hv [83] [] (up G 1 (Ad E 1) 83 bf1) Gx58) 1 (Ad E 1) 84 at_x58) 1 (Ad E 1) 82 1) 1 (Ad E 1) 87 0) Gx182) 1 (Ad E 1) 84 → 0 ≤ behind_x182 → behind_x182 ≤ 400 → X 0 0 182 [] [(0, (2, (Ad E 1))), (1, (0, 0))] S (hv [84, 87] [] (up (up (up (hv [83] [] (up G 1 (Ad E 1) 83 bf1) Gx58) 1 (Ad E 1) 84 at_x58) 1 (Ad E 1) 82 1) 1 (Ad E 1) 87 0) Gx182) := by
              intro behind_x182 Gx182 behind_x182_e yx182_0 yx182_1
              refine r_ex hX hP 2 (pc' := 184) (st' := [(2, (Ad E 1)), (2, (Ad E 1))]) (lo' := [(0, (2, (Ad E 1))), (1, (0, 0))]) rfl ?_
              refine r_getKI hX hP rfl fl_12_349 hS (x := behind_x182) behind_x182_e ?_
              refine r_ex hX hP 1 (pc' := 188) (st' := [(2, (Ad E 1)), (0, behind_x182), (2, (Ad E 1))]) (lo' := [(0, (2, (Ad E 1))), (1, (0, 0))]) rfl ?_
              refine r_getKI hX hP rfl fl_12_352 hS (x := at_x58) at_x58_e ?_
              refine r_ex hX hP 1 (pc' := 192) (st' := [(0, (behind_x182 - at_x58)), (2, (Ad E 1))]) (lo' := [(0, (2, (Ad E 1))), (1, (0, 0))]) rfl ?_
              refine r_putIK hX hP rfl fp_12_373 hS (by omega) (by omega) (fun h118 => ?_)
              refine r_ex hX hP 1 (pc' := 354) (st' := []) (lo' := [(0, (2, (Ad E 1))), (1, (0, 0))]) rfl ?_
              exact r_retV hX hP rfl rfl (by omega) (by omega) ⟨rfl, ⟨_, (hq_up (hq_loop (hq_up (hq_up (hq_up (hq_loop (hq_up (hq_refl _ _ _) rfl) rfl) rfl) rfl) rfl) rfl) rfl).symm⟩, rfl, trivial⟩
            have loop109 : ∀ (nF : Nat) (behind_h109 : Int) (Gh109 : Gh), behind_h109 = (hv [84, 87] [] (up (up (up (hv [83] [] (up G 1 (Ad E 1) 83 bf1) Gx58) 1 (Ad E 1) 84 at_x58) 1 (Ad E 1) 82 1) 1 (Ad E 1) 87 0) Gh109) 1 (Ad E 1) 84 → 0 ≤ behind_h109 → behind_h109 ≤ 400 → 400 - behind_h109 < (nF : Int) → X 0 0 109 [] [(0, (2, (Ad E 1))), (1, (0, 0))] S (hv [84, 87] [] (up (up (up (hv [83] [] (up G 1 (Ad E 1) 83 bf1) Gx58) 1 (Ad E 1) 84 at_x58) 1 (Ad E 1) 82 1) 1 (Ad E 1) 87 0) Gh109) := by
              intro nF
              induction nF with
              | zero => intro behind_h109 Gh109 behind_h109_e yh109_0 yh109_1 ym109; exfalso; omega
              | succ nF ih109 =>
                intro behind_h109 Gh109 behind_h109_e yh109_0 yh109_1 ym109
                refine r_ex hX hP 2 (pc' := 111) (st' := [(2, (Ad E 1)), (2, (Ad E 1))]) (lo' := [(0, (2, (Ad E 1))), (1, (0, 0))]) rfl ?_
                refine r_getKI hX hP rfl fl_12_349 hS (x := behind_h109) behind_h109_e ?_
                refine r_callV gd hX hP rfl cv_12_355 hS (d' := 0) (mc' := 0) (ms' := 0) (as' := [(0, behind_h109)]) (st := []) (by omega) (by omega) (by omega) rfl rfl (Nat.le_of_ble_eq_true rfl) (c_X12_look E S (hv [84, 87] [] (up (up (up (hv [83] [] (up G 1 (Ad E 1) 83 bf1) Gx58) 1 (Ad E 1) 84 at_x58) 1 (Ad E 1) 82 1) 1 (Ad E 1) 87 0) Gh109) behind_h109 hS tf4 tf4e (by omega) (by omega)) ?_
                rintro _ _ _ ⟨rfl, rfl, z119, rfl, (⟨z119a, z119b, f120⟩ | ⟨rfl, f121⟩)⟩
                · skip
                  refine r_callS gd hX hP rfl cs_12_361 (d' := 0) (mc' := 0) (ms' := 0) (as' := [(0, z119)]) (st := []) (by omega) (by omega) (by omega) rfl rfl (Nat.le_of_ble_eq_true rfl) (c_X12_isLetter E S (hv [84, 87] [] (up (up (up (hv [83] [] (up G 1 (Ad E 1) 83 bf1) Gx58) 1 (Ad E 1) 84 at_x58) 1 (Ad E 1) 82 1) 1 (Ad E 1) 87 0) Gh109) z119 (by omega) (by omega)) ?_
                  rintro _ _ _ ⟨rfl, rfl, z122, rfl, (⟨rfl, f123, f124⟩ | ⟨rfl, f125⟩)⟩
                  · skip
                    refine r_if_eq hX hP rfl (tgt := 182) rfl (by omega) (by omega) (fun c126 => ?_) (fun c126 => ?_)
                    · skip
                      exfalso; omega
                    · skip
                      have j166 : ∀ (k0_j166 : Int), (-9223372036854775808) ≤ k0_j166 → k0_j166 ≤ 9223372036854775807 → X 0 0 166 [(1, k0_j166), (2, (Ad E 1))] [(0, (2, (Ad E 1))), (1, (0, 0))] S (hv [84, 87] [] (up (up (up (hv [83] [] (up G 1 (Ad E 1) 83 bf1) Gx58) 1 (Ad E 1) 84 at_x58) 1 (Ad E 1) 82 1) 1 (Ad E 1) 87 0) Gh109) := by
                        intro k0_j166 yj166_0 yj166_1
                        refine r_putLK hX hP rfl fp_12_364 hS (by omega) (by omega) (fun h127 => ?_)
                        refine r_ex hX hP 2 (pc' := 171) (st' := [(2, (Ad E 1)), (2, (Ad E 1))]) (lo' := [(0, (2, (Ad E 1))), (1, (0, 0))]) rfl ?_
                        refine r_getKI hX hP rfl fl_12_349 hS (x := behind_h109) behind_h109_e ?_
                        refine r_ex hX hP 2 (pc' := 176) (st' := [(0, (behind_h109 + 1)), (2, (Ad E 1))]) (lo' := [(0, (2, (Ad E 1))), (1, (0, 0))]) rfl ?_
                        refine r_putIK hX hP rfl fp_12_349 hS (by omega) (by omega) (fun h128 => ?_)
                        refine r_ex hX hP 1 (pc' := 109) (st' := []) (lo' := [(0, (2, (Ad E 1))), (1, (0, 0))]) rfl ?_
                        refine r_eqG (X := X) (hq_up (hq_up (hq_base _ _ _ _) rfl) rfl) ?_
                        exact ih109 (behind_h109 + 1) _ h128 (by omega) (by omega) (by omega)
                      refine r_ex hX hP 2 (pc' := 125) (st' := [(2, (Ad E 1)), (2, (Ad E 1))]) (lo' := [(0, (2, (Ad E 1))), (1, (0, 0))]) rfl ?_
                      refine r_getKI hX hP rfl fl_12_349 hS (x := behind_h109) behind_h109_e ?_
                      refine r_ex hX hP 1 (pc' := 129) (st' := [(2, (Ad E 1)), (0, behind_h109), (2, (Ad E 1))]) (lo' := [(0, (2, (Ad E 1))), (1, (0, 0))]) rfl ?_
                      refine r_getKI hX hP rfl fl_12_352 hS (x := at_x58) at_x58_e ?_
                      refine r_ex hX hP 2 (pc' := 135) (st' := [(0, 12), (0, (behind_h109 - at_x58)), (2, (Ad E 1))]) (lo' := [(0, (2, (Ad E 1))), (1, (0, 0))]) rfl ?_
                      refine r_ic_ge hX hP rfl (tgt := 163) rfl (by omega) (by omega) (by omega) (by omega) (fun c129 => ?_) (fun c129 => ?_)
                      · skip
                        refine r_ldc2 hX hP rfl (v := (-1)) (tbg sg9 135 rfl rfl) ?_
                        exact j166 (-1) (by omega) (by omega)
                      · skip
                        refine r_ex hX hP 1 (pc' := 139) (st' := [(2, (Ad E 1)), (2, (Ad E 1))]) (lo' := [(0, (2, (Ad E 1))), (1, (0, 0))]) rfl ?_
                        refine r_getL hX hP rfl fl_12_364 hS (fun wf130 wf130e wf130a wf130b => ?_)
                        refine r_ldc2 hX hP rfl (v := 32) (tbg sg9 133 rfl rfl) ?_
                        refine r_ex hX hP 1 (pc' := 146) (st' := [(1, (wf130 * 32)), (2, (Ad E 1))]) (lo' := [(0, (2, (Ad E 1))), (1, (0, 0))]) rfl ?_
                        refine r_hvL hX (fun w131 w131a w131b w131e => ?_)
                        refine r_ex hX hP 2 (pc' := 148) (st' := [(2, (Ad E 1)), (2, (Ad E 1)), (1, w131), (2, (Ad E 1))]) (lo' := [(0, (2, (Ad E 1))), (1, (0, 0))]) rfl ?_
                        refine r_getKI hX hP rfl fl_12_349 hS (x := behind_h109) behind_h109_e ?_
                        refine r_callV gd hX hP rfl cv_12_355 hS (d' := 0) (mc' := 0) (ms' := 0) (as' := [(0, behind_h109)]) (st := [(1, w131), (2, (Ad E 1))]) (by omega) (by omega) (by omega) rfl rfl (Nat.le_of_ble_eq_true rfl) (c_X12_look E S (hv [84, 87] [] (up (up (up (hv [83] [] (up G 1 (Ad E 1) 83 bf1) Gx58) 1 (Ad E 1) 84 at_x58) 1 (Ad E 1) 82 1) 1 (Ad E 1) 87 0) Gh109) behind_h109 hS tf4 tf4e (by omega) (by omega)) ?_
                        rintro _ _ _ ⟨rfl, rfl, z132, rfl, (⟨z132a, z132b, f133⟩ | ⟨rfl, f134⟩)⟩
                        · skip
                          refine r_i2l hX hP rfl (by omega) (by omega) ?_
                          refine r_ex hX hP 1 (pc' := 156) (st' := [(1, (w131 + z132)), (2, (Ad E 1))]) (lo' := [(0, (2, (Ad E 1))), (1, (0, 0))]) rfl ?_
                          refine r_hvL hX (fun w135 w135a w135b w135e => ?_)
                          refine r_ldc2 hX hP rfl (v := 96) (tbg sg9 134 rfl rfl) ?_
                          refine r_ex hX hP 1 (pc' := 160) (st' := [(1, (w135 - 96)), (2, (Ad E 1))]) (lo' := [(0, (2, (Ad E 1))), (1, (0, 0))]) rfl ?_
                          refine r_hvL hX (fun w136 w136a w136b w136e => ?_)
                          refine r_ex hX hP 1 (pc' := 166) (st' := [(1, w136), (2, (Ad E 1))]) (lo' := [(0, (2, (Ad E 1))), (1, (0, 0))]) rfl ?_
                          exact j166 w136 (by omega) (by omega)
                        · skip
                          refine r_i2l hX hP rfl (by omega) (by omega) ?_
                          refine r_ex hX hP 1 (pc' := 156) (st' := [(1, (w131 + 0)), (2, (Ad E 1))]) (lo' := [(0, (2, (Ad E 1))), (1, (0, 0))]) rfl ?_
                          refine r_ldc2 hX hP rfl (v := 96) (tbg sg9 134 rfl rfl) ?_
                          refine r_ex hX hP 1 (pc' := 160) (st' := [(1, ((w131 + 0) - 96)), (2, (Ad E 1))]) (lo' := [(0, (2, (Ad E 1))), (1, (0, 0))]) rfl ?_
                          refine r_hvL hX (fun w137 w137a w137b w137e => ?_)
                          refine r_ex hX hP 1 (pc' := 166) (st' := [(1, w137), (2, (Ad E 1))]) (lo' := [(0, (2, (Ad E 1))), (1, (0, 0))]) rfl ?_
                          exact j166 w137 (by omega) (by omega)
                  · skip
                    refine r_if_eq hX hP rfl (tgt := 182) rfl (by omega) (by omega) (fun c138 => ?_) (fun c138 => ?_)
                    · skip
                      refine r_eqG (X := X) (hq_loop (hq_refl [84, 87] [] _) rfl) ?_
                      exact x182 behind_h109 _ behind_h109_e (by omega) (by omega)
                    · skip
                      exfalso; omega
                · skip
                  refine r_callS gd hX hP rfl cs_12_361 (d' := 0) (mc' := 0) (ms' := 0) (as' := [(0, 0)]) (st := []) (by omega) (by omega) (by omega) rfl rfl (Nat.le_of_ble_eq_true rfl) (c_X12_isLetter E S (hv [84, 87] [] (up (up (up (hv [83] [] (up G 1 (Ad E 1) 83 bf1) Gx58) 1 (Ad E 1) 84 at_x58) 1 (Ad E 1) 82 1) 1 (Ad E 1) 87 0) Gh109) 0 (by omega) (by omega)) ?_
                  rintro _ _ _ ⟨rfl, rfl, z139, rfl, (⟨rfl, f140, f141⟩ | ⟨rfl, f142⟩)⟩
                  · skip
                    refine r_if_eq hX hP rfl (tgt := 182) rfl (by omega) (by omega) (fun c143 => ?_) (fun c143 => ?_)
                    · skip
                      exfalso; omega
                    · skip
                      have j166 : ∀ (k0_j166 : Int), (-9223372036854775808) ≤ k0_j166 → k0_j166 ≤ 9223372036854775807 → X 0 0 166 [(1, k0_j166), (2, (Ad E 1))] [(0, (2, (Ad E 1))), (1, (0, 0))] S (hv [84, 87] [] (up (up (up (hv [83] [] (up G 1 (Ad E 1) 83 bf1) Gx58) 1 (Ad E 1) 84 at_x58) 1 (Ad E 1) 82 1) 1 (Ad E 1) 87 0) Gh109) := by
                        intro k0_j166 yj166_0 yj166_1
                        refine r_putLK hX hP rfl fp_12_364 hS (by omega) (by omega) (fun h144 => ?_)
                        refine r_ex hX hP 2 (pc' := 171) (st' := [(2, (Ad E 1)), (2, (Ad E 1))]) (lo' := [(0, (2, (Ad E 1))), (1, (0, 0))]) rfl ?_
                        refine r_getKI hX hP rfl fl_12_349 hS (x := behind_h109) behind_h109_e ?_
                        refine r_ex hX hP 2 (pc' := 176) (st' := [(0, (behind_h109 + 1)), (2, (Ad E 1))]) (lo' := [(0, (2, (Ad E 1))), (1, (0, 0))]) rfl ?_
                        refine r_putIK hX hP rfl fp_12_349 hS (by omega) (by omega) (fun h145 => ?_)
                        refine r_ex hX hP 1 (pc' := 109) (st' := []) (lo' := [(0, (2, (Ad E 1))), (1, (0, 0))]) rfl ?_
                        refine r_eqG (X := X) (hq_up (hq_up (hq_base _ _ _ _) rfl) rfl) ?_
                        exact ih109 (behind_h109 + 1) _ h145 (by omega) (by omega) (by omega)
                      refine r_ex hX hP 2 (pc' := 125) (st' := [(2, (Ad E 1)), (2, (Ad E 1))]) (lo' := [(0, (2, (Ad E 1))), (1, (0, 0))]) rfl ?_
                      refine r_getKI hX hP rfl fl_12_349 hS (x := behind_h109) behind_h109_e ?_
                      refine r_ex hX hP 1 (pc' := 129) (st' := [(2, (Ad E 1)), (0, behind_h109), (2, (Ad E 1))]) (lo' := [(0, (2, (Ad E 1))), (1, (0, 0))]) rfl ?_
                      refine r_getKI hX hP rfl fl_12_352 hS (x := at_x58) at_x58_e ?_
                      refine r_ex hX hP 2 (pc' := 135) (st' := [(0, 12), (0, (behind_h109 - at_x58)), (2, (Ad E 1))]) (lo' := [(0, (2, (Ad E 1))), (1, (0, 0))]) rfl ?_
                      refine r_ic_ge hX hP rfl (tgt := 163) rfl (by omega) (by omega) (by omega) (by omega) (fun c146 => ?_) (fun c146 => ?_)
                      · skip
                        refine r_ldc2 hX hP rfl (v := (-1)) (tbg sg9 135 rfl rfl) ?_
                        exact j166 (-1) (by omega) (by omega)
                      · skip
                        refine r_ex hX hP 1 (pc' := 139) (st' := [(2, (Ad E 1)), (2, (Ad E 1))]) (lo' := [(0, (2, (Ad E 1))), (1, (0, 0))]) rfl ?_
                        refine r_getL hX hP rfl fl_12_364 hS (fun wf147 wf147e wf147a wf147b => ?_)
                        refine r_ldc2 hX hP rfl (v := 32) (tbg sg9 133 rfl rfl) ?_
                        refine r_ex hX hP 1 (pc' := 146) (st' := [(1, (wf147 * 32)), (2, (Ad E 1))]) (lo' := [(0, (2, (Ad E 1))), (1, (0, 0))]) rfl ?_
                        refine r_hvL hX (fun w148 w148a w148b w148e => ?_)
                        refine r_ex hX hP 2 (pc' := 148) (st' := [(2, (Ad E 1)), (2, (Ad E 1)), (1, w148), (2, (Ad E 1))]) (lo' := [(0, (2, (Ad E 1))), (1, (0, 0))]) rfl ?_
                        refine r_getKI hX hP rfl fl_12_349 hS (x := behind_h109) behind_h109_e ?_
                        refine r_callV gd hX hP rfl cv_12_355 hS (d' := 0) (mc' := 0) (ms' := 0) (as' := [(0, behind_h109)]) (st := [(1, w148), (2, (Ad E 1))]) (by omega) (by omega) (by omega) rfl rfl (Nat.le_of_ble_eq_true rfl) (c_X12_look E S (hv [84, 87] [] (up (up (up (hv [83] [] (up G 1 (Ad E 1) 83 bf1) Gx58) 1 (Ad E 1) 84 at_x58) 1 (Ad E 1) 82 1) 1 (Ad E 1) 87 0) Gh109) behind_h109 hS tf4 tf4e (by omega) (by omega)) ?_
                        rintro _ _ _ ⟨rfl, rfl, z149, rfl, (⟨z149a, z149b, f150⟩ | ⟨rfl, f151⟩)⟩
                        · skip
                          refine r_i2l hX hP rfl (by omega) (by omega) ?_
                          refine r_ex hX hP 1 (pc' := 156) (st' := [(1, (w148 + z149)), (2, (Ad E 1))]) (lo' := [(0, (2, (Ad E 1))), (1, (0, 0))]) rfl ?_
                          refine r_hvL hX (fun w152 w152a w152b w152e => ?_)
                          refine r_ldc2 hX hP rfl (v := 96) (tbg sg9 134 rfl rfl) ?_
                          refine r_ex hX hP 1 (pc' := 160) (st' := [(1, (w152 - 96)), (2, (Ad E 1))]) (lo' := [(0, (2, (Ad E 1))), (1, (0, 0))]) rfl ?_
                          refine r_hvL hX (fun w153 w153a w153b w153e => ?_)
                          refine r_ex hX hP 1 (pc' := 166) (st' := [(1, w153), (2, (Ad E 1))]) (lo' := [(0, (2, (Ad E 1))), (1, (0, 0))]) rfl ?_
                          exact j166 w153 (by omega) (by omega)
                        · skip
                          refine r_i2l hX hP rfl (by omega) (by omega) ?_
                          refine r_ex hX hP 1 (pc' := 156) (st' := [(1, (w148 + 0)), (2, (Ad E 1))]) (lo' := [(0, (2, (Ad E 1))), (1, (0, 0))]) rfl ?_
                          refine r_ldc2 hX hP rfl (v := 96) (tbg sg9 134 rfl rfl) ?_
                          refine r_ex hX hP 1 (pc' := 160) (st' := [(1, ((w148 + 0) - 96)), (2, (Ad E 1))]) (lo' := [(0, (2, (Ad E 1))), (1, (0, 0))]) rfl ?_
                          refine r_hvL hX (fun w154 w154a w154b w154e => ?_)
                          refine r_ex hX hP 1 (pc' := 166) (st' := [(1, w154), (2, (Ad E 1))]) (lo' := [(0, (2, (Ad E 1))), (1, (0, 0))]) rfl ?_
                          exact j166 w154 (by omega) (by omega)
                  · skip
                    refine r_if_eq hX hP rfl (tgt := 182) rfl (by omega) (by omega) (fun c155 => ?_) (fun c155 => ?_)
                    · skip
                      refine r_eqG (X := X) (hq_loop (hq_refl [84, 87] [] _) rfl) ?_
                      exact x182 behind_h109 _ behind_h109_e (by omega) (by omega)
                    · skip
                      exfalso; omega
            refine r_eqG (X := X) (hq_refl [84, 87] [] _) ?_
            exact loop109 ((400 - at_x58) + 1 : Int).toNat at_x58 _ h3 (by omega) (by omega) (by omega)
        · skip
          refine r_if_eq hX hP rfl (tgt := 198) rfl (by omega) (by omega) (fun c156 => ?_) (fun c156 => ?_)
          · skip
            refine r_ex hX hP 1 (pc' := 199) (st' := [(0, 0)]) (lo' := [(0, (2, (Ad E 1))), (1, (0, 0))]) rfl ?_
            refine r_callS gd hX hP rfl cs_12_376 (d' := 0) (mc' := 0) (ms' := 0) (as' := [(0, 0)]) (st := []) (by omega) (by omega) (by omega) rfl rfl (Nat.le_of_ble_eq_true rfl) (c_X12_isDigit E S (up (hv [83] [] (up G 1 (Ad E 1) 83 bf1) Gx58) 1 (Ad E 1) 84 at_x58) 0 (by omega) (by omega)) ?_
            rintro _ _ _ ⟨rfl, rfl, z157, rfl, (⟨rfl, f158, f159⟩ | ⟨rfl, f160⟩)⟩
            · skip
              refine r_if_eq hX hP rfl (tgt := 300) rfl (by omega) (by omega) (fun c161 => ?_) (fun c161 => ?_)
              · skip
                exfalso; omega
              · skip
                refine r_ex hX hP 2 (pc' := 207) (st' := [(0, 0), (2, (Ad E 1))]) (lo' := [(0, (2, (Ad E 1))), (1, (0, 0))]) rfl ?_
                refine r_putIK hX hP rfl fp_12_379 hS (by omega) (by omega) (fun h162 => ?_)
                have x274 : ∀ (behind_x274 : Int) (Gx274 : Gh), behind_x274 = (hv [84, 85] [] (up (up (hv [83] [] (up G 1 (Ad E 1) 83 bf1) Gx58) 1 (Ad E 1) 84 at_x58) 1 (Ad E 1) 85 0) Gx274) 1 (Ad E 1) 84 → 0 ≤ behind_x274 → behind_x274 ≤ 400 → X 0 0 274 [] [(0, (2, (Ad E 1))), (1, (0, 0))] S (hv [84, 85] [] (up (up (hv [83] [] (up G 1 (Ad E 1) 83 bf1) Gx58) 1 (Ad E 1) 84 at_x58) 1 (Ad E 1) 85 0) Gx274) := by
                  intro behind_x274 Gx274 behind_x274_e yx274_0 yx274_1
                  have j294 : ∀ (k0_j294 : Int), 2 ≤ k0_j294 → k0_j294 ≤ 4 → X 0 0 294 [(0, k0_j294), (2, (Ad E 1))] [(0, (2, (Ad E 1))), (1, (0, 0))] S (hv [84, 85] [] (up (up (hv [83] [] (up G 1 (Ad E 1) 83 bf1) Gx58) 1 (Ad E 1) 84 at_x58) 1 (Ad E 1) 85 0) Gx274) := by
                    intro k0_j294 yj294_0 yj294_1
                    refine r_putIK hX hP rfl fp_12_358 hS (by omega) (by omega) (fun h163 => ?_)
                    refine r_ex hX hP 1 (pc' := 354) (st' := []) (lo' := [(0, (2, (Ad E 1))), (1, (0, 0))]) rfl ?_
                    exact r_retV hX hP rfl rfl (by omega) (by omega) ⟨rfl, ⟨_, (hq_up (hq_loop (hq_up (hq_up (hq_loop (hq_up (hq_refl _ _ _) rfl) rfl) rfl) rfl) rfl) rfl).symm⟩, rfl, trivial⟩
                  refine r_ex hX hP 2 (pc' := 276) (st' := [(2, (Ad E 1)), (2, (Ad E 1))]) (lo' := [(0, (2, (Ad E 1))), (1, (0, 0))]) rfl ?_
                  refine r_getKI hX hP rfl fl_12_349 hS (x := behind_x274) behind_x274_e ?_
                  refine r_ex hX hP 1 (pc' := 280) (st' := [(2, (Ad E 1)), (0, behind_x274), (2, (Ad E 1))]) (lo' := [(0, (2, (Ad E 1))), (1, (0, 0))]) rfl ?_
                  refine r_getKI hX hP rfl fl_12_352 hS (x := at_x58) at_x58_e ?_
                  refine r_ex hX hP 2 (pc' := 286) (st' := [(0, 7), (0, (behind_x274 - at_x58)), (2, (Ad E 1))]) (lo' := [(0, (2, (Ad E 1))), (1, (0, 0))]) rfl ?_
                  refine r_ic_le hX hP rfl (tgt := 293) rfl (by omega) (by omega) (by omega) (by omega) (fun c164 => ?_) (fun c164 => ?_)
                  · skip
                    refine r_ex hX hP 1 (pc' := 294) (st' := [(0, 2), (2, (Ad E 1))]) (lo' := [(0, (2, (Ad E 1))), (1, (0, 0))]) rfl ?_
                    exact j294 2 (by omega) (by omega)
                  · skip
                    refine r_ex hX hP 2 (pc' := 294) (st' := [(0, 4), (2, (Ad E 1))]) (lo' := [(0, (2, (Ad E 1))), (1, (0, 0))]) rfl ?_
                    exact j294 4 (by omega) (by omega)
                have loop210 : ∀ (nF : Nat) (behind_h210 : Int) (Gh210 : Gh), behind_h210 = (hv [84, 85] [] (up (up (hv [83] [] (up G 1 (Ad E 1) 83 bf1) Gx58) 1 (Ad E 1) 84 at_x58) 1 (Ad E 1) 85 0) Gh210) 1 (Ad E 1) 84 → 0 ≤ behind_h210 → behind_h210 ≤ 400 → 400 - behind_h210 < (nF : Int) → X 0 0 210 [] [(0, (2, (Ad E 1))), (1, (0, 0))] S (hv [84, 85] [] (up (up (hv [83] [] (up G 1 (Ad E 1) 83 bf1) Gx58) 1 (Ad E 1) 84 at_x58) 1 (Ad E 1) 85 0) Gh210) := by
                  intro nF
                  induction nF with
                  | zero => intro behind_h210 Gh210 behind_h210_e yh210_0 yh210_1 ym210; exfalso; omega
                  | succ nF ih210 =>
                    intro behind_h210 Gh210 behind_h210_e yh210_0 yh210_1 ym210
                    refine r_ex hX hP 2 (pc' := 212) (st' := [(2, (Ad E 1)), (2, (Ad E 1))]) (lo' := [(0, (2, (Ad E 1))), (1, (0, 0))]) rfl ?_
                    refine r_getKI hX hP rfl fl_12_349 hS (x := behind_h210) behind_h210_e ?_
                    refine r_callV gd hX hP rfl cv_12_355 hS (d' := 0) (mc' := 0) (ms' := 0) (as' := [(0, behind_h210)]) (st := []) (by omega) (by omega) (by omega) rfl rfl (Nat.le_of_ble_eq_true rfl) (c_X12_look E S (hv [84, 85] [] (up (up (hv [83] [] (up G 1 (Ad E 1) 83 bf1) Gx58) 1 (Ad E 1) 84 at_x58) 1 (Ad E 1) 85 0) Gh210) behind_h210 hS tf4 tf4e (by omega) (by omega)) ?_
                    rintro _ _ _ ⟨rfl, rfl, z165, rfl, (⟨z165a, z165b, f166⟩ | ⟨rfl, f167⟩)⟩
                    · skip
                      refine r_callS gd hX hP rfl cs_12_376 (d' := 0) (mc' := 0) (ms' := 0) (as' := [(0, z165)]) (st := []) (by omega) (by omega) (by omega) rfl rfl (Nat.le_of_ble_eq_true rfl) (c_X12_isDigit E S (hv [84, 85] [] (up (up (hv [83] [] (up G 1 (Ad E 1) 83 bf1) Gx58) 1 (Ad E 1) 84 at_x58) 1 (Ad E 1) 85 0) Gh210) z165 (by omega) (by omega)) ?_
                      rintro _ _ _ ⟨rfl, rfl, z168, rfl, (⟨rfl, f169, f170⟩ | ⟨rfl, f171⟩)⟩
                      · skip
                        refine r_if_eq hX hP rfl (tgt := 274) rfl (by omega) (by omega) (fun c172 => ?_) (fun c172 => ?_)
                        · skip
                          exfalso; omega
                        · skip
                          have j261 : ∀ (Gj261 : Gh), X 0 0 261 [] [(0, (2, (Ad E 1))), (1, (0, 0))] S (hv [85] [] (hv [84, 85] [] (up (up (hv [83] [] (up G 1 (Ad E 1) 83 bf1) Gx58) 1 (Ad E 1) 84 at_x58) 1 (Ad E 1) 85 0) Gh210) Gj261) := by
                            intro Gj261
                            refine r_ex hX hP 2 (pc' := 263) (st' := [(2, (Ad E 1)), (2, (Ad E 1))]) (lo' := [(0, (2, (Ad E 1))), (1, (0, 0))]) rfl ?_
                            refine r_getKI hX hP rfl fl_12_349 hS (x := behind_h210) behind_h210_e ?_
                            refine r_ex hX hP 2 (pc' := 268) (st' := [(0, (behind_h210 + 1)), (2, (Ad E 1))]) (lo' := [(0, (2, (Ad E 1))), (1, (0, 0))]) rfl ?_
                            refine r_putIK hX hP rfl fp_12_349 hS (by omega) (by omega) (fun h173 => ?_)
                            refine r_ex hX hP 1 (pc' := 210) (st' := []) (lo' := [(0, (2, (Ad E 1))), (1, (0, 0))]) rfl ?_
                            refine r_eqG (X := X) (hq_up (hq_loop (hq_base _ _ _ _) rfl) rfl) ?_
                            exact ih210 (behind_h210 + 1) _ h173 (by omega) (by omega) (by omega)
                          refine r_ex hX hP 1 (pc' := 225) (st' := [(2, (Ad E 1))]) (lo' := [(0, (2, (Ad E 1))), (1, (0, 0))]) rfl ?_
                          refine r_getKI hX hP rfl fl_12_349 hS (x := behind_h210) behind_h210_e ?_
                          refine r_ex hX hP 1 (pc' := 229) (st' := [(2, (Ad E 1)), (0, behind_h210)]) (lo' := [(0, (2, (Ad E 1))), (1, (0, 0))]) rfl ?_
                          refine r_getKI hX hP rfl fl_12_352 hS (x := at_x58) at_x58_e ?_
                          refine r_ex hX hP 2 (pc' := 235) (st' := [(0, 7), (0, (behind_h210 - at_x58))]) (lo' := [(0, (2, (Ad E 1))), (1, (0, 0))]) rfl ?_
                          refine r_ic_ge hX hP rfl (tgt := 261) rfl (by omega) (by omega) (by omega) (by omega) (fun c174 => ?_) (fun c174 => ?_)
                          · skip
                            refine r_eqG (X := X) (hq_refl [85] [] _) ?_
                            exact j261 _ 
                          · skip
                            refine r_ex hX hP 3 (pc' := 242) (st' := [(2, (Ad E 1)), (0, 10), (2, (Ad E 1))]) (lo' := [(0, (2, (Ad E 1))), (1, (0, 0))]) rfl ?_
                            refine r_getI hX hP rfl fl_12_379 hS (fun nf175 nf175e nf175a nf175b => ?_)
                            refine r_ex hX hP 1 (pc' := 246) (st' := [(0, (10 * nf175)), (2, (Ad E 1))]) (lo' := [(0, (2, (Ad E 1))), (1, (0, 0))]) rfl ?_
                            refine r_hvI hX (fun w176 w176a w176b w176e => ?_)
                            refine r_ex hX hP 2 (pc' := 248) (st' := [(2, (Ad E 1)), (2, (Ad E 1)), (0, w176), (2, (Ad E 1))]) (lo' := [(0, (2, (Ad E 1))), (1, (0, 0))]) rfl ?_
                            refine r_getKI hX hP rfl fl_12_349 hS (x := behind_h210) behind_h210_e ?_
                            refine r_callV gd hX hP rfl cv_12_355 hS (d' := 0) (mc' := 0) (ms' := 0) (as' := [(0, behind_h210)]) (st := [(0, w176), (2, (Ad E 1))]) (by omega) (by omega) (by omega) rfl rfl (Nat.le_of_ble_eq_true rfl) (c_X12_look E S (hv [84, 85] [] (up (up (hv [83] [] (up G 1 (Ad E 1) 83 bf1) Gx58) 1 (Ad E 1) 84 at_x58) 1 (Ad E 1) 85 0) Gh210) behind_h210 hS tf4 tf4e (by omega) (by omega)) ?_
                            rintro _ _ _ ⟨rfl, rfl, z177, rfl, (⟨z177a, z177b, f178⟩ | ⟨rfl, f179⟩)⟩
                            · skip
                              refine r_ex hX hP 1 (pc' := 255) (st' := [(0, (w176 + z177)), (2, (Ad E 1))]) (lo' := [(0, (2, (Ad E 1))), (1, (0, 0))]) rfl ?_
                              refine r_hvI hX (fun w180 w180a w180b w180e => ?_)
                              refine r_ex hX hP 2 (pc' := 258) (st' := [(0, (w180 - 48)), (2, (Ad E 1))]) (lo' := [(0, (2, (Ad E 1))), (1, (0, 0))]) rfl ?_
                              refine r_hvI hX (fun w181 w181a w181b w181e => ?_)
                              refine r_putIK hX hP rfl fp_12_379 hS (by omega) (by omega) (fun h182 => ?_)
                              refine r_eqG (X := X) (hq_up (hq_refl [85] [] _) rfl) ?_
                              exact j261 _ 
                            · skip
                              refine r_ex hX hP 3 (pc' := 258) (st' := [(0, ((w176 + 0) - 48)), (2, (Ad E 1))]) (lo' := [(0, (2, (Ad E 1))), (1, (0, 0))]) rfl ?_
                              refine r_hvI hX (fun w183 w183a w183b w183e => ?_)
                              refine r_putIK hX hP rfl fp_12_379 hS (by omega) (by omega) (fun h184 => ?_)
                              refine r_eqG (X := X) (hq_up (hq_refl [85] [] _) rfl) ?_
                              exact j261 _ 
                      · skip
                        refine r_if_eq hX hP rfl (tgt := 274) rfl (by omega) (by omega) (fun c185 => ?_) (fun c185 => ?_)
                        · skip
                          refine r_eqG (X := X) (hq_loop (hq_refl [84, 85] [] _) rfl) ?_
                          exact x274 behind_h210 _ behind_h210_e (by omega) (by omega)
                        · skip
                          exfalso; omega
                    · skip
                      refine r_callS gd hX hP rfl cs_12_376 (d' := 0) (mc' := 0) (ms' := 0) (as' := [(0, 0)]) (st := []) (by omega) (by omega) (by omega) rfl rfl (Nat.le_of_ble_eq_true rfl) (c_X12_isDigit E S (hv [84, 85] [] (up (up (hv [83] [] (up G 1 (Ad E 1) 83 bf1) Gx58) 1 (Ad E 1) 84 at_x58) 1 (Ad E 1) 85 0) Gh210) 0 (by omega) (by omega)) ?_
                      rintro _ _ _ ⟨rfl, rfl, z186, rfl, (⟨rfl, f187, f188⟩ | ⟨rfl, f189⟩)⟩
                      · skip
                        refine r_if_eq hX hP rfl (tgt := 274) rfl (by omega) (by omega) (fun c190 => ?_) (fun c190 => ?_)
                        · skip
                          exfalso; omega
                        · skip
                          have j261 : ∀ (Gj261 : Gh), X 0 0 261 [] [(0, (2, (Ad E 1))), (1, (0, 0))] S (hv [85] [] (hv [84, 85] [] (up (up (hv [83] [] (up G 1 (Ad E 1) 83 bf1) Gx58) 1 (Ad E 1) 84 at_x58) 1 (Ad E 1) 85 0) Gh210) Gj261) := by
                            intro Gj261
                            refine r_ex hX hP 2 (pc' := 263) (st' := [(2, (Ad E 1)), (2, (Ad E 1))]) (lo' := [(0, (2, (Ad E 1))), (1, (0, 0))]) rfl ?_
                            refine r_getKI hX hP rfl fl_12_349 hS (x := behind_h210) behind_h210_e ?_
                            refine r_ex hX hP 2 (pc' := 268) (st' := [(0, (behind_h210 + 1)), (2, (Ad E 1))]) (lo' := [(0, (2, (Ad E 1))), (1, (0, 0))]) rfl ?_
                            refine r_putIK hX hP rfl fp_12_349 hS (by omega) (by omega) (fun h191 => ?_)
                            refine r_ex hX hP 1 (pc' := 210) (st' := []) (lo' := [(0, (2, (Ad E 1))), (1, (0, 0))]) rfl ?_
                            refine r_eqG (X := X) (hq_up (hq_loop (hq_base _ _ _ _) rfl) rfl) ?_
                            exact ih210 (behind_h210 + 1) _ h191 (by omega) (by omega) (by omega)
                          refine r_ex hX hP 1 (pc' := 225) (st' := [(2, (Ad E 1))]) (lo' := [(0, (2, (Ad E 1))), (1, (0, 0))]) rfl ?_
                          refine r_getKI hX hP rfl fl_12_349 hS (x := behind_h210) behind_h210_e ?_
                          refine r_ex hX hP 1 (pc' := 229) (st' := [(2, (Ad E 1)), (0, behind_h210)]) (lo' := [(0, (2, (Ad E 1))), (1, (0, 0))]) rfl ?_
                          refine r_getKI hX hP rfl fl_12_352 hS (x := at_x58) at_x58_e ?_
                          refine r_ex hX hP 2 (pc' := 235) (st' := [(0, 7), (0, (behind_h210 - at_x58))]) (lo' := [(0, (2, (Ad E 1))), (1, (0, 0))]) rfl ?_
                          refine r_ic_ge hX hP rfl (tgt := 261) rfl (by omega) (by omega) (by omega) (by omega) (fun c192 => ?_) (fun c192 => ?_)
                          · skip
                            refine r_eqG (X := X) (hq_refl [85] [] _) ?_
                            exact j261 _ 
                          · skip
                            refine r_ex hX hP 3 (pc' := 242) (st' := [(2, (Ad E 1)), (0, 10), (2, (Ad E 1))]) (lo' := [(0, (2, (Ad E 1))), (1, (0, 0))]) rfl ?_
                            refine r_getI hX hP rfl fl_12_379 hS (fun nf193 nf193e nf193a nf193b => ?_)
                            refine r_ex hX hP 1 (pc' := 246) (st' := [(0, (10 * nf193)), (2, (Ad E 1))]) (lo' := [(0, (2, (Ad E 1))), (1, (0, 0))]) rfl ?_
                            refine r_hvI hX (fun w194 w194a w194b w194e => ?_)
                            refine r_ex hX hP 2 (pc' := 248) (st' := [(2, (Ad E 1)), (2, (Ad E 1)), (0, w194), (2, (Ad E 1))]) (lo' := [(0, (2, (Ad E 1))), (1, (0, 0))]) rfl ?_
                            refine r_getKI hX hP rfl fl_12_349 hS (x := behind_h210) behind_h210_e ?_
                            refine r_callV gd hX hP rfl cv_12_355 hS (d' := 0) (mc' := 0) (ms' := 0) (as' := [(0, behind_h210)]) (st := [(0, w194), (2, (Ad E 1))]) (by omega) (by omega) (by omega) rfl rfl (Nat.le_of_ble_eq_true rfl) (c_X12_look E S (hv [84, 85] [] (up (up (hv [83] [] (up G 1 (Ad E 1) 83 bf1) Gx58) 1 (Ad E 1) 84 at_x58) 1 (Ad E 1) 85 0) Gh210) behind_h210 hS tf4 tf4e (by omega) (by omega)) ?_
                            rintro _ _ _ ⟨rfl, rfl, z195, rfl, (⟨z195a, z195b, f196⟩ | ⟨rfl, f197⟩)⟩
                            · skip
                              refine r_ex hX hP 1 (pc' := 255) (st' := [(0, (w194 + z195)), (2, (Ad E 1))]) (lo' := [(0, (2, (Ad E 1))), (1, (0, 0))]) rfl ?_
                              refine r_hvI hX (fun w198 w198a w198b w198e => ?_)
                              refine r_ex hX hP 2 (pc' := 258) (st' := [(0, (w198 - 48)), (2, (Ad E 1))]) (lo' := [(0, (2, (Ad E 1))), (1, (0, 0))]) rfl ?_
                              refine r_hvI hX (fun w199 w199a w199b w199e => ?_)
                              refine r_putIK hX hP rfl fp_12_379 hS (by omega) (by omega) (fun h200 => ?_)
                              refine r_eqG (X := X) (hq_up (hq_refl [85] [] _) rfl) ?_
                              exact j261 _ 
                            · skip
                              refine r_ex hX hP 3 (pc' := 258) (st' := [(0, ((w194 + 0) - 48)), (2, (Ad E 1))]) (lo' := [(0, (2, (Ad E 1))), (1, (0, 0))]) rfl ?_
                              refine r_hvI hX (fun w201 w201a w201b w201e => ?_)
                              refine r_putIK hX hP rfl fp_12_379 hS (by omega) (by omega) (fun h202 => ?_)
                              refine r_eqG (X := X) (hq_up (hq_refl [85] [] _) rfl) ?_
                              exact j261 _ 
                      · skip
                        refine r_if_eq hX hP rfl (tgt := 274) rfl (by omega) (by omega) (fun c203 => ?_) (fun c203 => ?_)
                        · skip
                          refine r_eqG (X := X) (hq_loop (hq_refl [84, 85] [] _) rfl) ?_
                          exact x274 behind_h210 _ behind_h210_e (by omega) (by omega)
                        · skip
                          exfalso; omega
                refine r_eqG (X := X) (hq_refl [84, 85] [] _) ?_
                exact loop210 ((400 - at_x58) + 1 : Int).toNat at_x58 _ h3 (by omega) (by omega) (by omega)
            · skip
              refine r_if_eq hX hP rfl (tgt := 300) rfl (by omega) (by omega) (fun c204 => ?_) (fun c204 => ?_)
              · skip
                refine r_ex hX hP 2 (pc' := 302) (st' := [(2, (Ad E 1)), (2, (Ad E 1))]) (lo' := [(0, (2, (Ad E 1))), (1, (0, 0))]) rfl ?_
                refine r_getKI hX hP rfl fl_12_352 hS (x := at_x58) at_x58_e ?_
                refine r_ex hX hP 2 (pc' := 307) (st' := [(0, (at_x58 + 1)), (2, (Ad E 1))]) (lo' := [(0, (2, (Ad E 1))), (1, (0, 0))]) rfl ?_
                refine r_putIK hX hP rfl fp_12_349 hS (by omega) (by omega) (fun h205 => ?_)
                refine r_ex hX hP 2 (pc' := 312) (st' := [(0, 0), (2, (Ad E 1))]) (lo' := [(0, (2, (Ad E 1))), (1, (0, 0))]) rfl ?_
                refine r_putIK hX hP rfl fp_12_379 hS (by omega) (by omega) (fun h206 => ?_)
                refine r_ex hX hP 1 (pc' := 316) (st' := [(2, (Ad E 1))]) (lo' := [(0, (2, (Ad E 1))), (1, (0, 0))]) rfl ?_
                have j351 : ∀ (k0_j351 : Int), 3 ≤ k0_j351 → k0_j351 ≤ 4 → X 0 0 351 [(0, k0_j351), (2, (Ad E 1))] [(0, (2, (Ad E 1))), (1, (0, 0))] S (up (up (up (hv [83] [] (up G 1 (Ad E 1) 83 bf1) Gx58) 1 (Ad E 1) 84 at_x58) 1 (Ad E 1) 84 (at_x58 + 1)) 1 (Ad E 1) 85 0) := by
                  intro k0_j351 yj351_0 yj351_1
                  refine r_putIK hX hP rfl fp_12_358 hS (by omega) (by omega) (fun h207 => ?_)
                  exact r_retV hX hP rfl rfl (by omega) (by omega) ⟨rfl, ⟨_, (hq_up (hq_up (hq_up (hq_up (hq_loop (hq_up (hq_refl _ _ _) rfl) rfl) rfl) rfl) rfl) rfl).symm⟩, rfl, trivial⟩
                refine r_ex hX hP 2 (pc' := 319) (st' := [(0, 59), (0, 0), (2, (Ad E 1))]) (lo' := [(0, (2, (Ad E 1))), (1, (0, 0))]) rfl ?_
                refine r_ic_eq hX hP rfl (tgt := 346) rfl (by omega) (by omega) (by omega) (by omega) (fun c208 => ?_) (fun c208 => ?_)
                · skip
                  exfalso; omega
                · skip
                  refine r_ex hX hP 2 (pc' := 325) (st' := [(0, 123), (0, 0), (2, (Ad E 1))]) (lo' := [(0, (2, (Ad E 1))), (1, (0, 0))]) rfl ?_
                  refine r_ic_eq hX hP rfl (tgt := 346) rfl (by omega) (by omega) (by omega) (by omega) (fun c209 => ?_) (fun c209 => ?_)
                  · skip
                    exfalso; omega
                  · skip
                    refine r_ex hX hP 2 (pc' := 331) (st' := [(0, 125), (0, 0), (2, (Ad E 1))]) (lo' := [(0, (2, (Ad E 1))), (1, (0, 0))]) rfl ?_
                    refine r_ic_eq hX hP rfl (tgt := 346) rfl (by omega) (by omega) (by omega) (by omega) (fun c210 => ?_) (fun c210 => ?_)
                    · skip
                      exfalso; omega
                    · skip
                      refine r_ex hX hP 2 (pc' := 337) (st' := [(0, 60), (0, 0), (2, (Ad E 1))]) (lo' := [(0, (2, (Ad E 1))), (1, (0, 0))]) rfl ?_
                      refine r_ic_eq hX hP rfl (tgt := 346) rfl (by omega) (by omega) (by omega) (by omega) (fun c211 => ?_) (fun c211 => ?_)
                      · skip
                        exfalso; omega
                      · skip
                        refine r_ex hX hP 2 (pc' := 343) (st' := [(0, 62), (0, 0), (2, (Ad E 1))]) (lo' := [(0, (2, (Ad E 1))), (1, (0, 0))]) rfl ?_
                        refine r_ic_ne hX hP rfl (tgt := 350) rfl (by omega) (by omega) (by omega) (by omega) (fun c212 => ?_) (fun c212 => ?_)
                        · skip
                          refine r_ex hX hP 1 (pc' := 351) (st' := [(0, 4), (2, (Ad E 1))]) (lo' := [(0, (2, (Ad E 1))), (1, (0, 0))]) rfl ?_
                          exact j351 4 (by omega) (by omega)
                        · skip
                          exfalso; omega
              · skip
                exfalso; omega
          · skip
            exfalso; omega
    · skip
      refine r_ex hX hP 2 (pc' := 79) (st' := [(0, 0), (2, (Ad E 1))]) (lo' := [(0, (2, (Ad E 1)))]) rfl ?_
      refine r_putIK hX hP rfl fp_12_358 hS (by omega) (by omega) (fun h213 => ?_)
      exact r_retV hX hP rfl rfl (by omega) (by omega) ⟨rfl, ⟨_, (hq_up (hq_up (hq_loop (hq_up (hq_refl _ _ _) rfl) rfl) rfl) rfl).symm⟩, rfl, trivial⟩
  have loop8 : ∀ (nF : Nat) (at_h8 : Int) (Gh8 : Gh), at_h8 = (hv [83] [] (up G 1 (Ad E 1) 83 bf1) Gh8) 1 (Ad E 1) 83 → 0 ≤ at_h8 → at_h8 ≤ 400 → 400 - at_h8 < (nF : Int) → X 0 0 8 [] [(0, (2, (Ad E 1)))] S (hv [83] [] (up G 1 (Ad E 1) 83 bf1) Gh8) := by
    intro nF
    induction nF with
    | zero => intro at_h8 Gh8 at_h8_e yh8_0 yh8_1 ym8; exfalso; omega
    | succ nF ih8 =>
      intro at_h8 Gh8 at_h8_e yh8_0 yh8_1 ym8
      refine r_ex hX hP 1 (pc' := 9) (st' := [(2, (Ad E 1))]) (lo' := [(0, (2, (Ad E 1)))]) rfl ?_
      refine r_getKI hX hP rfl fl_12_352 hS (x := at_h8) at_h8_e ?_
      refine r_ex hX hP 1 (pc' := 13) (st' := [(2, (Ad E 1)), (0, at_h8)]) (lo' := [(0, (2, (Ad E 1)))]) rfl ?_
      refine r_getI hX hP rfl fl_12_346 hS (fun tf214 tf214e tf214a tf214b => ?_)
      refine r_ic_ge hX hP rfl (tgt := 58) rfl (by omega) (by omega) (by omega) (by omega) (fun c215 => ?_) (fun c215 => ?_)
      · skip
        refine r_eqG (X := X) (hq_loop (hq_refl [83] [] _) rfl) ?_
        exact x58 at_h8 _ at_h8_e (by omega) (by omega)
      · skip
        refine r_ex hX hP 2 (pc' := 21) (st' := [(2, (Ad E 1)), (2, (Ad E 1))]) (lo' := [(0, (2, (Ad E 1)))]) rfl ?_
        refine r_getKI hX hP rfl fl_12_352 hS (x := at_h8) at_h8_e ?_
        refine r_callV gd hX hP rfl cv_12_355 hS (d' := 0) (mc' := 0) (ms' := 0) (as' := [(0, at_h8)]) (st := []) (by omega) (by omega) (by omega) rfl rfl (Nat.le_of_ble_eq_true rfl) (c_X12_look E S (hv [83] [] (up G 1 (Ad E 1) 83 bf1) Gh8) at_h8 hS tf214 tf214e (by omega) (by omega)) ?_
        rintro _ _ _ ⟨rfl, rfl, z216, rfl, (⟨z216a, z216b, f217⟩ | ⟨rfl, f218⟩)⟩
        · skip
          refine r_ex hX hP 1 (pc' := 29) (st' := [(0, 10), (0, z216)]) (lo' := [(0, (2, (Ad E 1)))]) rfl ?_
          refine r_ic_eq hX hP rfl (tgt := 45) rfl (by omega) (by omega) (by omega) (by omega) (fun c219 => ?_) (fun c219 => ?_)
          · skip
            refine r_ex hX hP 2 (pc' := 47) (st' := [(2, (Ad E 1)), (2, (Ad E 1))]) (lo' := [(0, (2, (Ad E 1)))]) rfl ?_
            refine r_getKI hX hP rfl fl_12_352 hS (x := at_h8) at_h8_e ?_
            refine r_ex hX hP 2 (pc' := 52) (st' := [(0, (at_h8 + 1)), (2, (Ad E 1))]) (lo' := [(0, (2, (Ad E 1)))]) rfl ?_
            refine r_putIK hX hP rfl fp_12_352 hS (by omega) (by omega) (fun h220 => ?_)
            refine r_ex hX hP 1 (pc' := 8) (st' := []) (lo' := [(0, (2, (Ad E 1)))]) rfl ?_
            refine r_eqG (X := X) (hq_up (hq_base _ _ _ _) rfl) ?_
            exact ih8 (at_h8 + 1) _ h220 (by omega) (by omega) (by omega)
          · skip
            refine r_ex hX hP 2 (pc' := 34) (st' := [(2, (Ad E 1)), (2, (Ad E 1))]) (lo' := [(0, (2, (Ad E 1)))]) rfl ?_
            refine r_getKI hX hP rfl fl_12_352 hS (x := at_h8) at_h8_e ?_
            refine r_callV gd hX hP rfl cv_12_355 hS (d' := 0) (mc' := 0) (ms' := 0) (as' := [(0, at_h8)]) (st := []) (by omega) (by omega) (by omega) rfl rfl (Nat.le_of_ble_eq_true rfl) (c_X12_look E S (hv [83] [] (up G 1 (Ad E 1) 83 bf1) Gh8) at_h8 hS tf214 tf214e (by omega) (by omega)) ?_
            rintro _ _ _ ⟨rfl, rfl, z221, rfl, (⟨z221a, z221b, f222⟩ | ⟨rfl, f223⟩)⟩
            · skip
              refine r_ex hX hP 1 (pc' := 42) (st' := [(0, 32), (0, z221)]) (lo' := [(0, (2, (Ad E 1)))]) rfl ?_
              refine r_ic_ne hX hP rfl (tgt := 58) rfl (by omega) (by omega) (by omega) (by omega) (fun c224 => ?_) (fun c224 => ?_)
              · skip
                refine r_eqG (X := X) (hq_loop (hq_refl [83] [] _) rfl) ?_
                exact x58 at_h8 _ at_h8_e (by omega) (by omega)
              · skip
                refine r_ex hX hP 2 (pc' := 47) (st' := [(2, (Ad E 1)), (2, (Ad E 1))]) (lo' := [(0, (2, (Ad E 1)))]) rfl ?_
                refine r_getKI hX hP rfl fl_12_352 hS (x := at_h8) at_h8_e ?_
                refine r_ex hX hP 2 (pc' := 52) (st' := [(0, (at_h8 + 1)), (2, (Ad E 1))]) (lo' := [(0, (2, (Ad E 1)))]) rfl ?_
                refine r_putIK hX hP rfl fp_12_352 hS (by omega) (by omega) (fun h225 => ?_)
                refine r_ex hX hP 1 (pc' := 8) (st' := []) (lo' := [(0, (2, (Ad E 1)))]) rfl ?_
                refine r_eqG (X := X) (hq_up (hq_base _ _ _ _) rfl) ?_
                exact ih8 (at_h8 + 1) _ h225 (by omega) (by omega) (by omega)
            · skip
              refine r_ex hX hP 1 (pc' := 42) (st' := [(0, 32), (0, 0)]) (lo' := [(0, (2, (Ad E 1)))]) rfl ?_
              refine r_ic_ne hX hP rfl (tgt := 58) rfl (by omega) (by omega) (by omega) (by omega) (fun c226 => ?_) (fun c226 => ?_)
              · skip
                refine r_eqG (X := X) (hq_loop (hq_refl [83] [] _) rfl) ?_
                exact x58 at_h8 _ at_h8_e (by omega) (by omega)
              · skip
                exfalso; omega
        · skip
          refine r_ex hX hP 1 (pc' := 29) (st' := [(0, 10), (0, 0)]) (lo' := [(0, (2, (Ad E 1)))]) rfl ?_
          refine r_ic_eq hX hP rfl (tgt := 45) rfl (by omega) (by omega) (by omega) (by omega) (fun c227 => ?_) (fun c227 => ?_)
          · skip
            exfalso; omega
          · skip
            refine r_ex hX hP 2 (pc' := 34) (st' := [(2, (Ad E 1)), (2, (Ad E 1))]) (lo' := [(0, (2, (Ad E 1)))]) rfl ?_
            refine r_getKI hX hP rfl fl_12_352 hS (x := at_h8) at_h8_e ?_
            refine r_callV gd hX hP rfl cv_12_355 hS (d' := 0) (mc' := 0) (ms' := 0) (as' := [(0, at_h8)]) (st := []) (by omega) (by omega) (by omega) rfl rfl (Nat.le_of_ble_eq_true rfl) (c_X12_look E S (hv [83] [] (up G 1 (Ad E 1) 83 bf1) Gh8) at_h8 hS tf214 tf214e (by omega) (by omega)) ?_
            rintro _ _ _ ⟨rfl, rfl, z228, rfl, (⟨z228a, z228b, f229⟩ | ⟨rfl, f230⟩)⟩
            · skip
              refine r_ex hX hP 1 (pc' := 42) (st' := [(0, 32), (0, z228)]) (lo' := [(0, (2, (Ad E 1)))]) rfl ?_
              refine r_ic_ne hX hP rfl (tgt := 58) rfl (by omega) (by omega) (by omega) (by omega) (fun c231 => ?_) (fun c231 => ?_)
              · skip
                refine r_eqG (X := X) (hq_loop (hq_refl [83] [] _) rfl) ?_
                exact x58 at_h8 _ at_h8_e (by omega) (by omega)
              · skip
                refine r_ex hX hP 2 (pc' := 47) (st' := [(2, (Ad E 1)), (2, (Ad E 1))]) (lo' := [(0, (2, (Ad E 1)))]) rfl ?_
                refine r_getKI hX hP rfl fl_12_352 hS (x := at_h8) at_h8_e ?_
                refine r_ex hX hP 2 (pc' := 52) (st' := [(0, (at_h8 + 1)), (2, (Ad E 1))]) (lo' := [(0, (2, (Ad E 1)))]) rfl ?_
                refine r_putIK hX hP rfl fp_12_352 hS (by omega) (by omega) (fun h232 => ?_)
                refine r_ex hX hP 1 (pc' := 8) (st' := []) (lo' := [(0, (2, (Ad E 1)))]) rfl ?_
                refine r_eqG (X := X) (hq_up (hq_base _ _ _ _) rfl) ?_
                exact ih8 (at_h8 + 1) _ h232 (by omega) (by omega) (by omega)
            · skip
              refine r_ex hX hP 1 (pc' := 42) (st' := [(0, 32), (0, 0)]) (lo' := [(0, (2, (Ad E 1)))]) rfl ?_
              refine r_ic_ne hX hP rfl (tgt := 58) rfl (by omega) (by omega) (by omega) (by omega) (fun c233 => ?_) (fun c233 => ?_)
              · skip
                refine r_eqG (X := X) (hq_loop (hq_refl [83] [] _) rfl) ?_
                exact x58 at_h8 _ at_h8_e (by omega) (by omega)
              · skip
                exfalso; omega
  refine r_eqG (X := X) (hq_refl [83] [] _) ?_
  exact loop8 ((400 - bf1) + 1 : Int).toNat bf1 _ h2 (by omega) (by omega) (by omega)
set_option maxRecDepth 100000 in
set_option maxHeartbeats 4000000 in
theorem c_X12_spelled (E : En) (S : Sg) (G : Gh) (a b c d e f : Int) (a_a : 0 ≤ a) (a_b : a ≤ 255) (b_a : 0 ≤ b) (b_b : b ≤ 255) (c_a : 0 ≤ c) (c_b : c ≤ 255) (d_a : 0 ≤ d) (d_b : d ≤ 255) (e_a : 0 ≤ e) (e_b : e ≤ 255) (f_a : 0 ≤ f) (f_b : f ≤ 255) : Calls E mX12_spelled [(0, a), (0, b), (0, c), (0, d), (0, e), (0, f)] S G 0 0 0 (fun r S' G' => S = S' ∧ G = G' ∧ ∃ z : Int, r = some (1, z) ∧ (-9223372036854775808) ≤ z ∧ z ≤ 9223372036854775807) := by
  refine calls_by [(0, (0, a)), (1, (0, b)), (2, (0, c)), (3, (0, d)), (4, (0, e)), (5, (0, f))] rfl rfl (Nat.le_of_ble_eq_true rfl) (fun X hX => ?_)
  have hP := hPX12_spelled
  refine r_ex hX hP 1 (pc' := 1) (st' := [(0, a)]) (lo' := [(0, (0, a)), (1, (0, b)), (2, (0, c)), (3, (0, d)), (4, (0, e)), (5, (0, f))]) rfl ?_
  refine r_i2l hX hP rfl (by omega) (by omega) ?_
  refine r_ldc2 hX hP rfl (v := 96) (tbg sg9 134 rfl rfl) ?_
  refine r_ex hX hP 3 (pc' := 10) (st' := [(1, (a - 96))]) (lo' := [(0, (0, a)), (1, (0, b)), (2, (0, c)), (3, (0, d)), (4, (0, e)), (5, (0, f)), (6, (1, (a - 96)))]) rfl ?_
  refine r_ldc2 hX hP rfl (v := 32) (tbg sg9 133 rfl rfl) ?_
  refine r_ex hX hP 2 (pc' := 15) (st' := [(0, b), (1, ((a - 96) * 32))]) (lo' := [(0, (0, a)), (1, (0, b)), (2, (0, c)), (3, (0, d)), (4, (0, e)), (5, (0, f)), (6, (1, (a - 96)))]) rfl ?_
  refine r_i2l hX hP rfl (by omega) (by omega) ?_
  refine r_ex hX hP 1 (pc' := 17) (st' := [(1, (((a - 96) * 32) + b))]) (lo' := [(0, (0, a)), (1, (0, b)), (2, (0, c)), (3, (0, d)), (4, (0, e)), (5, (0, f)), (6, (1, (a - 96)))]) rfl ?_
  refine r_ldc2 hX hP rfl (v := 96) (tbg sg9 134 rfl rfl) ?_
  refine r_ex hX hP 3 (pc' := 24) (st' := [(0, c)]) (lo' := [(0, (0, a)), (1, (0, b)), (2, (0, c)), (3, (0, d)), (4, (0, e)), (5, (0, f)), (6, (1, ((((a - 96) * 32) + b) - 96)))]) rfl ?_
  refine r_if_le hX hP rfl (tgt := 43) rfl (by omega) (by omega) (fun c1 => ?_) (fun c1 => ?_)
  · skip
    refine r_ex hX hP 3 (pc' := 48) (st' := [(0, d)]) (lo' := [(0, (0, a)), (1, (0, b)), (2, (0, c)), (3, (0, d)), (4, (0, e)), (5, (0, f)), (6, (1, ((((a - 96) * 32) + b) - 96)))]) rfl ?_
    refine r_if_le hX hP rfl (tgt := 67) rfl (by omega) (by omega) (fun c2 => ?_) (fun c2 => ?_)
    · skip
      refine r_ex hX hP 3 (pc' := 73) (st' := [(0, e)]) (lo' := [(0, (0, a)), (1, (0, b)), (2, (0, c)), (3, (0, d)), (4, (0, e)), (5, (0, f)), (6, (1, ((((a - 96) * 32) + b) - 96)))]) rfl ?_
      refine r_if_le hX hP rfl (tgt := 93) rfl (by omega) (by omega) (fun c3 => ?_) (fun c3 => ?_)
      · skip
        refine r_ex hX hP 3 (pc' := 99) (st' := [(0, f)]) (lo' := [(0, (0, a)), (1, (0, b)), (2, (0, c)), (3, (0, d)), (4, (0, e)), (5, (0, f)), (6, (1, ((((a - 96) * 32) + b) - 96)))]) rfl ?_
        refine r_if_le hX hP rfl (tgt := 119) rfl (by omega) (by omega) (fun c4 => ?_) (fun c4 => ?_)
        · skip
          refine r_ex hX hP 1 (pc' := 121) (st' := [(1, ((((a - 96) * 32) + b) - 96))]) (lo' := [(0, (0, a)), (1, (0, b)), (2, (0, c)), (3, (0, d)), (4, (0, e)), (5, (0, f)), (6, (1, ((((a - 96) * 32) + b) - 96)))]) rfl ?_
          exact r_retL hX hP rfl rfl (by omega) (by omega) ⟨rfl, rfl, ((((a - 96) * 32) + b) - 96), rfl, (by omega)⟩
        · skip
          refine r_ex hX hP 1 (pc' := 104) (st' := [(1, ((((a - 96) * 32) + b) - 96))]) (lo' := [(0, (0, a)), (1, (0, b)), (2, (0, c)), (3, (0, d)), (4, (0, e)), (5, (0, f)), (6, (1, ((((a - 96) * 32) + b) - 96)))]) rfl ?_
          refine r_ldc2 hX hP rfl (v := 32) (tbg sg9 133 rfl rfl) ?_
          refine r_ex hX hP 2 (pc' := 110) (st' := [(0, f), (1, (((((a - 96) * 32) + b) - 96) * 32))]) (lo' := [(0, (0, a)), (1, (0, b)), (2, (0, c)), (3, (0, d)), (4, (0, e)), (5, (0, f)), (6, (1, ((((a - 96) * 32) + b) - 96)))]) rfl ?_
          refine r_i2l hX hP rfl (by omega) (by omega) ?_
          refine r_ex hX hP 1 (pc' := 112) (st' := [(1, ((((((a - 96) * 32) + b) - 96) * 32) + f))]) (lo' := [(0, (0, a)), (1, (0, b)), (2, (0, c)), (3, (0, d)), (4, (0, e)), (5, (0, f)), (6, (1, ((((a - 96) * 32) + b) - 96)))]) rfl ?_
          refine r_ldc2 hX hP rfl (v := 96) (tbg sg9 134 rfl rfl) ?_
          refine r_ex hX hP 2 (pc' := 121) (st' := [(1, (((((((a - 96) * 32) + b) - 96) * 32) + f) - 96))]) (lo' := [(0, (0, a)), (1, (0, b)), (2, (0, c)), (3, (0, d)), (4, (0, e)), (5, (0, f)), (6, (1, ((((a - 96) * 32) + b) - 96)))]) rfl ?_
          exact r_retL hX hP rfl rfl (by omega) (by omega) ⟨rfl, rfl, (((((((a - 96) * 32) + b) - 96) * 32) + f) - 96), rfl, (by omega)⟩
      · skip
        refine r_ex hX hP 1 (pc' := 78) (st' := [(1, ((((a - 96) * 32) + b) - 96))]) (lo' := [(0, (0, a)), (1, (0, b)), (2, (0, c)), (3, (0, d)), (4, (0, e)), (5, (0, f)), (6, (1, ((((a - 96) * 32) + b) - 96)))]) rfl ?_
        refine r_ldc2 hX hP rfl (v := 32) (tbg sg9 133 rfl rfl) ?_
        refine r_ex hX hP 2 (pc' := 84) (st' := [(0, e), (1, (((((a - 96) * 32) + b) - 96) * 32))]) (lo' := [(0, (0, a)), (1, (0, b)), (2, (0, c)), (3, (0, d)), (4, (0, e)), (5, (0, f)), (6, (1, ((((a - 96) * 32) + b) - 96)))]) rfl ?_
        refine r_i2l hX hP rfl (by omega) (by omega) ?_
        refine r_ex hX hP 1 (pc' := 86) (st' := [(1, ((((((a - 96) * 32) + b) - 96) * 32) + e))]) (lo' := [(0, (0, a)), (1, (0, b)), (2, (0, c)), (3, (0, d)), (4, (0, e)), (5, (0, f)), (6, (1, ((((a - 96) * 32) + b) - 96)))]) rfl ?_
        refine r_ldc2 hX hP rfl (v := 96) (tbg sg9 134 rfl rfl) ?_
        refine r_ex hX hP 4 (pc' := 99) (st' := [(0, f)]) (lo' := [(0, (0, a)), (1, (0, b)), (2, (0, c)), (3, (0, d)), (4, (0, e)), (5, (0, f)), (6, (1, (((((((a - 96) * 32) + b) - 96) * 32) + e) - 96)))]) rfl ?_
        refine r_if_le hX hP rfl (tgt := 119) rfl (by omega) (by omega) (fun c5 => ?_) (fun c5 => ?_)
        · skip
          refine r_ex hX hP 1 (pc' := 121) (st' := [(1, (((((((a - 96) * 32) + b) - 96) * 32) + e) - 96))]) (lo' := [(0, (0, a)), (1, (0, b)), (2, (0, c)), (3, (0, d)), (4, (0, e)), (5, (0, f)), (6, (1, (((((((a - 96) * 32) + b) - 96) * 32) + e) - 96)))]) rfl ?_
          exact r_retL hX hP rfl rfl (by omega) (by omega) ⟨rfl, rfl, (((((((a - 96) * 32) + b) - 96) * 32) + e) - 96), rfl, (by omega)⟩
        · skip
          refine r_ex hX hP 1 (pc' := 104) (st' := [(1, (((((((a - 96) * 32) + b) - 96) * 32) + e) - 96))]) (lo' := [(0, (0, a)), (1, (0, b)), (2, (0, c)), (3, (0, d)), (4, (0, e)), (5, (0, f)), (6, (1, (((((((a - 96) * 32) + b) - 96) * 32) + e) - 96)))]) rfl ?_
          refine r_ldc2 hX hP rfl (v := 32) (tbg sg9 133 rfl rfl) ?_
          refine r_ex hX hP 2 (pc' := 110) (st' := [(0, f), (1, ((((((((a - 96) * 32) + b) - 96) * 32) + e) - 96) * 32))]) (lo' := [(0, (0, a)), (1, (0, b)), (2, (0, c)), (3, (0, d)), (4, (0, e)), (5, (0, f)), (6, (1, (((((((a - 96) * 32) + b) - 96) * 32) + e) - 96)))]) rfl ?_
          refine r_i2l hX hP rfl (by omega) (by omega) ?_
          refine r_ex hX hP 1 (pc' := 112) (st' := [(1, (((((((((a - 96) * 32) + b) - 96) * 32) + e) - 96) * 32) + f))]) (lo' := [(0, (0, a)), (1, (0, b)), (2, (0, c)), (3, (0, d)), (4, (0, e)), (5, (0, f)), (6, (1, (((((((a - 96) * 32) + b) - 96) * 32) + e) - 96)))]) rfl ?_
          refine r_ldc2 hX hP rfl (v := 96) (tbg sg9 134 rfl rfl) ?_
          refine r_ex hX hP 2 (pc' := 121) (st' := [(1, ((((((((((a - 96) * 32) + b) - 96) * 32) + e) - 96) * 32) + f) - 96))]) (lo' := [(0, (0, a)), (1, (0, b)), (2, (0, c)), (3, (0, d)), (4, (0, e)), (5, (0, f)), (6, (1, (((((((a - 96) * 32) + b) - 96) * 32) + e) - 96)))]) rfl ?_
          exact r_retL hX hP rfl rfl (by omega) (by omega) ⟨rfl, rfl, ((((((((((a - 96) * 32) + b) - 96) * 32) + e) - 96) * 32) + f) - 96), rfl, (by omega)⟩
    · skip
      refine r_ex hX hP 1 (pc' := 53) (st' := [(1, ((((a - 96) * 32) + b) - 96))]) (lo' := [(0, (0, a)), (1, (0, b)), (2, (0, c)), (3, (0, d)), (4, (0, e)), (5, (0, f)), (6, (1, ((((a - 96) * 32) + b) - 96)))]) rfl ?_
      refine r_ldc2 hX hP rfl (v := 32) (tbg sg9 133 rfl rfl) ?_
      refine r_ex hX hP 2 (pc' := 58) (st' := [(0, d), (1, (((((a - 96) * 32) + b) - 96) * 32))]) (lo' := [(0, (0, a)), (1, (0, b)), (2, (0, c)), (3, (0, d)), (4, (0, e)), (5, (0, f)), (6, (1, ((((a - 96) * 32) + b) - 96)))]) rfl ?_
      refine r_i2l hX hP rfl (by omega) (by omega) ?_
      refine r_ex hX hP 1 (pc' := 60) (st' := [(1, ((((((a - 96) * 32) + b) - 96) * 32) + d))]) (lo' := [(0, (0, a)), (1, (0, b)), (2, (0, c)), (3, (0, d)), (4, (0, e)), (5, (0, f)), (6, (1, ((((a - 96) * 32) + b) - 96)))]) rfl ?_
      refine r_ldc2 hX hP rfl (v := 96) (tbg sg9 134 rfl rfl) ?_
      refine r_ex hX hP 4 (pc' := 73) (st' := [(0, e)]) (lo' := [(0, (0, a)), (1, (0, b)), (2, (0, c)), (3, (0, d)), (4, (0, e)), (5, (0, f)), (6, (1, (((((((a - 96) * 32) + b) - 96) * 32) + d) - 96)))]) rfl ?_
      refine r_if_le hX hP rfl (tgt := 93) rfl (by omega) (by omega) (fun c6 => ?_) (fun c6 => ?_)
      · skip
        refine r_ex hX hP 3 (pc' := 99) (st' := [(0, f)]) (lo' := [(0, (0, a)), (1, (0, b)), (2, (0, c)), (3, (0, d)), (4, (0, e)), (5, (0, f)), (6, (1, (((((((a - 96) * 32) + b) - 96) * 32) + d) - 96)))]) rfl ?_
        refine r_if_le hX hP rfl (tgt := 119) rfl (by omega) (by omega) (fun c7 => ?_) (fun c7 => ?_)
        · skip
          refine r_ex hX hP 1 (pc' := 121) (st' := [(1, (((((((a - 96) * 32) + b) - 96) * 32) + d) - 96))]) (lo' := [(0, (0, a)), (1, (0, b)), (2, (0, c)), (3, (0, d)), (4, (0, e)), (5, (0, f)), (6, (1, (((((((a - 96) * 32) + b) - 96) * 32) + d) - 96)))]) rfl ?_
          exact r_retL hX hP rfl rfl (by omega) (by omega) ⟨rfl, rfl, (((((((a - 96) * 32) + b) - 96) * 32) + d) - 96), rfl, (by omega)⟩
        · skip
          refine r_ex hX hP 1 (pc' := 104) (st' := [(1, (((((((a - 96) * 32) + b) - 96) * 32) + d) - 96))]) (lo' := [(0, (0, a)), (1, (0, b)), (2, (0, c)), (3, (0, d)), (4, (0, e)), (5, (0, f)), (6, (1, (((((((a - 96) * 32) + b) - 96) * 32) + d) - 96)))]) rfl ?_
          refine r_ldc2 hX hP rfl (v := 32) (tbg sg9 133 rfl rfl) ?_
          refine r_ex hX hP 2 (pc' := 110) (st' := [(0, f), (1, ((((((((a - 96) * 32) + b) - 96) * 32) + d) - 96) * 32))]) (lo' := [(0, (0, a)), (1, (0, b)), (2, (0, c)), (3, (0, d)), (4, (0, e)), (5, (0, f)), (6, (1, (((((((a - 96) * 32) + b) - 96) * 32) + d) - 96)))]) rfl ?_
          refine r_i2l hX hP rfl (by omega) (by omega) ?_
          refine r_ex hX hP 1 (pc' := 112) (st' := [(1, (((((((((a - 96) * 32) + b) - 96) * 32) + d) - 96) * 32) + f))]) (lo' := [(0, (0, a)), (1, (0, b)), (2, (0, c)), (3, (0, d)), (4, (0, e)), (5, (0, f)), (6, (1, (((((((a - 96) * 32) + b) - 96) * 32) + d) - 96)))]) rfl ?_
          refine r_ldc2 hX hP rfl (v := 96) (tbg sg9 134 rfl rfl) ?_
          refine r_ex hX hP 2 (pc' := 121) (st' := [(1, ((((((((((a - 96) * 32) + b) - 96) * 32) + d) - 96) * 32) + f) - 96))]) (lo' := [(0, (0, a)), (1, (0, b)), (2, (0, c)), (3, (0, d)), (4, (0, e)), (5, (0, f)), (6, (1, (((((((a - 96) * 32) + b) - 96) * 32) + d) - 96)))]) rfl ?_
          exact r_retL hX hP rfl rfl (by omega) (by omega) ⟨rfl, rfl, ((((((((((a - 96) * 32) + b) - 96) * 32) + d) - 96) * 32) + f) - 96), rfl, (by omega)⟩
      · skip
        refine r_ex hX hP 1 (pc' := 78) (st' := [(1, (((((((a - 96) * 32) + b) - 96) * 32) + d) - 96))]) (lo' := [(0, (0, a)), (1, (0, b)), (2, (0, c)), (3, (0, d)), (4, (0, e)), (5, (0, f)), (6, (1, (((((((a - 96) * 32) + b) - 96) * 32) + d) - 96)))]) rfl ?_
        refine r_ldc2 hX hP rfl (v := 32) (tbg sg9 133 rfl rfl) ?_
        refine r_ex hX hP 2 (pc' := 84) (st' := [(0, e), (1, ((((((((a - 96) * 32) + b) - 96) * 32) + d) - 96) * 32))]) (lo' := [(0, (0, a)), (1, (0, b)), (2, (0, c)), (3, (0, d)), (4, (0, e)), (5, (0, f)), (6, (1, (((((((a - 96) * 32) + b) - 96) * 32) + d) - 96)))]) rfl ?_
        refine r_i2l hX hP rfl (by omega) (by omega) ?_
        refine r_ex hX hP 1 (pc' := 86) (st' := [(1, (((((((((a - 96) * 32) + b) - 96) * 32) + d) - 96) * 32) + e))]) (lo' := [(0, (0, a)), (1, (0, b)), (2, (0, c)), (3, (0, d)), (4, (0, e)), (5, (0, f)), (6, (1, (((((((a - 96) * 32) + b) - 96) * 32) + d) - 96)))]) rfl ?_
        refine r_ldc2 hX hP rfl (v := 96) (tbg sg9 134 rfl rfl) ?_
        refine r_ex hX hP 4 (pc' := 99) (st' := [(0, f)]) (lo' := [(0, (0, a)), (1, (0, b)), (2, (0, c)), (3, (0, d)), (4, (0, e)), (5, (0, f)), (6, (1, ((((((((((a - 96) * 32) + b) - 96) * 32) + d) - 96) * 32) + e) - 96)))]) rfl ?_
        refine r_if_le hX hP rfl (tgt := 119) rfl (by omega) (by omega) (fun c8 => ?_) (fun c8 => ?_)
        · skip
          refine r_ex hX hP 1 (pc' := 121) (st' := [(1, ((((((((((a - 96) * 32) + b) - 96) * 32) + d) - 96) * 32) + e) - 96))]) (lo' := [(0, (0, a)), (1, (0, b)), (2, (0, c)), (3, (0, d)), (4, (0, e)), (5, (0, f)), (6, (1, ((((((((((a - 96) * 32) + b) - 96) * 32) + d) - 96) * 32) + e) - 96)))]) rfl ?_
          exact r_retL hX hP rfl rfl (by omega) (by omega) ⟨rfl, rfl, ((((((((((a - 96) * 32) + b) - 96) * 32) + d) - 96) * 32) + e) - 96), rfl, (by omega)⟩
        · skip
          refine r_ex hX hP 1 (pc' := 104) (st' := [(1, ((((((((((a - 96) * 32) + b) - 96) * 32) + d) - 96) * 32) + e) - 96))]) (lo' := [(0, (0, a)), (1, (0, b)), (2, (0, c)), (3, (0, d)), (4, (0, e)), (5, (0, f)), (6, (1, ((((((((((a - 96) * 32) + b) - 96) * 32) + d) - 96) * 32) + e) - 96)))]) rfl ?_
          refine r_ldc2 hX hP rfl (v := 32) (tbg sg9 133 rfl rfl) ?_
          refine r_ex hX hP 2 (pc' := 110) (st' := [(0, f), (1, (((((((((((a - 96) * 32) + b) - 96) * 32) + d) - 96) * 32) + e) - 96) * 32))]) (lo' := [(0, (0, a)), (1, (0, b)), (2, (0, c)), (3, (0, d)), (4, (0, e)), (5, (0, f)), (6, (1, ((((((((((a - 96) * 32) + b) - 96) * 32) + d) - 96) * 32) + e) - 96)))]) rfl ?_
          refine r_i2l hX hP rfl (by omega) (by omega) ?_
          refine r_ex hX hP 1 (pc' := 112) (st' := [(1, ((((((((((((a - 96) * 32) + b) - 96) * 32) + d) - 96) * 32) + e) - 96) * 32) + f))]) (lo' := [(0, (0, a)), (1, (0, b)), (2, (0, c)), (3, (0, d)), (4, (0, e)), (5, (0, f)), (6, (1, ((((((((((a - 96) * 32) + b) - 96) * 32) + d) - 96) * 32) + e) - 96)))]) rfl ?_
          refine r_ldc2 hX hP rfl (v := 96) (tbg sg9 134 rfl rfl) ?_
          refine r_ex hX hP 2 (pc' := 121) (st' := [(1, (((((((((((((a - 96) * 32) + b) - 96) * 32) + d) - 96) * 32) + e) - 96) * 32) + f) - 96))]) (lo' := [(0, (0, a)), (1, (0, b)), (2, (0, c)), (3, (0, d)), (4, (0, e)), (5, (0, f)), (6, (1, ((((((((((a - 96) * 32) + b) - 96) * 32) + d) - 96) * 32) + e) - 96)))]) rfl ?_
          exact r_retL hX hP rfl rfl (by omega) (by omega) ⟨rfl, rfl, (((((((((((((a - 96) * 32) + b) - 96) * 32) + d) - 96) * 32) + e) - 96) * 32) + f) - 96), rfl, (by omega)⟩
  · skip
    refine r_ex hX hP 1 (pc' := 29) (st' := [(1, ((((a - 96) * 32) + b) - 96))]) (lo' := [(0, (0, a)), (1, (0, b)), (2, (0, c)), (3, (0, d)), (4, (0, e)), (5, (0, f)), (6, (1, ((((a - 96) * 32) + b) - 96)))]) rfl ?_
    refine r_ldc2 hX hP rfl (v := 32) (tbg sg9 133 rfl rfl) ?_
    refine r_ex hX hP 2 (pc' := 34) (st' := [(0, c), (1, (((((a - 96) * 32) + b) - 96) * 32))]) (lo' := [(0, (0, a)), (1, (0, b)), (2, (0, c)), (3, (0, d)), (4, (0, e)), (5, (0, f)), (6, (1, ((((a - 96) * 32) + b) - 96)))]) rfl ?_
    refine r_i2l hX hP rfl (by omega) (by omega) ?_
    refine r_ex hX hP 1 (pc' := 36) (st' := [(1, ((((((a - 96) * 32) + b) - 96) * 32) + c))]) (lo' := [(0, (0, a)), (1, (0, b)), (2, (0, c)), (3, (0, d)), (4, (0, e)), (5, (0, f)), (6, (1, ((((a - 96) * 32) + b) - 96)))]) rfl ?_
    refine r_ldc2 hX hP rfl (v := 96) (tbg sg9 134 rfl rfl) ?_
    refine r_ex hX hP 4 (pc' := 48) (st' := [(0, d)]) (lo' := [(0, (0, a)), (1, (0, b)), (2, (0, c)), (3, (0, d)), (4, (0, e)), (5, (0, f)), (6, (1, (((((((a - 96) * 32) + b) - 96) * 32) + c) - 96)))]) rfl ?_
    refine r_if_le hX hP rfl (tgt := 67) rfl (by omega) (by omega) (fun c9 => ?_) (fun c9 => ?_)
    · skip
      refine r_ex hX hP 3 (pc' := 73) (st' := [(0, e)]) (lo' := [(0, (0, a)), (1, (0, b)), (2, (0, c)), (3, (0, d)), (4, (0, e)), (5, (0, f)), (6, (1, (((((((a - 96) * 32) + b) - 96) * 32) + c) - 96)))]) rfl ?_
      refine r_if_le hX hP rfl (tgt := 93) rfl (by omega) (by omega) (fun c10 => ?_) (fun c10 => ?_)
      · skip
        refine r_ex hX hP 3 (pc' := 99) (st' := [(0, f)]) (lo' := [(0, (0, a)), (1, (0, b)), (2, (0, c)), (3, (0, d)), (4, (0, e)), (5, (0, f)), (6, (1, (((((((a - 96) * 32) + b) - 96) * 32) + c) - 96)))]) rfl ?_
        refine r_if_le hX hP rfl (tgt := 119) rfl (by omega) (by omega) (fun c11 => ?_) (fun c11 => ?_)
        · skip
          refine r_ex hX hP 1 (pc' := 121) (st' := [(1, (((((((a - 96) * 32) + b) - 96) * 32) + c) - 96))]) (lo' := [(0, (0, a)), (1, (0, b)), (2, (0, c)), (3, (0, d)), (4, (0, e)), (5, (0, f)), (6, (1, (((((((a - 96) * 32) + b) - 96) * 32) + c) - 96)))]) rfl ?_
          exact r_retL hX hP rfl rfl (by omega) (by omega) ⟨rfl, rfl, (((((((a - 96) * 32) + b) - 96) * 32) + c) - 96), rfl, (by omega)⟩
        · skip
          refine r_ex hX hP 1 (pc' := 104) (st' := [(1, (((((((a - 96) * 32) + b) - 96) * 32) + c) - 96))]) (lo' := [(0, (0, a)), (1, (0, b)), (2, (0, c)), (3, (0, d)), (4, (0, e)), (5, (0, f)), (6, (1, (((((((a - 96) * 32) + b) - 96) * 32) + c) - 96)))]) rfl ?_
          refine r_ldc2 hX hP rfl (v := 32) (tbg sg9 133 rfl rfl) ?_
          refine r_ex hX hP 2 (pc' := 110) (st' := [(0, f), (1, ((((((((a - 96) * 32) + b) - 96) * 32) + c) - 96) * 32))]) (lo' := [(0, (0, a)), (1, (0, b)), (2, (0, c)), (3, (0, d)), (4, (0, e)), (5, (0, f)), (6, (1, (((((((a - 96) * 32) + b) - 96) * 32) + c) - 96)))]) rfl ?_
          refine r_i2l hX hP rfl (by omega) (by omega) ?_
          refine r_ex hX hP 1 (pc' := 112) (st' := [(1, (((((((((a - 96) * 32) + b) - 96) * 32) + c) - 96) * 32) + f))]) (lo' := [(0, (0, a)), (1, (0, b)), (2, (0, c)), (3, (0, d)), (4, (0, e)), (5, (0, f)), (6, (1, (((((((a - 96) * 32) + b) - 96) * 32) + c) - 96)))]) rfl ?_
          refine r_ldc2 hX hP rfl (v := 96) (tbg sg9 134 rfl rfl) ?_
          refine r_ex hX hP 2 (pc' := 121) (st' := [(1, ((((((((((a - 96) * 32) + b) - 96) * 32) + c) - 96) * 32) + f) - 96))]) (lo' := [(0, (0, a)), (1, (0, b)), (2, (0, c)), (3, (0, d)), (4, (0, e)), (5, (0, f)), (6, (1, (((((((a - 96) * 32) + b) - 96) * 32) + c) - 96)))]) rfl ?_
          exact r_retL hX hP rfl rfl (by omega) (by omega) ⟨rfl, rfl, ((((((((((a - 96) * 32) + b) - 96) * 32) + c) - 96) * 32) + f) - 96), rfl, (by omega)⟩
      · skip
        refine r_ex hX hP 1 (pc' := 78) (st' := [(1, (((((((a - 96) * 32) + b) - 96) * 32) + c) - 96))]) (lo' := [(0, (0, a)), (1, (0, b)), (2, (0, c)), (3, (0, d)), (4, (0, e)), (5, (0, f)), (6, (1, (((((((a - 96) * 32) + b) - 96) * 32) + c) - 96)))]) rfl ?_
        refine r_ldc2 hX hP rfl (v := 32) (tbg sg9 133 rfl rfl) ?_
        refine r_ex hX hP 2 (pc' := 84) (st' := [(0, e), (1, ((((((((a - 96) * 32) + b) - 96) * 32) + c) - 96) * 32))]) (lo' := [(0, (0, a)), (1, (0, b)), (2, (0, c)), (3, (0, d)), (4, (0, e)), (5, (0, f)), (6, (1, (((((((a - 96) * 32) + b) - 96) * 32) + c) - 96)))]) rfl ?_
        refine r_i2l hX hP rfl (by omega) (by omega) ?_
        refine r_ex hX hP 1 (pc' := 86) (st' := [(1, (((((((((a - 96) * 32) + b) - 96) * 32) + c) - 96) * 32) + e))]) (lo' := [(0, (0, a)), (1, (0, b)), (2, (0, c)), (3, (0, d)), (4, (0, e)), (5, (0, f)), (6, (1, (((((((a - 96) * 32) + b) - 96) * 32) + c) - 96)))]) rfl ?_
        refine r_ldc2 hX hP rfl (v := 96) (tbg sg9 134 rfl rfl) ?_
        refine r_ex hX hP 4 (pc' := 99) (st' := [(0, f)]) (lo' := [(0, (0, a)), (1, (0, b)), (2, (0, c)), (3, (0, d)), (4, (0, e)), (5, (0, f)), (6, (1, ((((((((((a - 96) * 32) + b) - 96) * 32) + c) - 96) * 32) + e) - 96)))]) rfl ?_
        refine r_if_le hX hP rfl (tgt := 119) rfl (by omega) (by omega) (fun c12 => ?_) (fun c12 => ?_)
        · skip
          refine r_ex hX hP 1 (pc' := 121) (st' := [(1, ((((((((((a - 96) * 32) + b) - 96) * 32) + c) - 96) * 32) + e) - 96))]) (lo' := [(0, (0, a)), (1, (0, b)), (2, (0, c)), (3, (0, d)), (4, (0, e)), (5, (0, f)), (6, (1, ((((((((((a - 96) * 32) + b) - 96) * 32) + c) - 96) * 32) + e) - 96)))]) rfl ?_
          exact r_retL hX hP rfl rfl (by omega) (by omega) ⟨rfl, rfl, ((((((((((a - 96) * 32) + b) - 96) * 32) + c) - 96) * 32) + e) - 96), rfl, (by omega)⟩
        · skip
          refine r_ex hX hP 1 (pc' := 104) (st' := [(1, ((((((((((a - 96) * 32) + b) - 96) * 32) + c) - 96) * 32) + e) - 96))]) (lo' := [(0, (0, a)), (1, (0, b)), (2, (0, c)), (3, (0, d)), (4, (0, e)), (5, (0, f)), (6, (1, ((((((((((a - 96) * 32) + b) - 96) * 32) + c) - 96) * 32) + e) - 96)))]) rfl ?_
          refine r_ldc2 hX hP rfl (v := 32) (tbg sg9 133 rfl rfl) ?_
          refine r_ex hX hP 2 (pc' := 110) (st' := [(0, f), (1, (((((((((((a - 96) * 32) + b) - 96) * 32) + c) - 96) * 32) + e) - 96) * 32))]) (lo' := [(0, (0, a)), (1, (0, b)), (2, (0, c)), (3, (0, d)), (4, (0, e)), (5, (0, f)), (6, (1, ((((((((((a - 96) * 32) + b) - 96) * 32) + c) - 96) * 32) + e) - 96)))]) rfl ?_
          refine r_i2l hX hP rfl (by omega) (by omega) ?_
          refine r_ex hX hP 1 (pc' := 112) (st' := [(1, ((((((((((((a - 96) * 32) + b) - 96) * 32) + c) - 96) * 32) + e) - 96) * 32) + f))]) (lo' := [(0, (0, a)), (1, (0, b)), (2, (0, c)), (3, (0, d)), (4, (0, e)), (5, (0, f)), (6, (1, ((((((((((a - 96) * 32) + b) - 96) * 32) + c) - 96) * 32) + e) - 96)))]) rfl ?_
          refine r_ldc2 hX hP rfl (v := 96) (tbg sg9 134 rfl rfl) ?_
          refine r_ex hX hP 2 (pc' := 121) (st' := [(1, (((((((((((((a - 96) * 32) + b) - 96) * 32) + c) - 96) * 32) + e) - 96) * 32) + f) - 96))]) (lo' := [(0, (0, a)), (1, (0, b)), (2, (0, c)), (3, (0, d)), (4, (0, e)), (5, (0, f)), (6, (1, ((((((((((a - 96) * 32) + b) - 96) * 32) + c) - 96) * 32) + e) - 96)))]) rfl ?_
          exact r_retL hX hP rfl rfl (by omega) (by omega) ⟨rfl, rfl, (((((((((((((a - 96) * 32) + b) - 96) * 32) + c) - 96) * 32) + e) - 96) * 32) + f) - 96), rfl, (by omega)⟩
    · skip
      refine r_ex hX hP 1 (pc' := 53) (st' := [(1, (((((((a - 96) * 32) + b) - 96) * 32) + c) - 96))]) (lo' := [(0, (0, a)), (1, (0, b)), (2, (0, c)), (3, (0, d)), (4, (0, e)), (5, (0, f)), (6, (1, (((((((a - 96) * 32) + b) - 96) * 32) + c) - 96)))]) rfl ?_
      refine r_ldc2 hX hP rfl (v := 32) (tbg sg9 133 rfl rfl) ?_
      refine r_ex hX hP 2 (pc' := 58) (st' := [(0, d), (1, ((((((((a - 96) * 32) + b) - 96) * 32) + c) - 96) * 32))]) (lo' := [(0, (0, a)), (1, (0, b)), (2, (0, c)), (3, (0, d)), (4, (0, e)), (5, (0, f)), (6, (1, (((((((a - 96) * 32) + b) - 96) * 32) + c) - 96)))]) rfl ?_
      refine r_i2l hX hP rfl (by omega) (by omega) ?_
      refine r_ex hX hP 1 (pc' := 60) (st' := [(1, (((((((((a - 96) * 32) + b) - 96) * 32) + c) - 96) * 32) + d))]) (lo' := [(0, (0, a)), (1, (0, b)), (2, (0, c)), (3, (0, d)), (4, (0, e)), (5, (0, f)), (6, (1, (((((((a - 96) * 32) + b) - 96) * 32) + c) - 96)))]) rfl ?_
      refine r_ldc2 hX hP rfl (v := 96) (tbg sg9 134 rfl rfl) ?_
      refine r_ex hX hP 4 (pc' := 73) (st' := [(0, e)]) (lo' := [(0, (0, a)), (1, (0, b)), (2, (0, c)), (3, (0, d)), (4, (0, e)), (5, (0, f)), (6, (1, ((((((((((a - 96) * 32) + b) - 96) * 32) + c) - 96) * 32) + d) - 96)))]) rfl ?_
      refine r_if_le hX hP rfl (tgt := 93) rfl (by omega) (by omega) (fun c13 => ?_) (fun c13 => ?_)
      · skip
        refine r_ex hX hP 3 (pc' := 99) (st' := [(0, f)]) (lo' := [(0, (0, a)), (1, (0, b)), (2, (0, c)), (3, (0, d)), (4, (0, e)), (5, (0, f)), (6, (1, ((((((((((a - 96) * 32) + b) - 96) * 32) + c) - 96) * 32) + d) - 96)))]) rfl ?_
        refine r_if_le hX hP rfl (tgt := 119) rfl (by omega) (by omega) (fun c14 => ?_) (fun c14 => ?_)
        · skip
          refine r_ex hX hP 1 (pc' := 121) (st' := [(1, ((((((((((a - 96) * 32) + b) - 96) * 32) + c) - 96) * 32) + d) - 96))]) (lo' := [(0, (0, a)), (1, (0, b)), (2, (0, c)), (3, (0, d)), (4, (0, e)), (5, (0, f)), (6, (1, ((((((((((a - 96) * 32) + b) - 96) * 32) + c) - 96) * 32) + d) - 96)))]) rfl ?_
          exact r_retL hX hP rfl rfl (by omega) (by omega) ⟨rfl, rfl, ((((((((((a - 96) * 32) + b) - 96) * 32) + c) - 96) * 32) + d) - 96), rfl, (by omega)⟩
        · skip
          refine r_ex hX hP 1 (pc' := 104) (st' := [(1, ((((((((((a - 96) * 32) + b) - 96) * 32) + c) - 96) * 32) + d) - 96))]) (lo' := [(0, (0, a)), (1, (0, b)), (2, (0, c)), (3, (0, d)), (4, (0, e)), (5, (0, f)), (6, (1, ((((((((((a - 96) * 32) + b) - 96) * 32) + c) - 96) * 32) + d) - 96)))]) rfl ?_
          refine r_ldc2 hX hP rfl (v := 32) (tbg sg9 133 rfl rfl) ?_
          refine r_ex hX hP 2 (pc' := 110) (st' := [(0, f), (1, (((((((((((a - 96) * 32) + b) - 96) * 32) + c) - 96) * 32) + d) - 96) * 32))]) (lo' := [(0, (0, a)), (1, (0, b)), (2, (0, c)), (3, (0, d)), (4, (0, e)), (5, (0, f)), (6, (1, ((((((((((a - 96) * 32) + b) - 96) * 32) + c) - 96) * 32) + d) - 96)))]) rfl ?_
          refine r_i2l hX hP rfl (by omega) (by omega) ?_
          refine r_ex hX hP 1 (pc' := 112) (st' := [(1, ((((((((((((a - 96) * 32) + b) - 96) * 32) + c) - 96) * 32) + d) - 96) * 32) + f))]) (lo' := [(0, (0, a)), (1, (0, b)), (2, (0, c)), (3, (0, d)), (4, (0, e)), (5, (0, f)), (6, (1, ((((((((((a - 96) * 32) + b) - 96) * 32) + c) - 96) * 32) + d) - 96)))]) rfl ?_
          refine r_ldc2 hX hP rfl (v := 96) (tbg sg9 134 rfl rfl) ?_
          refine r_ex hX hP 2 (pc' := 121) (st' := [(1, (((((((((((((a - 96) * 32) + b) - 96) * 32) + c) - 96) * 32) + d) - 96) * 32) + f) - 96))]) (lo' := [(0, (0, a)), (1, (0, b)), (2, (0, c)), (3, (0, d)), (4, (0, e)), (5, (0, f)), (6, (1, ((((((((((a - 96) * 32) + b) - 96) * 32) + c) - 96) * 32) + d) - 96)))]) rfl ?_
          exact r_retL hX hP rfl rfl (by omega) (by omega) ⟨rfl, rfl, (((((((((((((a - 96) * 32) + b) - 96) * 32) + c) - 96) * 32) + d) - 96) * 32) + f) - 96), rfl, (by omega)⟩
      · skip
        refine r_ex hX hP 1 (pc' := 78) (st' := [(1, ((((((((((a - 96) * 32) + b) - 96) * 32) + c) - 96) * 32) + d) - 96))]) (lo' := [(0, (0, a)), (1, (0, b)), (2, (0, c)), (3, (0, d)), (4, (0, e)), (5, (0, f)), (6, (1, ((((((((((a - 96) * 32) + b) - 96) * 32) + c) - 96) * 32) + d) - 96)))]) rfl ?_
        refine r_ldc2 hX hP rfl (v := 32) (tbg sg9 133 rfl rfl) ?_
        refine r_ex hX hP 2 (pc' := 84) (st' := [(0, e), (1, (((((((((((a - 96) * 32) + b) - 96) * 32) + c) - 96) * 32) + d) - 96) * 32))]) (lo' := [(0, (0, a)), (1, (0, b)), (2, (0, c)), (3, (0, d)), (4, (0, e)), (5, (0, f)), (6, (1, ((((((((((a - 96) * 32) + b) - 96) * 32) + c) - 96) * 32) + d) - 96)))]) rfl ?_
        refine r_i2l hX hP rfl (by omega) (by omega) ?_
        refine r_ex hX hP 1 (pc' := 86) (st' := [(1, ((((((((((((a - 96) * 32) + b) - 96) * 32) + c) - 96) * 32) + d) - 96) * 32) + e))]) (lo' := [(0, (0, a)), (1, (0, b)), (2, (0, c)), (3, (0, d)), (4, (0, e)), (5, (0, f)), (6, (1, ((((((((((a - 96) * 32) + b) - 96) * 32) + c) - 96) * 32) + d) - 96)))]) rfl ?_
        refine r_ldc2 hX hP rfl (v := 96) (tbg sg9 134 rfl rfl) ?_
        refine r_ex hX hP 4 (pc' := 99) (st' := [(0, f)]) (lo' := [(0, (0, a)), (1, (0, b)), (2, (0, c)), (3, (0, d)), (4, (0, e)), (5, (0, f)), (6, (1, (((((((((((((a - 96) * 32) + b) - 96) * 32) + c) - 96) * 32) + d) - 96) * 32) + e) - 96)))]) rfl ?_
        refine r_if_le hX hP rfl (tgt := 119) rfl (by omega) (by omega) (fun c15 => ?_) (fun c15 => ?_)
        · skip
          refine r_ex hX hP 1 (pc' := 121) (st' := [(1, (((((((((((((a - 96) * 32) + b) - 96) * 32) + c) - 96) * 32) + d) - 96) * 32) + e) - 96))]) (lo' := [(0, (0, a)), (1, (0, b)), (2, (0, c)), (3, (0, d)), (4, (0, e)), (5, (0, f)), (6, (1, (((((((((((((a - 96) * 32) + b) - 96) * 32) + c) - 96) * 32) + d) - 96) * 32) + e) - 96)))]) rfl ?_
          exact r_retL hX hP rfl rfl (by omega) (by omega) ⟨rfl, rfl, (((((((((((((a - 96) * 32) + b) - 96) * 32) + c) - 96) * 32) + d) - 96) * 32) + e) - 96), rfl, (by omega)⟩
        · skip
          refine r_ex hX hP 1 (pc' := 104) (st' := [(1, (((((((((((((a - 96) * 32) + b) - 96) * 32) + c) - 96) * 32) + d) - 96) * 32) + e) - 96))]) (lo' := [(0, (0, a)), (1, (0, b)), (2, (0, c)), (3, (0, d)), (4, (0, e)), (5, (0, f)), (6, (1, (((((((((((((a - 96) * 32) + b) - 96) * 32) + c) - 96) * 32) + d) - 96) * 32) + e) - 96)))]) rfl ?_
          refine r_ldc2 hX hP rfl (v := 32) (tbg sg9 133 rfl rfl) ?_
          refine r_ex hX hP 2 (pc' := 110) (st' := [(0, f), (1, ((((((((((((((a - 96) * 32) + b) - 96) * 32) + c) - 96) * 32) + d) - 96) * 32) + e) - 96) * 32))]) (lo' := [(0, (0, a)), (1, (0, b)), (2, (0, c)), (3, (0, d)), (4, (0, e)), (5, (0, f)), (6, (1, (((((((((((((a - 96) * 32) + b) - 96) * 32) + c) - 96) * 32) + d) - 96) * 32) + e) - 96)))]) rfl ?_
          refine r_i2l hX hP rfl (by omega) (by omega) ?_
          refine r_ex hX hP 1 (pc' := 112) (st' := [(1, (((((((((((((((a - 96) * 32) + b) - 96) * 32) + c) - 96) * 32) + d) - 96) * 32) + e) - 96) * 32) + f))]) (lo' := [(0, (0, a)), (1, (0, b)), (2, (0, c)), (3, (0, d)), (4, (0, e)), (5, (0, f)), (6, (1, (((((((((((((a - 96) * 32) + b) - 96) * 32) + c) - 96) * 32) + d) - 96) * 32) + e) - 96)))]) rfl ?_
          refine r_ldc2 hX hP rfl (v := 96) (tbg sg9 134 rfl rfl) ?_
          refine r_ex hX hP 2 (pc' := 121) (st' := [(1, ((((((((((((((((a - 96) * 32) + b) - 96) * 32) + c) - 96) * 32) + d) - 96) * 32) + e) - 96) * 32) + f) - 96))]) (lo' := [(0, (0, a)), (1, (0, b)), (2, (0, c)), (3, (0, d)), (4, (0, e)), (5, (0, f)), (6, (1, (((((((((((((a - 96) * 32) + b) - 96) * 32) + c) - 96) * 32) + d) - 96) * 32) + e) - 96)))]) rfl ?_
          exact r_retL hX hP rfl rfl (by omega) (by omega) ⟨rfl, rfl, ((((((((((((((((a - 96) * 32) + b) - 96) * 32) + c) - 96) * 32) + d) - 96) * 32) + e) - 96) * 32) + f) - 96), rfl, (by omega)⟩
set_option maxRecDepth 100000 in
set_option maxHeartbeats 4000000 in
theorem c_X12_isWord (E : En) (S : Sg) (G : Gh) (w : Int) (hS : S (Ad E 1) = 1) (w_a : (-9223372036854775808) ≤ w) (w_b : w ≤ 9223372036854775807) : Calls E mX12_isWord [(2, (Ad E 1)), (1, w)] S G 0 0 0 (fun r S' G' => S = S' ∧ G = G' ∧ ∃ z : Int, r = some (0, z) ∧ 0 ≤ z ∧ z ≤ 1) := by
  refine calls_by [(0, (2, (Ad E 1))), (1, (1, w))] rfl rfl (Nat.le_of_ble_eq_true rfl) (fun X hX => ?_)
  have hP := hPX12_isWord
  refine r_ex hX hP 1 (pc' := 1) (st' := [(2, (Ad E 1))]) (lo' := [(0, (2, (Ad E 1))), (1, (1, w))]) rfl ?_
  refine r_getI hX hP rfl fl_12_358 hS (fun sf1 sf1e sf1a sf1b => ?_)
  refine r_ex hX hP 1 (pc' := 5) (st' := [(0, 1), (0, sf1)]) (lo' := [(0, (2, (Ad E 1))), (1, (1, w))]) rfl ?_
  refine r_ic_ne hX hP rfl (tgt := 21) rfl (by omega) (by omega) (by omega) (by omega) (fun c2 => ?_) (fun c2 => ?_)
  · skip
    refine r_ex hX hP 1 (pc' := 22) (st' := [(0, 0)]) (lo' := [(0, (2, (Ad E 1))), (1, (1, w))]) rfl ?_
    exact r_retZ hX hP rfl rfl (by omega) (by omega) (by omega) (by omega) ⟨rfl, rfl, 0, rfl, (by omega)⟩
  · skip
    refine r_ex hX hP 1 (pc' := 9) (st' := [(2, (Ad E 1))]) (lo' := [(0, (2, (Ad E 1))), (1, (1, w))]) rfl ?_
    refine r_getL hX hP rfl fl_12_364 hS (fun wf3 wf3e wf3a wf3b => ?_)
    refine r_ex hX hP 1 (pc' := 13) (st' := [(1, w), (1, wf3)]) (lo' := [(0, (2, (Ad E 1))), (1, (1, w))]) rfl ?_
    refine r_lc_ne hX hP rfl rfl (tgt := 21) rfl (by omega) (by omega) (by omega) (by omega) (fun c4 => ?_) (fun c4 => ?_)
    · skip
      refine r_ex hX hP 1 (pc' := 22) (st' := [(0, 0)]) (lo' := [(0, (2, (Ad E 1))), (1, (1, w))]) rfl ?_
      exact r_retZ hX hP rfl rfl (by omega) (by omega) (by omega) (by omega) ⟨rfl, rfl, 0, rfl, (by omega)⟩
    · skip
      refine r_ex hX hP 2 (pc' := 22) (st' := [(0, 1)]) (lo' := [(0, (2, (Ad E 1))), (1, (1, w))]) rfl ?_
      exact r_retZ hX hP rfl rfl (by omega) (by omega) (by omega) (by omega) ⟨rfl, rfl, 1, rfl, (by omega)⟩
set_option maxRecDepth 100000 in
set_option maxHeartbeats 4000000 in
theorem c_X12_isSign (E : En) (S : Sg) (G : Gh) (c : Int) (hS : S (Ad E 1) = 1) (c_a : 0 ≤ c) (c_b : c ≤ 255) : Calls E mX12_isSign [(2, (Ad E 1)), (0, c)] S G 0 0 0 (fun r S' G' => S = S' ∧ G = G' ∧ ∃ z : Int, r = some (0, z) ∧ 0 ≤ z ∧ z ≤ 1) := by
  refine calls_by [(0, (2, (Ad E 1))), (1, (0, c))] rfl rfl (Nat.le_of_ble_eq_true rfl) (fun X hX => ?_)
  have hP := hPX12_isSign
  refine r_ex hX hP 1 (pc' := 1) (st' := [(2, (Ad E 1))]) (lo' := [(0, (2, (Ad E 1))), (1, (0, c))]) rfl ?_
  refine r_getI hX hP rfl fl_12_358 hS (fun sf1 sf1e sf1a sf1b => ?_)
  refine r_ex hX hP 1 (pc' := 5) (st' := [(0, 3), (0, sf1)]) (lo' := [(0, (2, (Ad E 1))), (1, (0, c))]) rfl ?_
  refine r_ic_ne hX hP rfl (tgt := 20) rfl (by omega) (by omega) (by omega) (by omega) (fun c2 => ?_) (fun c2 => ?_)
  · skip
    refine r_ex hX hP 1 (pc' := 21) (st' := [(0, 0)]) (lo' := [(0, (2, (Ad E 1))), (1, (0, c))]) rfl ?_
    exact r_retZ hX hP rfl rfl (by omega) (by omega) (by omega) (by omega) ⟨rfl, rfl, 0, rfl, (by omega)⟩
  · skip
    refine r_ex hX hP 1 (pc' := 9) (st' := [(2, (Ad E 1))]) (lo' := [(0, (2, (Ad E 1))), (1, (0, c))]) rfl ?_
    refine r_getI hX hP rfl fl_12_379 hS (fun nf3 nf3e nf3a nf3b => ?_)
    refine r_ex hX hP 1 (pc' := 13) (st' := [(0, c), (0, nf3)]) (lo' := [(0, (2, (Ad E 1))), (1, (0, c))]) rfl ?_
    refine r_ic_ne hX hP rfl (tgt := 20) rfl (by omega) (by omega) (by omega) (by omega) (fun c4 => ?_) (fun c4 => ?_)
    · skip
      refine r_ex hX hP 1 (pc' := 21) (st' := [(0, 0)]) (lo' := [(0, (2, (Ad E 1))), (1, (0, c))]) rfl ?_
      exact r_retZ hX hP rfl rfl (by omega) (by omega) (by omega) (by omega) ⟨rfl, rfl, 0, rfl, (by omega)⟩
    · skip
      refine r_ex hX hP 2 (pc' := 21) (st' := [(0, 1)]) (lo' := [(0, (2, (Ad E 1))), (1, (0, c))]) rfl ?_
      exact r_retZ hX hP rfl rfl (by omega) (by omega) (by omega) (by omega) ⟨rfl, rfl, 1, rfl, (by omega)⟩
set_option maxRecDepth 100000 in
set_option maxHeartbeats 4000000 in
theorem c_X12_fail (E : En) (S : Sg) (G : Gh) (w p : Int) (hS : S (Ad E 1) = 1) (w_a : 1 ≤ w) (w_b : w ≤ 6) (p_a : (-2147483648) ≤ p) (p_b : p ≤ 2147483647) : Calls E mX12_fail [(2, (Ad E 1)), (0, w), (0, p)] S G 0 0 0 (fun r S' G' => S = S' ∧ (∃ G1, hv [80, 81] [] G G1 = G') ∧ r = none ∧ ∃ bad' : Int, bad' = G' 1 (Ad E 1) 80 ∧ 1 ≤ bad') := by
  refine calls_by [(0, (2, (Ad E 1))), (1, (0, w)), (2, (0, p))] rfl rfl (Nat.le_of_ble_eq_true rfl) (fun X hX => ?_)
  have hP := hPX12_fail
  refine r_ex hX hP 1 (pc' := 1) (st' := [(2, (Ad E 1))]) (lo' := [(0, (2, (Ad E 1))), (1, (0, w)), (2, (0, p))]) rfl ?_
  refine r_getI hX hP rfl fl_12_382 hS (fun bf1 bf1e bf1a bf1b => ?_)
  refine r_if_le hX hP rfl (tgt := 8) rfl (by omega) (by omega) (fun c2 => ?_) (fun c2 => ?_)
  · skip
    refine r_ex hX hP 2 (pc' := 10) (st' := [(0, w), (2, (Ad E 1))]) (lo' := [(0, (2, (Ad E 1))), (1, (0, w)), (2, (0, p))]) rfl ?_
    refine r_putIK hX hP rfl fp_12_382 hS (by omega) (by omega) (fun h3 => ?_)
    refine r_ex hX hP 2 (pc' := 15) (st' := [(0, p), (2, (Ad E 1))]) (lo' := [(0, (2, (Ad E 1))), (1, (0, w)), (2, (0, p))]) rfl ?_
    refine r_putIK hX hP rfl fp_12_385 hS (by omega) (by omega) (fun h4 => ?_)
    exact r_retV hX hP rfl rfl (by omega) (by omega) ⟨rfl, ⟨_, (hq_up (hq_up (hq_refl _ _ _) rfl) rfl).symm⟩, rfl, w, h3, (by omega)⟩
  · skip
    exact r_retV hX hP rfl rfl (by omega) (by omega) ⟨rfl, ⟨_, (hq_refl _ _ _).symm⟩, rfl, bf1, bf1e, (by omega)⟩
set_option maxRecDepth 100000 in
set_option maxHeartbeats 4000000 in
theorem c_X12_wrong (E : En) (S : Sg) (G : Gh) (hS : S (Ad E 1) = 1) : Calls E mX12_wrong [(2, (Ad E 1))] S G 1 0 0 (fun r S' G' => S = S' ∧ (∃ G1, hv [80, 81] [] G G1 = G') ∧ r = none ∧ ∃ bad' : Int, bad' = G' 1 (Ad E 1) 80 ∧ 1 ≤ bad') := by
  refine calls_by [(0, (2, (Ad E 1)))] rfl rfl (Nat.le_of_ble_eq_true rfl) (fun X hX => ?_)
  have hP := hPX12_wrong
  refine r_ex hX hP 2 (pc' := 2) (st' := [(2, (Ad E 1)), (2, (Ad E 1))]) (lo' := [(0, (2, (Ad E 1)))]) rfl ?_
  refine r_getI hX hP rfl fl_12_358 hS (fun sf1 sf1e sf1a sf1b => ?_)
  refine r_ex hX hP 1 (pc' := 6) (st' := [(0, 4), (0, sf1), (2, (Ad E 1))]) (lo' := [(0, (2, (Ad E 1)))]) rfl ?_
  refine r_ic_ne hX hP rfl (tgt := 13) rfl (by omega) (by omega) (by omega) (by omega) (fun c2 => ?_) (fun c2 => ?_)
  · skip
    refine r_ex hX hP 2 (pc' := 15) (st' := [(2, (Ad E 1)), (0, 2), (2, (Ad E 1))]) (lo' := [(0, (2, (Ad E 1)))]) rfl ?_
    refine r_getI hX hP rfl fl_12_352 hS (fun af3 af3e af3a af3b => ?_)
    refine r_callV gd hX hP rfl cv_12_388 hS (d' := 0) (mc' := 0) (ms' := 0) (as' := [(0, 2), (0, af3)]) (st := []) (by omega) (by omega) (by omega) rfl rfl (Nat.le_of_ble_eq_true rfl) (c_X12_fail E S G 2 af3 hS (by omega) (by omega) (by omega) (by omega)) ?_
    rintro _ _ _ ⟨rfl, ⟨G4, rfl⟩, rfl, bah5, bah5e, f6⟩
    refine r_peekI hX (tl1 80 rfl (by decide)) hS (fun o7 o7e o7a o7b => ?_)
    obtain rfl : bah5 = o7 := bah5e.trans o7e.symm
    exact r_retV hX hP rfl rfl (by omega) (by omega) ⟨rfl, ⟨_, (hq_call (hq_refl _ _ _) rfl).symm⟩, rfl, bah5, bah5e, (by omega)⟩
  · skip
    refine r_ex hX hP 3 (pc' := 15) (st' := [(2, (Ad E 1)), (0, 1), (2, (Ad E 1))]) (lo' := [(0, (2, (Ad E 1)))]) rfl ?_
    refine r_getI hX hP rfl fl_12_352 hS (fun af8 af8e af8a af8b => ?_)
    refine r_callV gd hX hP rfl cv_12_388 hS (d' := 0) (mc' := 0) (ms' := 0) (as' := [(0, 1), (0, af8)]) (st := []) (by omega) (by omega) (by omega) rfl rfl (Nat.le_of_ble_eq_true rfl) (c_X12_fail E S G 1 af8 hS (by omega) (by omega) (by omega) (by omega)) ?_
    rintro _ _ _ ⟨rfl, ⟨G9, rfl⟩, rfl, bah10, bah10e, f11⟩
    refine r_peekI hX (tl1 80 rfl (by decide)) hS (fun o12 o12e o12a o12b => ?_)
    obtain rfl : bah10 = o12 := bah10e.trans o12e.symm
    exact r_retV hX hP rfl rfl (by omega) (by omega) ⟨rfl, ⟨_, (hq_call (hq_refl _ _ _) rfl).symm⟩, rfl, bah10, bah10e, (by omega)⟩
