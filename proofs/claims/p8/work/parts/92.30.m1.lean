set_option maxRecDepth 100000 in
set_option maxHeartbeats 4000000 in
theorem c_X12_isIn (E : En) (S : Sg) (G : Gh) (v low top : Int) (v_a : (-2147483648) ≤ v) (v_b : v ≤ 2147483647) (low_a : (-2147483648) ≤ low) (low_b : low ≤ 2147483647) (top_a : (-2147483648) ≤ top) (top_b : top ≤ 2147483647) : Calls E mX12_isIn [(0, v), (0, low), (0, top)] S G 0 0 0 (fun r S' G' => S = S' ∧ G = G' ∧ ∃ z : Int, r = some (0, z) ∧ ((z = 1 ∧ low ≤ v ∧ v ≤ top) ∨ (z = 0 ∧ (v < low ∨ top < v)))) := by
  refine calls_by [(0, (0, v)), (1, (0, low)), (2, (0, top))] rfl rfl (Nat.le_of_ble_eq_true rfl) (fun X hX => ?_)
  have hP := hPX12_isIn
  refine r_ex hX hP 2 (pc' := 2) (st' := [(0, low), (0, v)]) (lo' := [(0, (0, v)), (1, (0, low)), (2, (0, top))]) rfl ?_
  refine r_ic_lt hX hP rfl (tgt := 14) rfl (by first | decide | omega) (by first | decide | omega) (by first | decide | omega) (by first | decide | omega) (fun c1 => ?_) (fun c1 => ?_)
  · skip
    refine r_ex hX hP 1 (pc' := 15) (st' := [(0, 0)]) (lo' := [(0, (0, v)), (1, (0, low)), (2, (0, top))]) rfl ?_
    exact r_retZ hX hP rfl rfl (by first | decide | omega) (by first | decide | omega) (by first | decide | omega) (by first | decide | omega) ⟨rfl, rfl, 0, rfl, (by first | decide | omega)⟩
  · skip
    refine r_ex hX hP 2 (pc' := 7) (st' := [(0, top), (0, v)]) (lo' := [(0, (0, v)), (1, (0, low)), (2, (0, top))]) rfl ?_
    refine r_ic_gt hX hP rfl (tgt := 14) rfl (by first | decide | omega) (by first | decide | omega) (by first | decide | omega) (by first | decide | omega) (fun c2 => ?_) (fun c2 => ?_)
    · skip
      refine r_ex hX hP 1 (pc' := 15) (st' := [(0, 0)]) (lo' := [(0, (0, v)), (1, (0, low)), (2, (0, top))]) rfl ?_
      exact r_retZ hX hP rfl rfl (by first | decide | omega) (by first | decide | omega) (by first | decide | omega) (by first | decide | omega) ⟨rfl, rfl, 0, rfl, (by first | decide | omega)⟩
    · skip
      refine r_ex hX hP 2 (pc' := 15) (st' := [(0, 1)]) (lo' := [(0, (0, v)), (1, (0, low)), (2, (0, top))]) rfl ?_
      exact r_retZ hX hP rfl rfl (by first | decide | omega) (by first | decide | omega) (by first | decide | omega) (by first | decide | omega) ⟨rfl, rfl, 1, rfl, (by first | decide | omega)⟩
set_option maxRecDepth 100000 in
set_option maxHeartbeats 4000000 in
theorem c_X12_isDay (E : En) (S : Sg) (G : Gh) (v : Int) (v_a : (-2147483648) ≤ v) (v_b : v ≤ 2147483647) : Calls E mX12_isDay [(0, v)] S G 1 0 0 (fun r S' G' => S = S' ∧ G = G' ∧ ∃ z : Int, r = some (0, z) ∧ ((z = 1 ∧ 0 ≤ v ∧ v ≤ 40000) ∨ (z = 0 ∧ (v < 0 ∨ 40000 < v)))) := by
  refine calls_by [(0, (0, v))] rfl rfl (Nat.le_of_ble_eq_true rfl) (fun X hX => ?_)
  have hP := hPX12_isDay
  refine r_ex hX hP 2 (pc' := 2) (st' := [(0, 0), (0, v)]) (lo' := [(0, (0, v))]) rfl ?_
  refine r_ldc hX hP rfl (v := 40000) (tbg sg7 130 rfl rfl) ?_
  refine r_callS gd hX hP rfl cs_12_310 (d' := 0) (mc' := 0) (ms' := 0) (as' := [(0, v), (0, 0), (0, 40000)]) (st := []) (by first | decide | omega) (by first | decide | omega) (by first | decide | omega) rfl rfl (Nat.le_of_ble_eq_true rfl) (c_X12_isIn E S G v 0 40000 (by first | decide | omega) (by first | decide | omega) (by first | decide | omega) (by first | decide | omega) (by first | decide | omega) (by first | decide | omega)) ?_
  rintro _ _ _ ⟨rfl, rfl, z1, rfl, (⟨rfl, f2, f3⟩ | ⟨rfl, f4⟩)⟩
  · skip
    exact r_retZ hX hP rfl rfl (by first | decide | omega) (by first | decide | omega) (by first | decide | omega) (by first | decide | omega) ⟨rfl, rfl, 1, rfl, (by first | decide | omega)⟩
  · skip
    exact r_retZ hX hP rfl rfl (by first | decide | omega) (by first | decide | omega) (by first | decide | omega) (by first | decide | omega) ⟨rfl, rfl, 0, rfl, (by first | decide | omega)⟩
set_option maxRecDepth 100000 in
set_option maxHeartbeats 4000000 in
theorem c_X12_isPaper (E : En) (S : Sg) (G : Gh) (v : Int) (v_a : (-2147483648) ≤ v) (v_b : v ≤ 2147483647) : Calls E mX12_isPaper [(0, v)] S G 1 0 0 (fun r S' G' => S = S' ∧ G = G' ∧ ∃ z : Int, r = some (0, z) ∧ ((z = 1 ∧ 0 ≤ v ∧ v ≤ 19) ∨ (z = 0 ∧ (v < 0 ∨ 19 < v)))) := by
  refine calls_by [(0, (0, v))] rfl rfl (Nat.le_of_ble_eq_true rfl) (fun X hX => ?_)
  have hP := hPX12_isPaper
  refine r_ex hX hP 3 (pc' := 4) (st' := [(0, 19), (0, 0), (0, v)]) (lo' := [(0, (0, v))]) rfl ?_
  refine r_callS gd hX hP rfl cs_12_310 (d' := 0) (mc' := 0) (ms' := 0) (as' := [(0, v), (0, 0), (0, 19)]) (st := []) (by first | decide | omega) (by first | decide | omega) (by first | decide | omega) rfl rfl (Nat.le_of_ble_eq_true rfl) (c_X12_isIn E S G v 0 19 (by first | decide | omega) (by first | decide | omega) (by first | decide | omega) (by first | decide | omega) (by first | decide | omega) (by first | decide | omega)) ?_
  rintro _ _ _ ⟨rfl, rfl, z1, rfl, (⟨rfl, f2, f3⟩ | ⟨rfl, f4⟩)⟩
  · skip
    exact r_retZ hX hP rfl rfl (by first | decide | omega) (by first | decide | omega) (by first | decide | omega) (by first | decide | omega) ⟨rfl, rfl, 1, rfl, (by first | decide | omega)⟩
  · skip
    exact r_retZ hX hP rfl rfl (by first | decide | omega) (by first | decide | omega) (by first | decide | omega) (by first | decide | omega) ⟨rfl, rfl, 0, rfl, (by first | decide | omega)⟩
set_option maxRecDepth 100000 in
set_option maxHeartbeats 4000000 in
theorem c_X12_isAccount (E : En) (S : Sg) (G : Gh) (v : Int) (hS : S (Ad E 1) = 1) (accounts : Int) (accounts_e : accounts = G 1 (Ad E 1) 6) (v_a : (-2147483648) ≤ v) (v_b : v ≤ 2147483647) : Calls E mX12_isAccount [(2, (Ad E 1)), (0, v)] S G 1 0 0 (fun r S' G' => S = S' ∧ G = G' ∧ ∃ z : Int, r = some (0, z) ∧ ((z = 1 ∧ 0 ≤ v ∧ v < accounts) ∨ (z = 0 ∧ (v < 0 ∨ accounts ≤ v)))) := by
  refine calls_by [(0, (2, (Ad E 1))), (1, (0, v))] rfl rfl (Nat.le_of_ble_eq_true rfl) (fun X hX => ?_)
  have hP := hPX12_isAccount
  refine r_peekI hX (tl1 6 rfl (by decide)) hS (fun accounts_o accounts_oe accounts_oa accounts_ob => ?_)
  obtain rfl : accounts = accounts_o := accounts_e.trans accounts_oe.symm
  refine r_ex hX hP 3 (pc' := 3) (st' := [(2, (Ad E 1)), (0, 0), (0, v)]) (lo' := [(0, (2, (Ad E 1))), (1, (0, v))]) rfl ?_
  refine r_getKI hX hP rfl fl_12_314 hS (x := accounts) accounts_e ?_
  refine r_ex hX hP 2 (pc' := 8) (st' := [(0, (accounts - 1)), (0, 0), (0, v)]) (lo' := [(0, (2, (Ad E 1))), (1, (0, v))]) rfl ?_
  refine r_callS gd hX hP rfl cs_12_310 (d' := 0) (mc' := 0) (ms' := 0) (as' := [(0, v), (0, 0), (0, (accounts - 1))]) (st := []) (by first | decide | omega) (by first | decide | omega) (by first | decide | omega) rfl rfl (Nat.le_of_ble_eq_true rfl) (c_X12_isIn E S G v 0 (accounts - 1) (by first | decide | omega) (by first | decide | omega) (by first | decide | omega) (by first | decide | omega) (by first | decide | omega) (by first | decide | omega)) ?_
  rintro _ _ _ ⟨rfl, rfl, z1, rfl, (⟨rfl, f2, f3⟩ | ⟨rfl, f4⟩)⟩
  · skip
    exact r_retZ hX hP rfl rfl (by first | decide | omega) (by first | decide | omega) (by first | decide | omega) (by first | decide | omega) ⟨rfl, rfl, 1, rfl, (by first | decide | omega)⟩
  · skip
    exact r_retZ hX hP rfl rfl (by first | decide | omega) (by first | decide | omega) (by first | decide | omega) (by first | decide | omega) ⟨rfl, rfl, 0, rfl, (by first | decide | omega)⟩
set_option maxRecDepth 100000 in
set_option maxHeartbeats 4000000 in
theorem c_X12_no (E : En) (S : Sg) (G : Gh) (w : Int) (hS : S (Ad E 1) = 1) (w_a : 0 ≤ w) (w_b : w ≤ 8) : Calls E mX12_no [(2, (Ad E 1)), (0, w)] S G 0 0 0 (fun r S' G' => S = S' ∧ (∃ G1, hv [0] [] G G1 = G') ∧ ∃ z : Int, r = some (0, z) ∧ (z = 0)) := by
  refine calls_by [(0, (2, (Ad E 1))), (1, (0, w))] rfl rfl (Nat.le_of_ble_eq_true rfl) (fun X hX => ?_)
  have hP := hPX12_no
  refine r_ex hX hP 2 (pc' := 2) (st' := [(0, w), (2, (Ad E 1))]) (lo' := [(0, (2, (Ad E 1))), (1, (0, w))]) rfl ?_
  refine r_putIK hX hP rfl fp_12_307 hS (by first | decide | omega) (by first | decide | omega) (fun h1 => ?_)
  refine r_ex hX hP 1 (pc' := 6) (st' := [(0, 0)]) (lo' := [(0, (2, (Ad E 1))), (1, (0, w))]) rfl ?_
  exact r_retZ hX hP rfl rfl (by first | decide | omega) (by first | decide | omega) (by first | decide | omega) (by first | decide | omega) ⟨rfl, ⟨_, (hq_up (hq_refl _ _ _) rfl).symm⟩, 0, rfl, (by first | decide | omega)⟩
set_option maxRecDepth 100000 in
set_option maxHeartbeats 4000000 in
theorem c_X12_refuse (E : En) (S : Sg) (G : Gh) (w : Int) (hS : S (Ad E 1) = 1) (w_a : 0 ≤ w) (w_b : w ≤ 8) : Calls E mX12_refuse [(2, (Ad E 1)), (0, w)] S G 0 0 0 (fun r S' G' => S = S' ∧ (∃ G1, hv [0] [] G G1 = G') ∧ ∃ z : Int, r = some (0, z) ∧ (z = (-1))) := by
  refine calls_by [(0, (2, (Ad E 1))), (1, (0, w))] rfl rfl (Nat.le_of_ble_eq_true rfl) (fun X hX => ?_)
  have hP := hPX12_refuse
  refine r_ex hX hP 2 (pc' := 2) (st' := [(0, w), (2, (Ad E 1))]) (lo' := [(0, (2, (Ad E 1))), (1, (0, w))]) rfl ?_
  refine r_putIK hX hP rfl fp_12_307 hS (by first | decide | omega) (by first | decide | omega) (fun h1 => ?_)
  refine r_ex hX hP 1 (pc' := 6) (st' := [(0, (-1))]) (lo' := [(0, (2, (Ad E 1))), (1, (0, w))]) rfl ?_
  exact r_retI hX hP rfl rfl (by first | decide | omega) (by first | decide | omega) ⟨rfl, ⟨_, (hq_up (hq_refl _ _ _) rfl).symm⟩, (-1), rfl, (by first | decide | omega)⟩
set_option maxRecDepth 100000 in
set_option maxHeartbeats 4000000 in
theorem c_X12_status (E : En) (S : Sg) (G : Gh) (hS : S (Ad E 1) = 1) : Calls E mX12_status [(2, (Ad E 1))] S G 0 0 0 (fun r S' G' => S = S' ∧ (∃ G1, hv [1] [] G G1 = G') ∧ ∃ z : Int, r = some (0, z) ∧ (-2147483648) ≤ z ∧ z ≤ 2147483647) := by
  refine calls_by [(0, (2, (Ad E 1)))] rfl rfl (Nat.le_of_ble_eq_true rfl) (fun X hX => ?_)
  have hP := hPX12_status
  refine r_ex hX hP 2 (pc' := 2) (st' := [(0, 0), (2, (Ad E 1))]) (lo' := [(0, (2, (Ad E 1)))]) rfl ?_
  refine r_putIK hX hP rfl fp_12_304 hS (by first | decide | omega) (by first | decide | omega) (fun h1 => ?_)
  refine r_ex hX hP 1 (pc' := 6) (st' := [(2, (Ad E 1))]) (lo' := [(0, (2, (Ad E 1)))]) rfl ?_
  refine r_getI hX hP rfl fl_12_307 hS (fun sf2 sf2e sf2a sf2b => ?_)
  exact r_retI hX hP rfl rfl (by first | decide | omega) (by first | decide | omega) ⟨rfl, ⟨_, (hq_up (hq_refl _ _ _) rfl).symm⟩, sf2, rfl, (by first | decide | omega)⟩
set_option maxRecDepth 100000 in
set_option maxHeartbeats 4000000 in
theorem c_X12_isLetter (E : En) (S : Sg) (G : Gh) (c : Int) (c_a : 0 ≤ c) (c_b : c ≤ 255) : Calls E mX12_isLetter [(0, c)] S G 0 0 0 (fun r S' G' => S = S' ∧ G = G' ∧ ∃ z : Int, r = some (0, z) ∧ ((z = 1 ∧ 97 ≤ c ∧ c ≤ 122) ∨ (z = 0 ∧ (c < 97 ∨ 122 < c)))) := by
  refine calls_by [(0, (0, c))] rfl rfl (Nat.le_of_ble_eq_true rfl) (fun X hX => ?_)
  have hP := hPX12_isLetter
  refine r_ex hX hP 2 (pc' := 3) (st' := [(0, 97), (0, c)]) (lo' := [(0, (0, c))]) rfl ?_
  refine r_ic_lt hX hP rfl (tgt := 16) rfl (by first | decide | omega) (by first | decide | omega) (by first | decide | omega) (by first | decide | omega) (fun c1 => ?_) (fun c1 => ?_)
  · skip
    refine r_ex hX hP 1 (pc' := 17) (st' := [(0, 0)]) (lo' := [(0, (0, c))]) rfl ?_
    exact r_retZ hX hP rfl rfl (by first | decide | omega) (by first | decide | omega) (by first | decide | omega) (by first | decide | omega) ⟨rfl, rfl, 0, rfl, (by first | decide | omega)⟩
  · skip
    refine r_ex hX hP 2 (pc' := 9) (st' := [(0, 122), (0, c)]) (lo' := [(0, (0, c))]) rfl ?_
    refine r_ic_gt hX hP rfl (tgt := 16) rfl (by first | decide | omega) (by first | decide | omega) (by first | decide | omega) (by first | decide | omega) (fun c2 => ?_) (fun c2 => ?_)
    · skip
      refine r_ex hX hP 1 (pc' := 17) (st' := [(0, 0)]) (lo' := [(0, (0, c))]) rfl ?_
      exact r_retZ hX hP rfl rfl (by first | decide | omega) (by first | decide | omega) (by first | decide | omega) (by first | decide | omega) ⟨rfl, rfl, 0, rfl, (by first | decide | omega)⟩
    · skip
      refine r_ex hX hP 2 (pc' := 17) (st' := [(0, 1)]) (lo' := [(0, (0, c))]) rfl ?_
      exact r_retZ hX hP rfl rfl (by first | decide | omega) (by first | decide | omega) (by first | decide | omega) (by first | decide | omega) ⟨rfl, rfl, 1, rfl, (by first | decide | omega)⟩
set_option maxRecDepth 100000 in
set_option maxHeartbeats 4000000 in
theorem c_X12_isDigit (E : En) (S : Sg) (G : Gh) (c : Int) (c_a : 0 ≤ c) (c_b : c ≤ 255) : Calls E mX12_isDigit [(0, c)] S G 0 0 0 (fun r S' G' => S = S' ∧ G = G' ∧ ∃ z : Int, r = some (0, z) ∧ ((z = 1 ∧ 48 ≤ c ∧ c ≤ 57) ∨ (z = 0 ∧ (c < 48 ∨ 57 < c)))) := by
  refine calls_by [(0, (0, c))] rfl rfl (Nat.le_of_ble_eq_true rfl) (fun X hX => ?_)
  have hP := hPX12_isDigit
  refine r_ex hX hP 2 (pc' := 3) (st' := [(0, 48), (0, c)]) (lo' := [(0, (0, c))]) rfl ?_
  refine r_ic_lt hX hP rfl (tgt := 16) rfl (by first | decide | omega) (by first | decide | omega) (by first | decide | omega) (by first | decide | omega) (fun c1 => ?_) (fun c1 => ?_)
  · skip
    refine r_ex hX hP 1 (pc' := 17) (st' := [(0, 0)]) (lo' := [(0, (0, c))]) rfl ?_
    exact r_retZ hX hP rfl rfl (by first | decide | omega) (by first | decide | omega) (by first | decide | omega) (by first | decide | omega) ⟨rfl, rfl, 0, rfl, (by first | decide | omega)⟩
  · skip
    refine r_ex hX hP 2 (pc' := 9) (st' := [(0, 57), (0, c)]) (lo' := [(0, (0, c))]) rfl ?_
    refine r_ic_gt hX hP rfl (tgt := 16) rfl (by first | decide | omega) (by first | decide | omega) (by first | decide | omega) (by first | decide | omega) (fun c2 => ?_) (fun c2 => ?_)
    · skip
      refine r_ex hX hP 1 (pc' := 17) (st' := [(0, 0)]) (lo' := [(0, (0, c))]) rfl ?_
      exact r_retZ hX hP rfl rfl (by first | decide | omega) (by first | decide | omega) (by first | decide | omega) (by first | decide | omega) ⟨rfl, rfl, 0, rfl, (by first | decide | omega)⟩
    · skip
      refine r_ex hX hP 2 (pc' := 17) (st' := [(0, 1)]) (lo' := [(0, (0, c))]) rfl ?_
      exact r_retZ hX hP rfl rfl (by first | decide | omega) (by first | decide | omega) (by first | decide | omega) (by first | decide | omega) ⟨rfl, rfl, 1, rfl, (by first | decide | omega)⟩
