set_option maxRecDepth 100000 in
set_option maxHeartbeats 4000000 in
theorem c_X12_isEvent (E : En) (S : Sg) (G : Gh) (v : Int) (hS : S (Ad E 1) = 1) (events : Int) (events_e : events = G 1 (Ad E 1) 9) (v_a : (-2147483648) ≤ v) (v_b : v ≤ 2147483647) : Calls E mX12_isEvent [(2, (Ad E 1)), (0, v)] S G 1 0 0 (fun r S' G' => S = S' ∧ G = G' ∧ ∃ z : Int, r = some (0, z) ∧ ((z = 1 ∧ 0 ≤ v ∧ v < events) ∨ (z = 0 ∧ (v < 0 ∨ events ≤ v)))) := by
  refine calls_by [(0, (2, (Ad E 1))), (1, (0, v))] rfl rfl (Nat.le_of_ble_eq_true rfl) (fun X hX => ?_)
  have hP := hPX12_isEvent
  refine r_peekI hX (tl1 9 rfl (by decide)) hS (fun events_o events_oe events_oa events_ob => ?_)
  obtain rfl : events = events_o := events_e.trans events_oe.symm
  refine r_ex hX hP 3 (pc' := 3) (st' := [(2, (Ad E 1)), (0, 0), (0, v)]) (lo' := [(0, (2, (Ad E 1))), (1, (0, v))]) rfl ?_
  refine r_getKI hX hP rfl fl_12_490 hS (x := events) events_e ?_
  refine r_ex hX hP 2 (pc' := 8) (st' := [(0, (events - 1)), (0, 0), (0, v)]) (lo' := [(0, (2, (Ad E 1))), (1, (0, v))]) rfl ?_
  refine r_callS gd hX hP rfl cs_12_310 (d' := 0) (mc' := 0) (ms' := 0) (as' := [(0, v), (0, 0), (0, (events - 1))]) (st := []) (by first | decide | omega) (by first | decide | omega) (by first | decide | omega) rfl rfl (Nat.le_of_ble_eq_true rfl) (c_X12_isIn E S G v 0 (events - 1) (by first | decide | omega) (by first | decide | omega) (by first | decide | omega) (by first | decide | omega) (by first | decide | omega) (by first | decide | omega)) ?_
  rintro _ _ _ ⟨rfl, rfl, z1, rfl, (⟨rfl, f2, f3⟩ | ⟨rfl, f4⟩)⟩
  · skip
    exact r_retZ hX hP rfl rfl (by first | decide | omega) (by first | decide | omega) (by first | decide | omega) (by first | decide | omega) ⟨rfl, rfl, 1, rfl, (by first | decide | omega)⟩
  · skip
    exact r_retZ hX hP rfl rfl (by first | decide | omega) (by first | decide | omega) (by first | decide | omega) (by first | decide | omega) ⟨rfl, rfl, 0, rfl, (by first | decide | omega)⟩
set_option maxRecDepth 100000 in
set_option maxHeartbeats 4000000 in
theorem c_X12_isTrade (E : En) (S : Sg) (G : Gh) (v : Int) (hS : S (Ad E 1) = 1) (trades : Int) (trades_e : trades = G 1 (Ad E 1) 8) (v_a : (-2147483648) ≤ v) (v_b : v ≤ 2147483647) : Calls E mX12_isTrade [(2, (Ad E 1)), (0, v)] S G 1 0 0 (fun r S' G' => S = S' ∧ G = G' ∧ ∃ z : Int, r = some (0, z) ∧ ((z = 1 ∧ 0 ≤ v ∧ v < trades) ∨ (z = 0 ∧ (v < 0 ∨ trades ≤ v)))) := by
  refine calls_by [(0, (2, (Ad E 1))), (1, (0, v))] rfl rfl (Nat.le_of_ble_eq_true rfl) (fun X hX => ?_)
  have hP := hPX12_isTrade
  refine r_peekI hX (tl1 8 rfl (by decide)) hS (fun trades_o trades_oe trades_oa trades_ob => ?_)
  obtain rfl : trades = trades_o := trades_e.trans trades_oe.symm
  refine r_ex hX hP 3 (pc' := 3) (st' := [(2, (Ad E 1)), (0, 0), (0, v)]) (lo' := [(0, (2, (Ad E 1))), (1, (0, v))]) rfl ?_
  refine r_getKI hX hP rfl fl_12_342 hS (x := trades) trades_e ?_
  refine r_ex hX hP 2 (pc' := 8) (st' := [(0, (trades - 1)), (0, 0), (0, v)]) (lo' := [(0, (2, (Ad E 1))), (1, (0, v))]) rfl ?_
  refine r_callS gd hX hP rfl cs_12_310 (d' := 0) (mc' := 0) (ms' := 0) (as' := [(0, v), (0, 0), (0, (trades - 1))]) (st := []) (by first | decide | omega) (by first | decide | omega) (by first | decide | omega) rfl rfl (Nat.le_of_ble_eq_true rfl) (c_X12_isIn E S G v 0 (trades - 1) (by first | decide | omega) (by first | decide | omega) (by first | decide | omega) (by first | decide | omega) (by first | decide | omega) (by first | decide | omega)) ?_
  rintro _ _ _ ⟨rfl, rfl, z1, rfl, (⟨rfl, f2, f3⟩ | ⟨rfl, f4⟩)⟩
  · skip
    exact r_retZ hX hP rfl rfl (by first | decide | omega) (by first | decide | omega) (by first | decide | omega) (by first | decide | omega) ⟨rfl, rfl, 1, rfl, (by first | decide | omega)⟩
  · skip
    exact r_retZ hX hP rfl rfl (by first | decide | omega) (by first | decide | omega) (by first | decide | omega) (by first | decide | omega) ⟨rfl, rfl, 0, rfl, (by first | decide | omega)⟩
set_option maxRecDepth 100000 in
set_option maxHeartbeats 4000000 in
theorem c_X12_isKnown (E : En) (S : Sg) (G : Gh) (k t : Int) (hS : S (Ad E 1) = 1) (k_a : 0 ≤ k) (k_b : k ≤ 40000) (t_a : 0 ≤ t) (t_b : t ≤ 1000000000) : Calls E mX12_isKnown [(2, (Ad E 1)), (0, k), (0, t)] S G 0 0 0 (fun r S' G' => S = S' ∧ G = G' ∧ ∃ z : Int, r = some (0, z) ∧ 0 ≤ z ∧ z ≤ 1) := by
  refine calls_by [(0, (2, (Ad E 1))), (1, (0, k)), (2, (0, t))] rfl rfl (Nat.le_of_ble_eq_true rfl) (fun X hX => ?_)
  have hP := hPX12_isKnown
  refine r_ex hX hP 2 (pc' := 2) (st' := [(2, (Ad E 1)), (0, k)]) (lo' := [(0, (2, (Ad E 1))), (1, (0, k)), (2, (0, t))]) rfl ?_
  refine r_getI hX hP rfl fl_12_10 hS (fun af1 af1e af1a af1b => ?_)
  refine r_ic_gt hX hP rfl (tgt := 20) rfl (by first | decide | omega) (by first | decide | omega) (by first | decide | omega) (by first | decide | omega) (fun c2 => ?_) (fun c2 => ?_)
  · skip
    refine r_ex hX hP 1 (pc' := 21) (st' := [(0, 0)]) (lo' := [(0, (2, (Ad E 1))), (1, (0, k)), (2, (0, t))]) rfl ?_
    exact r_retZ hX hP rfl rfl (by first | decide | omega) (by first | decide | omega) (by first | decide | omega) (by first | decide | omega) ⟨rfl, rfl, 0, rfl, (by first | decide | omega)⟩
  · skip
    refine r_ex hX hP 2 (pc' := 10) (st' := [(2, (Ad E 1)), (0, t)]) (lo' := [(0, (2, (Ad E 1))), (1, (0, k)), (2, (0, t))]) rfl ?_
    refine r_getKI hX hP rfl fl_12_10 hS (x := af1) af1e ?_
    refine r_ic_le hX hP rfl (tgt := 20) rfl (by first | decide | omega) (by first | decide | omega) (by first | decide | omega) (by first | decide | omega) (fun c3 => ?_) (fun c3 => ?_)
    · skip
      refine r_ex hX hP 1 (pc' := 21) (st' := [(0, 0)]) (lo' := [(0, (2, (Ad E 1))), (1, (0, k)), (2, (0, t))]) rfl ?_
      exact r_retZ hX hP rfl rfl (by first | decide | omega) (by first | decide | omega) (by first | decide | omega) (by first | decide | omega) ⟨rfl, rfl, 0, rfl, (by first | decide | omega)⟩
    · skip
      refine r_ex hX hP 2 (pc' := 21) (st' := [(0, 1)]) (lo' := [(0, (2, (Ad E 1))), (1, (0, k)), (2, (0, t))]) rfl ?_
      exact r_retZ hX hP rfl rfl (by first | decide | omega) (by first | decide | omega) (by first | decide | omega) (by first | decide | omega) ⟨rfl, rfl, 1, rfl, (by first | decide | omega)⟩
set_option maxRecDepth 100000 in
set_option maxHeartbeats 4000000 in
theorem c_X12_tradeCounts (E : En) (S : Sg) (G : Gh) (t : Int) (hS : S (Ad E 1) = 1) (t_a : 0 ≤ t) (t_b : t ≤ 39) : Calls E mX12_tradeCounts [(2, (Ad E 1)), (0, t)] S G 1 0 0 (fun r S' G' => S = S' ∧ G = G' ∧ ∃ z : Int, r = some (0, z) ∧ 0 ≤ z ∧ z ≤ 1) := by
  refine calls_by [(0, (2, (Ad E 1))), (1, (0, t))] rfl rfl (Nat.le_of_ble_eq_true rfl) (fun X hX => ?_)
  have hP := hPX12_tradeCounts
  refine r_ex hX hP 2 (pc' := 2) (st' := [(2, (Ad E 1)), (2, (Ad E 1))]) (lo' := [(0, (2, (Ad E 1))), (1, (0, t))]) rfl ?_
  refine r_getC hX hP rfl fl_12_64 hS (fun s1 => ?_)
  refine r_ex hX hP 1 (pc' := 6) (st' := [(0, t), (2, (Ad E 17)), (2, (Ad E 1))]) (lo' := [(0, (2, (Ad E 1))), (1, (0, t))]) rfl ?_
  refine r_iald hX hP rfl al_17 s1 (by first | decide | omega) (by first | decide | omega) (fun x2 x2e x2a x2b => ?_)
  refine r_ex hX hP 1 (pc' := 8) (st' := [(2, (Ad E 1)), (0, x2), (2, (Ad E 1))]) (lo' := [(0, (2, (Ad E 1))), (1, (0, t))]) rfl ?_
  refine r_getC hX hP rfl fl_12_67 hS (fun s3 => ?_)
  refine r_ex hX hP 1 (pc' := 12) (st' := [(0, t), (2, (Ad E 18)), (0, x2), (2, (Ad E 1))]) (lo' := [(0, (2, (Ad E 1))), (1, (0, t))]) rfl ?_
  refine r_iald hX hP rfl al_18 s3 (by first | decide | omega) (by first | decide | omega) (fun x4 x4e x4a x4b => ?_)
  refine r_callV gd hX hP rfl cv_12_499 hS (d' := 0) (mc' := 0) (ms' := 0) (as' := [(0, x2), (0, x4)]) (st := []) (by first | decide | omega) (by first | decide | omega) (by first | decide | omega) rfl rfl (Nat.le_of_ble_eq_true rfl) (c_X12_isKnown E S G x2 x4 hS (by first | decide | omega) (by first | decide | omega) (by first | decide | omega) (by first | decide | omega)) ?_
  rintro _ _ _ ⟨rfl, rfl, z5, rfl, z5a, z5b⟩
  exact r_retZ hX hP rfl rfl (by first | decide | omega) (by first | decide | omega) (by first | decide | omega) (by first | decide | omega) ⟨rfl, rfl, z5, rfl, (by first | decide | omega)⟩
set_option maxRecDepth 100000 in
set_option maxHeartbeats 4000000 in
theorem c_X12_eventCounts (E : En) (S : Sg) (G : Gh) (t : Int) (hS : S (Ad E 1) = 1) (t_a : 0 ≤ t) (t_b : t ≤ 15) : Calls E mX12_eventCounts [(2, (Ad E 1)), (0, t)] S G 1 0 0 (fun r S' G' => S = S' ∧ G = G' ∧ ∃ z : Int, r = some (0, z) ∧ 0 ≤ z ∧ z ≤ 1) := by
  refine calls_by [(0, (2, (Ad E 1))), (1, (0, t))] rfl rfl (Nat.le_of_ble_eq_true rfl) (fun X hX => ?_)
  have hP := hPX12_eventCounts
  refine r_ex hX hP 2 (pc' := 2) (st' := [(2, (Ad E 1)), (2, (Ad E 1))]) (lo' := [(0, (2, (Ad E 1))), (1, (0, t))]) rfl ?_
  refine r_getC hX hP rfl fl_12_86 hS (fun s1 => ?_)
  refine r_ex hX hP 1 (pc' := 6) (st' := [(0, t), (2, (Ad E 24)), (2, (Ad E 1))]) (lo' := [(0, (2, (Ad E 1))), (1, (0, t))]) rfl ?_
  refine r_iald hX hP rfl al_24 s1 (by first | decide | omega) (by first | decide | omega) (fun x2 x2e x2a x2b => ?_)
  refine r_ex hX hP 1 (pc' := 8) (st' := [(2, (Ad E 1)), (0, x2), (2, (Ad E 1))]) (lo' := [(0, (2, (Ad E 1))), (1, (0, t))]) rfl ?_
  refine r_getC hX hP rfl fl_12_89 hS (fun s3 => ?_)
  refine r_ex hX hP 1 (pc' := 12) (st' := [(0, t), (2, (Ad E 25)), (0, x2), (2, (Ad E 1))]) (lo' := [(0, (2, (Ad E 1))), (1, (0, t))]) rfl ?_
  refine r_iald hX hP rfl al_25 s3 (by first | decide | omega) (by first | decide | omega) (fun x4 x4e x4a x4b => ?_)
  refine r_callV gd hX hP rfl cv_12_499 hS (d' := 0) (mc' := 0) (ms' := 0) (as' := [(0, x2), (0, x4)]) (st := []) (by first | decide | omega) (by first | decide | omega) (by first | decide | omega) rfl rfl (Nat.le_of_ble_eq_true rfl) (c_X12_isKnown E S G x2 x4 hS (by first | decide | omega) (by first | decide | omega) (by first | decide | omega) (by first | decide | omega)) ?_
  rintro _ _ _ ⟨rfl, rfl, z5, rfl, z5a, z5b⟩
  exact r_retZ hX hP rfl rfl (by first | decide | omega) (by first | decide | omega) (by first | decide | omega) (by first | decide | omega) ⟨rfl, rfl, z5, rfl, (by first | decide | omega)⟩
set_option maxRecDepth 100000 in
set_option maxHeartbeats 4000000 in
theorem c_X12_sayCounts (E : En) (S : Sg) (G : Gh) (t : Int) (hS : S (Ad E 1) = 1) (t_a : 0 ≤ t) (t_b : t ≤ 59) : Calls E mX12_sayCounts [(2, (Ad E 1)), (0, t)] S G 1 0 0 (fun r S' G' => S = S' ∧ G = G' ∧ ∃ z : Int, r = some (0, z) ∧ 0 ≤ z ∧ z ≤ 1) := by
  refine calls_by [(0, (2, (Ad E 1))), (1, (0, t))] rfl rfl (Nat.le_of_ble_eq_true rfl) (fun X hX => ?_)
  have hP := hPX12_sayCounts
  refine r_ex hX hP 2 (pc' := 2) (st' := [(2, (Ad E 1)), (2, (Ad E 1))]) (lo' := [(0, (2, (Ad E 1))), (1, (0, t))]) rfl ?_
  refine r_getC hX hP rfl fl_12_140 hS (fun s1 => ?_)
  refine r_ex hX hP 1 (pc' := 6) (st' := [(0, t), (2, (Ad E 42)), (2, (Ad E 1))]) (lo' := [(0, (2, (Ad E 1))), (1, (0, t))]) rfl ?_
  refine r_iald hX hP rfl al_42 s1 (by first | decide | omega) (by first | decide | omega) (fun x2 x2e x2a x2b => ?_)
  refine r_ex hX hP 1 (pc' := 8) (st' := [(2, (Ad E 1)), (0, x2), (2, (Ad E 1))]) (lo' := [(0, (2, (Ad E 1))), (1, (0, t))]) rfl ?_
  refine r_getC hX hP rfl fl_12_143 hS (fun s3 => ?_)
  refine r_ex hX hP 1 (pc' := 12) (st' := [(0, t), (2, (Ad E 43)), (0, x2), (2, (Ad E 1))]) (lo' := [(0, (2, (Ad E 1))), (1, (0, t))]) rfl ?_
  refine r_iald hX hP rfl al_43 s3 (by first | decide | omega) (by first | decide | omega) (fun x4 x4e x4a x4b => ?_)
  refine r_callV gd hX hP rfl cv_12_499 hS (d' := 0) (mc' := 0) (ms' := 0) (as' := [(0, x2), (0, x4)]) (st := []) (by first | decide | omega) (by first | decide | omega) (by first | decide | omega) rfl rfl (Nat.le_of_ble_eq_true rfl) (c_X12_isKnown E S G x2 x4 hS (by first | decide | omega) (by first | decide | omega) (by first | decide | omega) (by first | decide | omega)) ?_
  rintro _ _ _ ⟨rfl, rfl, z5, rfl, z5a, z5b⟩
  exact r_retZ hX hP rfl rfl (by first | decide | omega) (by first | decide | omega) (by first | decide | omega) (by first | decide | omega) ⟨rfl, rfl, z5, rfl, (by first | decide | omega)⟩
set_option maxRecDepth 100000 in
set_option maxHeartbeats 4000000 in
theorem c_X12_upper (E : En) (S : Sg) (G : Gh) (hS : S (Ad E 1) = 1) : Calls E mX12_upper [(2, (Ad E 1))] S G 0 0 0 (fun r S' G' => S = S' ∧ (∃ G1, hv [1] [] G G1 = G') ∧ ∃ z : Int, r = some (1, z) ∧ (-9223372036854775808) ≤ z ∧ z ≤ 9223372036854775807) := by
  refine calls_by [(0, (2, (Ad E 1)))] rfl rfl (Nat.le_of_ble_eq_true rfl) (fun X hX => ?_)
  have hP := hPX12_upper
  refine r_ex hX hP 2 (pc' := 2) (st' := [(0, 0), (2, (Ad E 1))]) (lo' := [(0, (2, (Ad E 1)))]) rfl ?_
  refine r_putIK hX hP rfl fp_12_304 hS (by first | decide | omega) (by first | decide | omega) (fun h1 => ?_)
  refine r_ex hX hP 1 (pc' := 6) (st' := [(2, (Ad E 1))]) (lo' := [(0, (2, (Ad E 1)))]) rfl ?_
  refine r_getL hX hP rfl fl_12_690 hS (fun af2 af2e af2a af2b => ?_)
  exact r_retL hX hP rfl rfl (by first | decide | omega) (by first | decide | omega) ⟨rfl, ⟨_, (hq_up (hq_refl _ _ _) rfl).symm⟩, af2, rfl, (by first | decide | omega)⟩
set_option maxRecDepth 100000 in
set_option maxHeartbeats 4000000 in
theorem c_X12_lower (E : En) (S : Sg) (G : Gh) (hS : S (Ad E 1) = 1) : Calls E mX12_lower [(2, (Ad E 1))] S G 0 0 0 (fun r S' G' => S = S' ∧ (∃ G1, hv [1] [] G G1 = G') ∧ ∃ z : Int, r = some (1, z) ∧ (-9223372036854775808) ≤ z ∧ z ≤ 9223372036854775807) := by
  refine calls_by [(0, (2, (Ad E 1)))] rfl rfl (Nat.le_of_ble_eq_true rfl) (fun X hX => ?_)
  have hP := hPX12_lower
  refine r_ex hX hP 2 (pc' := 2) (st' := [(0, 0), (2, (Ad E 1))]) (lo' := [(0, (2, (Ad E 1)))]) rfl ?_
  refine r_putIK hX hP rfl fp_12_304 hS (by first | decide | omega) (by first | decide | omega) (fun h1 => ?_)
  refine r_ex hX hP 1 (pc' := 6) (st' := [(2, (Ad E 1))]) (lo' := [(0, (2, (Ad E 1)))]) rfl ?_
  refine r_getL hX hP rfl fl_12_14 hS (fun uf2 uf2e uf2a uf2b => ?_)
  exact r_retL hX hP rfl rfl (by first | decide | omega) (by first | decide | omega) ⟨rfl, ⟨_, (hq_up (hq_refl _ _ _) rfl).symm⟩, uf2, rfl, (by first | decide | omega)⟩
set_option maxRecDepth 100000 in
set_option maxHeartbeats 4000000 in
theorem c_X12_rate (E : En) (S : Sg) (G : Gh) (p q : Int) (hS : S (Ad E 1) = 1) (p_a : (-2147483648) ≤ p) (p_b : p ≤ 2147483647) (q_a : (-2147483648) ≤ q) (q_b : q ≤ 2147483647) : Calls E mX12_rate [(2, (Ad E 1)), (0, p), (0, q)] S G 2 0 0 (fun r S' G' => S = S' ∧ (∃ G1, hv [0, 1] [49] G G1 = G') ∧ ∃ z : Int, r = some (0, z) ∧ ((z = 1 ∧ 0 ≤ p ∧ p ≤ 19 ∧ 0 ≤ q ∧ q ≤ 100000) ∨ (z = 0 ∧ (p < 0 ∨ 19 < p ∨ q < 0 ∨ 100000 < q)))) := by
  refine calls_by [(0, (2, (Ad E 1))), (1, (0, p)), (2, (0, q))] rfl rfl (Nat.le_of_ble_eq_true rfl) (fun X hX => ?_)
  have hP := hPX12_rate
  refine r_ex hX hP 2 (pc' := 2) (st' := [(0, 0), (2, (Ad E 1))]) (lo' := [(0, (2, (Ad E 1))), (1, (0, p)), (2, (0, q))]) rfl ?_
  refine r_putIK hX hP rfl fp_12_304 hS (by first | decide | omega) (by first | decide | omega) (fun h1 => ?_)
  refine r_ex hX hP 2 (pc' := 7) (st' := [(0, 0), (2, (Ad E 1))]) (lo' := [(0, (2, (Ad E 1))), (1, (0, p)), (2, (0, q))]) rfl ?_
  refine r_putIK hX hP rfl fp_12_307 hS (by first | decide | omega) (by first | decide | omega) (fun h2 => ?_)
  refine r_ex hX hP 1 (pc' := 11) (st' := [(0, p)]) (lo' := [(0, (2, (Ad E 1))), (1, (0, p)), (2, (0, q))]) rfl ?_
  refine r_callS gd hX hP rfl cs_12_331 (d' := 1) (mc' := 0) (ms' := 0) (as' := [(0, p)]) (st := []) (by first | decide | omega) (by first | decide | omega) (by first | decide | omega) rfl rfl (Nat.le_of_ble_eq_true rfl) (c_X12_isPaper E S (up (up G 1 (Ad E 1) 1 0) 1 (Ad E 1) 0 0) p (by first | decide | omega) (by first | decide | omega)) ?_
  rintro _ _ _ ⟨rfl, rfl, z3, rfl, (⟨rfl, f4, f5⟩ | ⟨rfl, f6⟩)⟩
  · skip
    refine r_if_ne hX hP rfl (tgt := 23) rfl (by first | decide | omega) (by first | decide | omega) (fun c7 => ?_) (fun c7 => ?_)
    · skip
      refine r_ex hX hP 2 (pc' := 25) (st' := [(0, 0), (0, q)]) (lo' := [(0, (2, (Ad E 1))), (1, (0, p)), (2, (0, q))]) rfl ?_
      refine r_ldcw hX hP rfl (v := 100000) (tbg sg10 218 rfl rfl) ?_
      refine r_callS gd hX hP rfl cs_12_310 (d' := 0) (mc' := 0) (ms' := 0) (as' := [(0, q), (0, 0), (0, 100000)]) (st := []) (by first | decide | omega) (by first | decide | omega) (by first | decide | omega) rfl rfl (Nat.le_of_ble_eq_true rfl) (c_X12_isIn E S (up (up G 1 (Ad E 1) 1 0) 1 (Ad E 1) 0 0) q 0 100000 (by first | decide | omega) (by first | decide | omega) (by first | decide | omega) (by first | decide | omega) (by first | decide | omega) (by first | decide | omega)) ?_
      rintro _ _ _ ⟨rfl, rfl, z8, rfl, (⟨rfl, f9, f10⟩ | ⟨rfl, f11⟩)⟩
      · skip
        refine r_if_ne hX hP rfl (tgt := 40) rfl (by first | decide | omega) (by first | decide | omega) (fun c12 => ?_) (fun c12 => ?_)
        · skip
          refine r_ex hX hP 1 (pc' := 41) (st' := [(2, (Ad E 1))]) (lo' := [(0, (2, (Ad E 1))), (1, (0, p)), (2, (0, q))]) rfl ?_
          refine r_getC hX hP rfl fl_12_161 hS (fun s13 => ?_)
          refine r_ex hX hP 2 (pc' := 46) (st' := [(0, q), (0, p), (2, (Ad E 49))]) (lo' := [(0, (2, (Ad E 1))), (1, (0, p)), (2, (0, q))]) rfl ?_
          refine r_iastK hX hP rfl al_49 s13 (by first | decide | omega) (by first | decide | omega) (by first | decide | omega) (by first | decide | omega) (fun h14 => ?_)
          refine r_ex hX hP 1 (pc' := 48) (st' := [(0, 1)]) (lo' := [(0, (2, (Ad E 1))), (1, (0, p)), (2, (0, q))]) rfl ?_
          exact r_retZ hX hP rfl rfl (by first | decide | omega) (by first | decide | omega) (by first | decide | omega) (by first | decide | omega) ⟨rfl, ⟨_, (hq_up (hq_up (hq_up (hq_refl _ _ _) rfl) rfl) rfl).symm⟩, 1, rfl, (by first | decide | omega)⟩
        · skip
          exfalso; omega
      · skip
        refine r_if_ne hX hP rfl (tgt := 40) rfl (by first | decide | omega) (by first | decide | omega) (fun c15 => ?_) (fun c15 => ?_)
        · skip
          exfalso; omega
        · skip
          refine r_ex hX hP 2 (pc' := 36) (st' := [(0, 2), (2, (Ad E 1))]) (lo' := [(0, (2, (Ad E 1))), (1, (0, p)), (2, (0, q))]) rfl ?_
          refine r_callV gd hX hP rfl cv_12_321 hS (d' := 0) (mc' := 0) (ms' := 0) (as' := [(0, 2)]) (st := []) (by first | decide | omega) (by first | decide | omega) (by first | decide | omega) rfl rfl (Nat.le_of_ble_eq_true rfl) (c_X12_no E S (up (up G 1 (Ad E 1) 1 0) 1 (Ad E 1) 0 0) 2 hS (by first | decide | omega) (by first | decide | omega)) ?_
          rintro _ _ _ ⟨rfl, ⟨G16, rfl⟩, z17, rfl, rfl⟩
          exact r_retZ hX hP rfl rfl (by first | decide | omega) (by first | decide | omega) (by first | decide | omega) (by first | decide | omega) ⟨rfl, ⟨_, (hq_call (hq_up (hq_up (hq_refl _ _ _) rfl) rfl) rfl).symm⟩, 0, rfl, (by first | decide | omega)⟩
    · skip
      exfalso; omega
  · skip
    refine r_if_ne hX hP rfl (tgt := 23) rfl (by first | decide | omega) (by first | decide | omega) (fun c18 => ?_) (fun c18 => ?_)
    · skip
      exfalso; omega
    · skip
      refine r_ex hX hP 2 (pc' := 19) (st' := [(0, 1), (2, (Ad E 1))]) (lo' := [(0, (2, (Ad E 1))), (1, (0, p)), (2, (0, q))]) rfl ?_
      refine r_callV gd hX hP rfl cv_12_321 hS (d' := 0) (mc' := 0) (ms' := 0) (as' := [(0, 1)]) (st := []) (by first | decide | omega) (by first | decide | omega) (by first | decide | omega) rfl rfl (Nat.le_of_ble_eq_true rfl) (c_X12_no E S (up (up G 1 (Ad E 1) 1 0) 1 (Ad E 1) 0 0) 1 hS (by first | decide | omega) (by first | decide | omega)) ?_
      rintro _ _ _ ⟨rfl, ⟨G19, rfl⟩, z20, rfl, rfl⟩
      exact r_retZ hX hP rfl rfl (by first | decide | omega) (by first | decide | omega) (by first | decide | omega) (by first | decide | omega) ⟨rfl, ⟨_, (hq_call (hq_up (hq_up (hq_refl _ _ _) rfl) rfl) rfl).symm⟩, 0, rfl, (by first | decide | omega)⟩
set_option maxRecDepth 100000 in
set_option maxHeartbeats 4000000 in
theorem c_X12_rivals (E : En) (S : Sg) (G : Gh) (hS : S (Ad E 1) = 1) : Calls E mX12_rivals [(2, (Ad E 1))] S G 1 0 0 (fun r S' G' => S = S' ∧ (∃ G1, hv [0, 1] [] G G1 = G') ∧ ∃ z : Int, r = some (0, z) ∧ (-2147483648) ≤ z ∧ z ≤ 2147483647) := by
  refine calls_by [(0, (2, (Ad E 1)))] rfl rfl (Nat.le_of_ble_eq_true rfl) (fun X hX => ?_)
  have hP := hPX12_rivals
  refine r_ex hX hP 2 (pc' := 2) (st' := [(0, 0), (2, (Ad E 1))]) (lo' := [(0, (2, (Ad E 1)))]) rfl ?_
  refine r_putIK hX hP rfl fp_12_304 hS (by first | decide | omega) (by first | decide | omega) (fun h1 => ?_)
  refine r_ex hX hP 2 (pc' := 7) (st' := [(0, 0), (2, (Ad E 1))]) (lo' := [(0, (2, (Ad E 1)))]) rfl ?_
  refine r_putIK hX hP rfl fp_12_307 hS (by first | decide | omega) (by first | decide | omega) (fun h2 => ?_)
  refine r_ex hX hP 1 (pc' := 11) (st' := [(2, (Ad E 1))]) (lo' := [(0, (2, (Ad E 1)))]) rfl ?_
  refine r_getI hX hP rfl fl_12_197 hS (fun bf3 bf3e bf3a bf3b => ?_)
  refine r_if_ge hX hP rfl (tgt := 25) rfl (by first | decide | omega) (by first | decide | omega) (fun c4 => ?_) (fun c4 => ?_)
  · skip
    refine r_ex hX hP 1 (pc' := 26) (st' := [(2, (Ad E 1))]) (lo' := [(0, (2, (Ad E 1)))]) rfl ?_
    refine r_getI hX hP rfl fl_12_719 hS (fun rf5 rf5e rf5a rf5b => ?_)
    exact r_retI hX hP rfl rfl (by first | decide | omega) (by first | decide | omega) ⟨rfl, ⟨_, (hq_up (hq_up (hq_refl _ _ _) rfl) rfl).symm⟩, rf5, rfl, (by first | decide | omega)⟩
  · skip
    refine r_ex hX hP 2 (pc' := 19) (st' := [(0, 5), (2, (Ad E 1))]) (lo' := [(0, (2, (Ad E 1)))]) rfl ?_
    refine r_callV gd hX hP rfl cv_12_327 hS (d' := 0) (mc' := 0) (ms' := 0) (as' := [(0, 5)]) (st := []) (by first | decide | omega) (by first | decide | omega) (by first | decide | omega) rfl rfl (Nat.le_of_ble_eq_true rfl) (c_X12_refuse E S (up (up G 1 (Ad E 1) 1 0) 1 (Ad E 1) 0 0) 5 hS (by first | decide | omega) (by first | decide | omega)) ?_
    rintro _ _ _ ⟨rfl, ⟨G6, rfl⟩, z7, rfl, rfl⟩
    refine r_ex hX hP 1 (pc' := 29) (st' := [(0, (-1))]) (lo' := [(0, (2, (Ad E 1)))]) rfl ?_
    exact r_retI hX hP rfl rfl (by first | decide | omega) (by first | decide | omega) ⟨rfl, ⟨_, (hq_call (hq_up (hq_up (hq_refl _ _ _) rfl) rfl) rfl).symm⟩, (-1), rfl, (by first | decide | omega)⟩
