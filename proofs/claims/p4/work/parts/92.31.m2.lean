set_option maxRecDepth 100000 in
set_option maxHeartbeats 4000000 in
theorem c_X12_sign (E : En) (S : Sg) (G : Gh) (c : Int) (hS : S (Ad E 1) = 1) (c_a : 0 ≤ c) (c_b : c ≤ 255) : Calls E mX12_sign [(2, (Ad E 1)), (0, c)] S G 2 0 0 (fun r S' G' => S = S' ∧ (∃ G1, hv [80, 81, 82, 83, 84, 85, 86, 87] [] G G1 = G') ∧ r = none ∧ True) := by
  refine calls_by [(0, (2, (Ad E 1))), (1, (0, c))] rfl rfl (Nat.le_of_ble_eq_true rfl) (fun X hX => ?_)
  have hP := hPX12_sign
  refine r_ex hX hP 1 (pc' := 1) (st' := [(2, (Ad E 1))]) (lo' := [(0, (2, (Ad E 1))), (1, (0, c))]) rfl ?_
  refine r_getI hX hP rfl fl_12_382 hS (fun bf1 bf1e bf1a bf1b => ?_)
  refine r_if_le hX hP rfl (tgt := 8) rfl (by omega) (by omega) (fun c2 => ?_) (fun c2 => ?_)
  · skip
    refine r_ex hX hP 2 (pc' := 10) (st' := [(0, c), (2, (Ad E 1))]) (lo' := [(0, (2, (Ad E 1))), (1, (0, c))]) rfl ?_
    refine r_callV gd hX hP rfl cv_12_392 hS (d' := 0) (mc' := 0) (ms' := 0) (as' := [(0, c)]) (st := []) (by omega) (by omega) (by omega) rfl rfl (Nat.le_of_ble_eq_true rfl) (c_X12_isSign E S G c hS (by omega) (by omega)) ?_
    rintro _ _ _ ⟨rfl, rfl, z3, rfl, z3a, z3b⟩
    refine r_if_ne hX hP rfl (tgt := 23) rfl (by omega) (by omega) (fun c4 => ?_) (fun c4 => ?_)
    · skip
      refine r_ex hX hP 1 (pc' := 24) (st' := [(2, (Ad E 1))]) (lo' := [(0, (2, (Ad E 1))), (1, (0, c))]) rfl ?_
      refine r_callV gd hX hP rfl cv_12_398 hS (d' := 1) (mc' := 0) (ms' := 0) (as' := []) (st := []) (by omega) (by omega) (by omega) rfl rfl (Nat.le_of_ble_eq_true rfl) (c_X12_next E S G  hS) ?_
      rintro _ _ _ ⟨rfl, ⟨G5, rfl⟩, rfl, -⟩
      exact r_retV hX hP rfl rfl (by omega) (by omega) ⟨rfl, ⟨_, (hq_call (hq_refl _ _ _) rfl).symm⟩, rfl, trivial⟩
    · skip
      refine r_ex hX hP 1 (pc' := 17) (st' := [(2, (Ad E 1))]) (lo' := [(0, (2, (Ad E 1))), (1, (0, c))]) rfl ?_
      refine r_callV gd hX hP rfl cv_12_395 hS (d' := 1) (mc' := 0) (ms' := 0) (as' := []) (st := []) (by omega) (by omega) (by omega) rfl rfl (Nat.le_of_ble_eq_true rfl) (c_X12_wrong E S G  hS) ?_
      rintro _ _ _ ⟨rfl, ⟨G6, rfl⟩, rfl, bah7, bah7e, f8⟩
      refine r_peekI hX (tl1 80 rfl (by decide)) hS (fun o9 o9e o9a o9b => ?_)
      obtain rfl : bah7 = o9 := bah7e.trans o9e.symm
      refine r_ex hX hP 1 (pc' := 27) (st' := []) (lo' := [(0, (2, (Ad E 1))), (1, (0, c))]) rfl ?_
      exact r_retV hX hP rfl rfl (by omega) (by omega) ⟨rfl, ⟨_, (hq_call (hq_refl _ _ _) rfl).symm⟩, rfl, trivial⟩
  · skip
    exact r_retV hX hP rfl rfl (by omega) (by omega) ⟨rfl, ⟨_, (hq_refl _ _ _).symm⟩, rfl, trivial⟩
set_option maxRecDepth 100000 in
set_option maxHeartbeats 4000000 in
theorem c_X12_wordIs (E : En) (S : Sg) (G : Gh) (w : Int) (hS : S (Ad E 1) = 1) (w_a : (-9223372036854775808) ≤ w) (w_b : w ≤ 9223372036854775807) : Calls E mX12_wordIs [(2, (Ad E 1)), (1, w)] S G 2 0 0 (fun r S' G' => S = S' ∧ (∃ G1, hv [80, 81, 82, 83, 84, 85, 86, 87] [] G G1 = G') ∧ r = none ∧ True) := by
  refine calls_by [(0, (2, (Ad E 1))), (1, (1, w))] rfl rfl (Nat.le_of_ble_eq_true rfl) (fun X hX => ?_)
  have hP := hPX12_wordIs
  refine r_ex hX hP 1 (pc' := 1) (st' := [(2, (Ad E 1))]) (lo' := [(0, (2, (Ad E 1))), (1, (1, w))]) rfl ?_
  refine r_getI hX hP rfl fl_12_382 hS (fun bf1 bf1e bf1a bf1b => ?_)
  refine r_if_le hX hP rfl (tgt := 8) rfl (by omega) (by omega) (fun c2 => ?_) (fun c2 => ?_)
  · skip
    refine r_ex hX hP 2 (pc' := 10) (st' := [(1, w), (2, (Ad E 1))]) (lo' := [(0, (2, (Ad E 1))), (1, (1, w))]) rfl ?_
    refine r_callV gd hX hP rfl cv_12_401 hS (d' := 0) (mc' := 0) (ms' := 0) (as' := [(1, w)]) (st := []) (by omega) (by omega) (by omega) rfl rfl (Nat.le_of_ble_eq_true rfl) (c_X12_isWord E S G w hS (by omega) (by omega)) ?_
    rintro _ _ _ ⟨rfl, rfl, z3, rfl, z3a, z3b⟩
    refine r_if_ne hX hP rfl (tgt := 23) rfl (by omega) (by omega) (fun c4 => ?_) (fun c4 => ?_)
    · skip
      refine r_ex hX hP 1 (pc' := 24) (st' := [(2, (Ad E 1))]) (lo' := [(0, (2, (Ad E 1))), (1, (1, w))]) rfl ?_
      refine r_callV gd hX hP rfl cv_12_398 hS (d' := 1) (mc' := 0) (ms' := 0) (as' := []) (st := []) (by omega) (by omega) (by omega) rfl rfl (Nat.le_of_ble_eq_true rfl) (c_X12_next E S G  hS) ?_
      rintro _ _ _ ⟨rfl, ⟨G5, rfl⟩, rfl, -⟩
      exact r_retV hX hP rfl rfl (by omega) (by omega) ⟨rfl, ⟨_, (hq_call (hq_refl _ _ _) rfl).symm⟩, rfl, trivial⟩
    · skip
      refine r_ex hX hP 1 (pc' := 17) (st' := [(2, (Ad E 1))]) (lo' := [(0, (2, (Ad E 1))), (1, (1, w))]) rfl ?_
      refine r_callV gd hX hP rfl cv_12_395 hS (d' := 1) (mc' := 0) (ms' := 0) (as' := []) (st := []) (by omega) (by omega) (by omega) rfl rfl (Nat.le_of_ble_eq_true rfl) (c_X12_wrong E S G  hS) ?_
      rintro _ _ _ ⟨rfl, ⟨G6, rfl⟩, rfl, bah7, bah7e, f8⟩
      refine r_peekI hX (tl1 80 rfl (by decide)) hS (fun o9 o9e o9a o9b => ?_)
      obtain rfl : bah7 = o9 := bah7e.trans o9e.symm
      refine r_ex hX hP 1 (pc' := 27) (st' := []) (lo' := [(0, (2, (Ad E 1))), (1, (1, w))]) rfl ?_
      exact r_retV hX hP rfl rfl (by omega) (by omega) ⟨rfl, ⟨_, (hq_call (hq_refl _ _ _) rfl).symm⟩, rfl, trivial⟩
  · skip
    exact r_retV hX hP rfl rfl (by omega) (by omega) ⟨rfl, ⟨_, (hq_refl _ _ _).symm⟩, rfl, trivial⟩
set_option maxRecDepth 100000 in
set_option maxHeartbeats 4000000 in
theorem c_X12_count (E : En) (S : Sg) (G : Gh) (low top : Int) (hS : S (Ad E 1) = 1) (low_a : (-2147483648) ≤ low) (low_b : low ≤ 2147483647) (top_a : (-2147483648) ≤ top) (top_b : top ≤ 2147483647) : Calls E mX12_count [(2, (Ad E 1)), (0, low), (0, top)] S G 2 0 0 (fun r S' G' => S = S' ∧ (∃ G1, hv [80, 81, 82, 83, 84, 85, 86, 87] [] G G1 = G') ∧ ∃ z : Int, r = some (0, z) ∧ ∃ bad' : Int, bad' = G' 1 (Ad E 1) 80 ∧ ((z = 0 ∧ 1 ≤ bad') ∨ (low ≤ z ∧ z ≤ top ∧ bad' = 0))) := by
  refine calls_by [(0, (2, (Ad E 1))), (1, (0, low)), (2, (0, top))] rfl rfl (Nat.le_of_ble_eq_true rfl) (fun X hX => ?_)
  have hP := hPX12_count
  refine r_ex hX hP 1 (pc' := 1) (st' := [(2, (Ad E 1))]) (lo' := [(0, (2, (Ad E 1))), (1, (0, low)), (2, (0, top))]) rfl ?_
  refine r_getI hX hP rfl fl_12_382 hS (fun bf1 bf1e bf1a bf1b => ?_)
  refine r_if_le hX hP rfl (tgt := 9) rfl (by omega) (by omega) (fun c2 => ?_) (fun c2 => ?_)
  · skip
    refine r_ex hX hP 1 (pc' := 10) (st' := [(2, (Ad E 1))]) (lo' := [(0, (2, (Ad E 1))), (1, (0, low)), (2, (0, top))]) rfl ?_
    refine r_getI hX hP rfl fl_12_358 hS (fun sf3 sf3e sf3a sf3b => ?_)
    refine r_ex hX hP 1 (pc' := 14) (st' := [(0, 2), (0, sf3)]) (lo' := [(0, (2, (Ad E 1))), (1, (0, low)), (2, (0, top))]) rfl ?_
    refine r_ic_eq hX hP rfl (tgt := 23) rfl (by omega) (by omega) (by omega) (by omega) (fun c4 => ?_) (fun c4 => ?_)
    · skip
      refine r_ex hX hP 1 (pc' := 24) (st' := [(2, (Ad E 1))]) (lo' := [(0, (2, (Ad E 1))), (1, (0, low)), (2, (0, top))]) rfl ?_
      refine r_getI hX hP rfl fl_12_379 hS (fun nf5 nf5e nf5a nf5b => ?_)
      refine r_ex hX hP 2 (pc' := 29) (st' := [(0, top), (0, low), (0, nf5)]) (lo' := [(0, (2, (Ad E 1))), (1, (0, low)), (2, (0, top))]) rfl ?_
      refine r_callS gd hX hP rfl cs_12_310 (d' := 0) (mc' := 0) (ms' := 0) (as' := [(0, nf5), (0, low), (0, top)]) (st := []) (by omega) (by omega) (by omega) rfl rfl (Nat.le_of_ble_eq_true rfl) (c_X12_isIn E S G nf5 low top (by omega) (by omega) (by omega) (by omega) (by omega) (by omega)) ?_
      rintro _ _ _ ⟨rfl, rfl, z6, rfl, (⟨rfl, f7, f8⟩ | ⟨rfl, f9⟩)⟩
      · skip
        refine r_if_ne hX hP rfl (tgt := 46) rfl (by omega) (by omega) (fun c10 => ?_) (fun c10 => ?_)
        · skip
          refine r_ex hX hP 1 (pc' := 47) (st' := [(2, (Ad E 1))]) (lo' := [(0, (2, (Ad E 1))), (1, (0, low)), (2, (0, top))]) rfl ?_
          refine r_getKI hX hP rfl fl_12_379 hS (x := nf5) nf5e ?_
          refine r_ex hX hP 2 (pc' := 52) (st' := [(2, (Ad E 1))]) (lo' := [(0, (2, (Ad E 1))), (1, (0, low)), (2, (0, top)), (3, (0, nf5))]) rfl ?_
          refine r_callV gd hX hP rfl cv_12_398 hS (d' := 1) (mc' := 0) (ms' := 0) (as' := []) (st := []) (by omega) (by omega) (by omega) rfl rfl (Nat.le_of_ble_eq_true rfl) (c_X12_next E S G  hS) ?_
          rintro _ _ _ ⟨rfl, ⟨G11, rfl⟩, rfl, -⟩
          refine r_ex hX hP 1 (pc' := 56) (st' := [(0, nf5)]) (lo' := [(0, (2, (Ad E 1))), (1, (0, low)), (2, (0, top)), (3, (0, nf5))]) rfl ?_
          exact r_retI hX hP rfl rfl (by omega) (by omega) ⟨rfl, ⟨_, (hq_call (hq_refl _ _ _) rfl).symm⟩, nf5, rfl, bf1, bf1e, (by omega)⟩
        · skip
          exfalso; omega
      · skip
        refine r_if_ne hX hP rfl (tgt := 46) rfl (by omega) (by omega) (fun c12 => ?_) (fun c12 => ?_)
        · skip
          exfalso; omega
        · skip
          refine r_ex hX hP 3 (pc' := 38) (st' := [(2, (Ad E 1)), (0, 4), (2, (Ad E 1))]) (lo' := [(0, (2, (Ad E 1))), (1, (0, low)), (2, (0, top))]) rfl ?_
          refine r_getI hX hP rfl fl_12_352 hS (fun af13 af13e af13a af13b => ?_)
          refine r_callV gd hX hP rfl cv_12_388 hS (d' := 0) (mc' := 0) (ms' := 0) (as' := [(0, 4), (0, af13)]) (st := []) (by omega) (by omega) (by omega) rfl rfl (Nat.le_of_ble_eq_true rfl) (c_X12_fail E S G 4 af13 hS (by omega) (by omega) (by omega) (by omega)) ?_
          rintro _ _ _ ⟨rfl, ⟨G14, rfl⟩, rfl, bah15, bah15e, f16⟩
          refine r_peekI hX (tl1 80 rfl (by decide)) hS (fun o17 o17e o17a o17b => ?_)
          obtain rfl : bah15 = o17 := bah15e.trans o17e.symm
          refine r_ex hX hP 1 (pc' := 45) (st' := [(0, 0)]) (lo' := [(0, (2, (Ad E 1))), (1, (0, low)), (2, (0, top))]) rfl ?_
          exact r_retI hX hP rfl rfl (by omega) (by omega) ⟨rfl, ⟨_, (hq_call (hq_refl _ _ _) rfl).symm⟩, 0, rfl, bah15, bah15e, (by omega)⟩
    · skip
      refine r_ex hX hP 1 (pc' := 18) (st' := [(2, (Ad E 1))]) (lo' := [(0, (2, (Ad E 1))), (1, (0, low)), (2, (0, top))]) rfl ?_
      refine r_callV gd hX hP rfl cv_12_395 hS (d' := 1) (mc' := 0) (ms' := 0) (as' := []) (st := []) (by omega) (by omega) (by omega) rfl rfl (Nat.le_of_ble_eq_true rfl) (c_X12_wrong E S G  hS) ?_
      rintro _ _ _ ⟨rfl, ⟨G18, rfl⟩, rfl, bah19, bah19e, f20⟩
      refine r_peekI hX (tl1 80 rfl (by decide)) hS (fun o21 o21e o21a o21b => ?_)
      obtain rfl : bah19 = o21 := bah19e.trans o21e.symm
      refine r_ex hX hP 1 (pc' := 22) (st' := [(0, 0)]) (lo' := [(0, (2, (Ad E 1))), (1, (0, low)), (2, (0, top))]) rfl ?_
      exact r_retI hX hP rfl rfl (by omega) (by omega) ⟨rfl, ⟨_, (hq_call (hq_refl _ _ _) rfl).symm⟩, 0, rfl, bah19, bah19e, (by omega)⟩
  · skip
    refine r_ex hX hP 1 (pc' := 8) (st' := [(0, 0)]) (lo' := [(0, (2, (Ad E 1))), (1, (0, low)), (2, (0, top))]) rfl ?_
    exact r_retI hX hP rfl rfl (by omega) (by omega) ⟨rfl, ⟨_, (hq_refl _ _ _).symm⟩, 0, rfl, bf1, bf1e, (by omega)⟩
set_option maxRecDepth 100000 in
set_option maxHeartbeats 4000000 in
theorem c_X12_isFraction (E : En) (S : Sg) (G : Gh) (hS : S (Ad E 1) = 1) : Calls E mX12_isFraction [(2, (Ad E 1))] S G 1 0 0 (fun r S' G' => S = S' ∧ G = G' ∧ ∃ z : Int, r = some (0, z) ∧ 0 ≤ z ∧ z ≤ 1) := by
  refine calls_by [(0, (2, (Ad E 1)))] rfl rfl (Nat.le_of_ble_eq_true rfl) (fun X hX => ?_)
  have hP := hPX12_isFraction
  refine r_ex hX hP 7 (pc' := 13) (st' := [(0, 105), (0, 116), (0, 99), (0, 97), (0, 114), (0, 102), (2, (Ad E 1))]) (lo' := [(0, (2, (Ad E 1)))]) rfl ?_
  refine r_callS gd hX hP rfl cs_12_405 (d' := 0) (mc' := 0) (ms' := 0) (as' := [(0, 102), (0, 114), (0, 97), (0, 99), (0, 116), (0, 105)]) (st := [(2, (Ad E 1))]) (by omega) (by omega) (by omega) rfl rfl (Nat.le_of_ble_eq_true rfl) (c_X12_spelled E S G 102 114 97 99 116 105 (by omega) (by omega) (by omega) (by omega) (by omega) (by omega) (by omega) (by omega) (by omega) (by omega) (by omega) (by omega)) ?_
  rintro _ _ _ ⟨rfl, rfl, z1, rfl, z1a, z1b⟩
  refine r_ldc2 hX hP rfl (v := 1024) (tbg sg9 166 rfl rfl) ?_
  refine r_ex hX hP 1 (pc' := 20) (st' := [(1, (z1 * 1024)), (2, (Ad E 1))]) (lo' := [(0, (2, (Ad E 1)))]) rfl ?_
  refine r_hvL hX (fun w2 w2a w2b w2e => ?_)
  refine r_ldc2 hX hP rfl (v := 480) (tbg sg9 167 rfl rfl) ?_
  refine r_ex hX hP 1 (pc' := 24) (st' := [(1, (w2 + 480)), (2, (Ad E 1))]) (lo' := [(0, (2, (Ad E 1)))]) rfl ?_
  refine r_hvL hX (fun w3 w3a w3b w3e => ?_)
  refine r_ldc2 hX hP rfl (v := 110) (tbg sg9 168 rfl rfl) ?_
  refine r_ex hX hP 1 (pc' := 28) (st' := [(1, (w3 + 110)), (2, (Ad E 1))]) (lo' := [(0, (2, (Ad E 1)))]) rfl ?_
  refine r_hvL hX (fun w4 w4a w4b w4e => ?_)
  refine r_ldc2 hX hP rfl (v := 96) (tbg sg9 134 rfl rfl) ?_
  refine r_ex hX hP 1 (pc' := 32) (st' := [(1, (w4 - 96)), (2, (Ad E 1))]) (lo' := [(0, (2, (Ad E 1)))]) rfl ?_
  refine r_hvL hX (fun w5 w5a w5b w5e => ?_)
  refine r_callV gd hX hP rfl cv_12_401 hS (d' := 0) (mc' := 0) (ms' := 0) (as' := [(1, w5)]) (st := []) (by omega) (by omega) (by omega) rfl rfl (Nat.le_of_ble_eq_true rfl) (c_X12_isWord E S G w5 hS (by omega) (by omega)) ?_
  rintro _ _ _ ⟨rfl, rfl, z6, rfl, z6a, z6b⟩
  exact r_retZ hX hP rfl rfl (by omega) (by omega) (by omega) (by omega) ⟨rfl, rfl, z6, rfl, (by omega)⟩
set_option maxRecDepth 100000 in
set_option maxHeartbeats 4000000 in
theorem c_X12_clauseKind (E : En) (S : Sg) (G : Gh) (hS : S (Ad E 1) = 1) : Calls E mX12_clauseKind [(2, (Ad E 1))] S G 2 0 0 (fun r S' G' => S = S' ∧ G = G' ∧ ∃ z : Int, r = some (0, z) ∧ (-1) ≤ z ∧ z ≤ 9) := by
  refine calls_by [(0, (2, (Ad E 1)))] rfl rfl (Nat.le_of_ble_eq_true rfl) (fun X hX => ?_)
  have hP := hPX12_clauseKind
  refine r_ex hX hP 7 (pc' := 11) (st' := [(0, 0), (0, 0), (0, 101), (0, 118), (0, 105), (0, 103), (2, (Ad E 1))]) (lo' := [(0, (2, (Ad E 1)))]) rfl ?_
  refine r_callS gd hX hP rfl cs_12_405 (d' := 0) (mc' := 0) (ms' := 0) (as' := [(0, 103), (0, 105), (0, 118), (0, 101), (0, 0), (0, 0)]) (st := [(2, (Ad E 1))]) (by omega) (by omega) (by omega) rfl rfl (Nat.le_of_ble_eq_true rfl) (c_X12_spelled E S G 103 105 118 101 0 0 (by omega) (by omega) (by omega) (by omega) (by omega) (by omega) (by omega) (by omega) (by omega) (by omega) (by omega) (by omega)) ?_
  rintro _ _ _ ⟨rfl, rfl, z1, rfl, z1a, z1b⟩
  refine r_callV gd hX hP rfl cv_12_401 hS (d' := 0) (mc' := 0) (ms' := 0) (as' := [(1, z1)]) (st := []) (by omega) (by omega) (by omega) rfl rfl (Nat.le_of_ble_eq_true rfl) (c_X12_isWord E S G z1 hS (by omega) (by omega)) ?_
  rintro _ _ _ ⟨rfl, rfl, z2, rfl, z2a, z2b⟩
  refine r_if_eq hX hP rfl (tgt := 22) rfl (by omega) (by omega) (fun c3 => ?_) (fun c3 => ?_)
  · skip
    refine r_ex hX hP 7 (pc' := 33) (st' := [(0, 0), (0, 0), (0, 101), (0, 107), (0, 97), (0, 116), (2, (Ad E 1))]) (lo' := [(0, (2, (Ad E 1)))]) rfl ?_
    refine r_callS gd hX hP rfl cs_12_405 (d' := 0) (mc' := 0) (ms' := 0) (as' := [(0, 116), (0, 97), (0, 107), (0, 101), (0, 0), (0, 0)]) (st := [(2, (Ad E 1))]) (by omega) (by omega) (by omega) rfl rfl (Nat.le_of_ble_eq_true rfl) (c_X12_spelled E S G 116 97 107 101 0 0 (by omega) (by omega) (by omega) (by omega) (by omega) (by omega) (by omega) (by omega) (by omega) (by omega) (by omega) (by omega)) ?_
    rintro _ _ _ ⟨rfl, rfl, z4, rfl, z4a, z4b⟩
    refine r_callV gd hX hP rfl cv_12_401 hS (d' := 0) (mc' := 0) (ms' := 0) (as' := [(1, z4)]) (st := []) (by omega) (by omega) (by omega) rfl rfl (Nat.le_of_ble_eq_true rfl) (c_X12_isWord E S G z4 hS (by omega) (by omega)) ?_
    rintro _ _ _ ⟨rfl, rfl, z5, rfl, z5a, z5b⟩
    refine r_if_eq hX hP rfl (tgt := 44) rfl (by omega) (by omega) (fun c6 => ?_) (fun c6 => ?_)
    · skip
      refine r_ex hX hP 7 (pc' := 55) (st' := [(0, 0), (0, 0), (0, 110), (0, 105), (0, 111), (0, 99), (2, (Ad E 1))]) (lo' := [(0, (2, (Ad E 1)))]) rfl ?_
      refine r_callS gd hX hP rfl cs_12_405 (d' := 0) (mc' := 0) (ms' := 0) (as' := [(0, 99), (0, 111), (0, 105), (0, 110), (0, 0), (0, 0)]) (st := [(2, (Ad E 1))]) (by omega) (by omega) (by omega) rfl rfl (Nat.le_of_ble_eq_true rfl) (c_X12_spelled E S G 99 111 105 110 0 0 (by omega) (by omega) (by omega) (by omega) (by omega) (by omega) (by omega) (by omega) (by omega) (by omega) (by omega) (by omega)) ?_
      rintro _ _ _ ⟨rfl, rfl, z7, rfl, z7a, z7b⟩
      refine r_callV gd hX hP rfl cv_12_401 hS (d' := 0) (mc' := 0) (ms' := 0) (as' := [(1, z7)]) (st := []) (by omega) (by omega) (by omega) rfl rfl (Nat.le_of_ble_eq_true rfl) (c_X12_isWord E S G z7 hS (by omega) (by omega)) ?_
      rintro _ _ _ ⟨rfl, rfl, z8, rfl, z8a, z8b⟩
      refine r_if_eq hX hP rfl (tgt := 66) rfl (by omega) (by omega) (fun c9 => ?_) (fun c9 => ?_)
      · skip
        refine r_ex hX hP 7 (pc' := 76) (st' := [(0, 0), (0, 0), (0, 0), (0, 121), (0, 97), (0, 112), (2, (Ad E 1))]) (lo' := [(0, (2, (Ad E 1)))]) rfl ?_
        refine r_callS gd hX hP rfl cs_12_405 (d' := 0) (mc' := 0) (ms' := 0) (as' := [(0, 112), (0, 97), (0, 121), (0, 0), (0, 0), (0, 0)]) (st := [(2, (Ad E 1))]) (by omega) (by omega) (by omega) rfl rfl (Nat.le_of_ble_eq_true rfl) (c_X12_spelled E S G 112 97 121 0 0 0 (by omega) (by omega) (by omega) (by omega) (by omega) (by omega) (by omega) (by omega) (by omega) (by omega) (by omega) (by omega)) ?_
        rintro _ _ _ ⟨rfl, rfl, z10, rfl, z10a, z10b⟩
        refine r_callV gd hX hP rfl cv_12_401 hS (d' := 0) (mc' := 0) (ms' := 0) (as' := [(1, z10)]) (st := []) (by omega) (by omega) (by omega) rfl rfl (Nat.le_of_ble_eq_true rfl) (c_X12_isWord E S G z10 hS (by omega) (by omega)) ?_
        rintro _ _ _ ⟨rfl, rfl, z11, rfl, z11a, z11b⟩
        refine r_if_eq hX hP rfl (tgt := 87) rfl (by omega) (by omega) (fun c12 => ?_) (fun c12 => ?_)
        · skip
          refine r_ex hX hP 7 (pc' := 99) (st' := [(0, 0), (0, 104), (0, 116), (0, 114), (0, 111), (0, 119), (2, (Ad E 1))]) (lo' := [(0, (2, (Ad E 1)))]) rfl ?_
          refine r_callS gd hX hP rfl cs_12_405 (d' := 0) (mc' := 0) (ms' := 0) (as' := [(0, 119), (0, 111), (0, 114), (0, 116), (0, 104), (0, 0)]) (st := [(2, (Ad E 1))]) (by omega) (by omega) (by omega) rfl rfl (Nat.le_of_ble_eq_true rfl) (c_X12_spelled E S G 119 111 114 116 104 0 (by omega) (by omega) (by omega) (by omega) (by omega) (by omega) (by omega) (by omega) (by omega) (by omega) (by omega) (by omega)) ?_
          rintro _ _ _ ⟨rfl, rfl, z13, rfl, z13a, z13b⟩
          refine r_callV gd hX hP rfl cv_12_401 hS (d' := 0) (mc' := 0) (ms' := 0) (as' := [(1, z13)]) (st := []) (by omega) (by omega) (by omega) rfl rfl (Nat.le_of_ble_eq_true rfl) (c_X12_isWord E S G z13 hS (by omega) (by omega)) ?_
          rintro _ _ _ ⟨rfl, rfl, z14, rfl, z14a, z14b⟩
          refine r_if_eq hX hP rfl (tgt := 110) rfl (by omega) (by omega) (fun c15 => ?_) (fun c15 => ?_)
          · skip
            refine r_ex hX hP 1 (pc' := 111) (st' := [(2, (Ad E 1))]) (lo' := [(0, (2, (Ad E 1)))]) rfl ?_
            refine r_callV gd hX hP rfl cv_12_409 hS (d' := 1) (mc' := 0) (ms' := 0) (as' := []) (st := []) (by omega) (by omega) (by omega) rfl rfl (Nat.le_of_ble_eq_true rfl) (c_X12_isFraction E S G  hS) ?_
            rintro _ _ _ ⟨rfl, rfl, z16, rfl, z16a, z16b⟩
            refine r_if_eq hX hP rfl (tgt := 119) rfl (by omega) (by omega) (fun c17 => ?_) (fun c17 => ?_)
            · skip
              refine r_ex hX hP 7 (pc' := 130) (st' := [(0, 0), (0, 0), (0, 110), (0, 101), (0, 104), (0, 119), (2, (Ad E 1))]) (lo' := [(0, (2, (Ad E 1)))]) rfl ?_
              refine r_callS gd hX hP rfl cs_12_405 (d' := 0) (mc' := 0) (ms' := 0) (as' := [(0, 119), (0, 104), (0, 101), (0, 110), (0, 0), (0, 0)]) (st := [(2, (Ad E 1))]) (by omega) (by omega) (by omega) rfl rfl (Nat.le_of_ble_eq_true rfl) (c_X12_spelled E S G 119 104 101 110 0 0 (by omega) (by omega) (by omega) (by omega) (by omega) (by omega) (by omega) (by omega) (by omega) (by omega) (by omega) (by omega)) ?_
              rintro _ _ _ ⟨rfl, rfl, z18, rfl, z18a, z18b⟩
              refine r_callV gd hX hP rfl cv_12_401 hS (d' := 0) (mc' := 0) (ms' := 0) (as' := [(1, z18)]) (st := []) (by omega) (by omega) (by omega) rfl rfl (Nat.le_of_ble_eq_true rfl) (c_X12_isWord E S G z18 hS (by omega) (by omega)) ?_
              rintro _ _ _ ⟨rfl, rfl, z19, rfl, z19a, z19b⟩
              refine r_if_eq hX hP rfl (tgt := 142) rfl (by omega) (by omega) (fun c20 => ?_) (fun c20 => ?_)
              · skip
                refine r_ex hX hP 7 (pc' := 155) (st' := [(0, 101), (0, 99), (0, 105), (0, 111), (0, 104), (0, 99), (2, (Ad E 1))]) (lo' := [(0, (2, (Ad E 1)))]) rfl ?_
                refine r_callS gd hX hP rfl cs_12_405 (d' := 0) (mc' := 0) (ms' := 0) (as' := [(0, 99), (0, 104), (0, 111), (0, 105), (0, 99), (0, 101)]) (st := [(2, (Ad E 1))]) (by omega) (by omega) (by omega) rfl rfl (Nat.le_of_ble_eq_true rfl) (c_X12_spelled E S G 99 104 111 105 99 101 (by omega) (by omega) (by omega) (by omega) (by omega) (by omega) (by omega) (by omega) (by omega) (by omega) (by omega) (by omega)) ?_
                rintro _ _ _ ⟨rfl, rfl, z21, rfl, z21a, z21b⟩
                refine r_callV gd hX hP rfl cv_12_401 hS (d' := 0) (mc' := 0) (ms' := 0) (as' := [(1, z21)]) (st := []) (by omega) (by omega) (by omega) rfl rfl (Nat.le_of_ble_eq_true rfl) (c_X12_isWord E S G z21 hS (by omega) (by omega)) ?_
                rintro _ _ _ ⟨rfl, rfl, z22, rfl, z22a, z22b⟩
                refine r_if_eq hX hP rfl (tgt := 167) rfl (by omega) (by omega) (fun c23 => ?_) (fun c23 => ?_)
                · skip
                  refine r_ex hX hP 7 (pc' := 180) (st' := [(0, 108), (0, 117), (0, 97), (0, 102), (0, 101), (0, 100), (2, (Ad E 1))]) (lo' := [(0, (2, (Ad E 1)))]) rfl ?_
                  refine r_callS gd hX hP rfl cs_12_405 (d' := 0) (mc' := 0) (ms' := 0) (as' := [(0, 100), (0, 101), (0, 102), (0, 97), (0, 117), (0, 108)]) (st := [(2, (Ad E 1))]) (by omega) (by omega) (by omega) rfl rfl (Nat.le_of_ble_eq_true rfl) (c_X12_spelled E S G 100 101 102 97 117 108 (by omega) (by omega) (by omega) (by omega) (by omega) (by omega) (by omega) (by omega) (by omega) (by omega) (by omega) (by omega)) ?_
                  rintro _ _ _ ⟨rfl, rfl, z24, rfl, z24a, z24b⟩
                  refine r_ldc2 hX hP rfl (v := 32) (tbg sg9 133 rfl rfl) ?_
                  refine r_ex hX hP 1 (pc' := 187) (st' := [(1, (z24 * 32)), (2, (Ad E 1))]) (lo' := [(0, (2, (Ad E 1)))]) rfl ?_
                  refine r_hvL hX (fun w25 w25a w25b w25e => ?_)
                  refine r_ldc2 hX hP rfl (v := 116) (tbg sg9 169 rfl rfl) ?_
                  refine r_ex hX hP 1 (pc' := 191) (st' := [(1, (w25 + 116)), (2, (Ad E 1))]) (lo' := [(0, (2, (Ad E 1)))]) rfl ?_
                  refine r_hvL hX (fun w26 w26a w26b w26e => ?_)
                  refine r_ldc2 hX hP rfl (v := 96) (tbg sg9 134 rfl rfl) ?_
                  refine r_ex hX hP 1 (pc' := 195) (st' := [(1, (w26 - 96)), (2, (Ad E 1))]) (lo' := [(0, (2, (Ad E 1)))]) rfl ?_
                  refine r_hvL hX (fun w27 w27a w27b w27e => ?_)
                  refine r_callV gd hX hP rfl cv_12_401 hS (d' := 0) (mc' := 0) (ms' := 0) (as' := [(1, w27)]) (st := []) (by omega) (by omega) (by omega) rfl rfl (Nat.le_of_ble_eq_true rfl) (c_X12_isWord E S G w27 hS (by omega) (by omega)) ?_
                  rintro _ _ _ ⟨rfl, rfl, z28, rfl, z28a, z28b⟩
                  refine r_if_eq hX hP rfl (tgt := 204) rfl (by omega) (by omega) (fun c29 => ?_) (fun c29 => ?_)
                  · skip
                    refine r_ex hX hP 7 (pc' := 215) (st' := [(0, 0), (0, 0), (0, 116), (0, 115), (0, 111), (0, 109), (2, (Ad E 1))]) (lo' := [(0, (2, (Ad E 1)))]) rfl ?_
                    refine r_callS gd hX hP rfl cs_12_405 (d' := 0) (mc' := 0) (ms' := 0) (as' := [(0, 109), (0, 111), (0, 115), (0, 116), (0, 0), (0, 0)]) (st := [(2, (Ad E 1))]) (by omega) (by omega) (by omega) rfl rfl (Nat.le_of_ble_eq_true rfl) (c_X12_spelled E S G 109 111 115 116 0 0 (by omega) (by omega) (by omega) (by omega) (by omega) (by omega) (by omega) (by omega) (by omega) (by omega) (by omega) (by omega)) ?_
                    rintro _ _ _ ⟨rfl, rfl, z30, rfl, z30a, z30b⟩
                    refine r_callV gd hX hP rfl cv_12_401 hS (d' := 0) (mc' := 0) (ms' := 0) (as' := [(1, z30)]) (st := []) (by omega) (by omega) (by omega) rfl rfl (Nat.le_of_ble_eq_true rfl) (c_X12_isWord E S G z30 hS (by omega) (by omega)) ?_
                    rintro _ _ _ ⟨rfl, rfl, z31, rfl, z31a, z31b⟩
                    refine r_if_eq hX hP rfl (tgt := 229) rfl (by omega) (by omega) (fun c32 => ?_) (fun c32 => ?_)
                    · skip
                      refine r_ex hX hP 1 (pc' := 230) (st' := [(0, (-1))]) (lo' := [(0, (2, (Ad E 1)))]) rfl ?_
                      exact r_retI hX hP rfl rfl (by omega) (by omega) ⟨rfl, rfl, (-1), rfl, (by omega)⟩
                    · skip
                      refine r_ex hX hP 2 (pc' := 230) (st' := [(0, 9)]) (lo' := [(0, (2, (Ad E 1)))]) rfl ?_
                      exact r_retI hX hP rfl rfl (by omega) (by omega) ⟨rfl, rfl, 9, rfl, (by omega)⟩
                  · skip
                    refine r_ex hX hP 1 (pc' := 203) (st' := [(0, 8)]) (lo' := [(0, (2, (Ad E 1)))]) rfl ?_
                    exact r_retI hX hP rfl rfl (by omega) (by omega) ⟨rfl, rfl, 8, rfl, (by omega)⟩
                · skip
                  refine r_ex hX hP 1 (pc' := 166) (st' := [(0, 7)]) (lo' := [(0, (2, (Ad E 1)))]) rfl ?_
                  exact r_retI hX hP rfl rfl (by omega) (by omega) ⟨rfl, rfl, 7, rfl, (by omega)⟩
              · skip
                refine r_ex hX hP 1 (pc' := 141) (st' := [(0, 6)]) (lo' := [(0, (2, (Ad E 1)))]) rfl ?_
                exact r_retI hX hP rfl rfl (by omega) (by omega) ⟨rfl, rfl, 6, rfl, (by omega)⟩
            · skip
              refine r_ex hX hP 1 (pc' := 118) (st' := [(0, 5)]) (lo' := [(0, (2, (Ad E 1)))]) rfl ?_
              exact r_retI hX hP rfl rfl (by omega) (by omega) ⟨rfl, rfl, 5, rfl, (by omega)⟩
          · skip
            refine r_ex hX hP 1 (pc' := 109) (st' := [(0, 4)]) (lo' := [(0, (2, (Ad E 1)))]) rfl ?_
            exact r_retI hX hP rfl rfl (by omega) (by omega) ⟨rfl, rfl, 4, rfl, (by omega)⟩
        · skip
          refine r_ex hX hP 1 (pc' := 86) (st' := [(0, 3)]) (lo' := [(0, (2, (Ad E 1)))]) rfl ?_
          exact r_retI hX hP rfl rfl (by omega) (by omega) ⟨rfl, rfl, 3, rfl, (by omega)⟩
      · skip
        refine r_ex hX hP 1 (pc' := 65) (st' := [(0, 2)]) (lo' := [(0, (2, (Ad E 1)))]) rfl ?_
        exact r_retI hX hP rfl rfl (by omega) (by omega) ⟨rfl, rfl, 2, rfl, (by omega)⟩
    · skip
      refine r_ex hX hP 1 (pc' := 43) (st' := [(0, 1)]) (lo' := [(0, (2, (Ad E 1)))]) rfl ?_
      exact r_retI hX hP rfl rfl (by omega) (by omega) ⟨rfl, rfl, 1, rfl, (by omega)⟩
  · skip
    refine r_ex hX hP 1 (pc' := 21) (st' := [(0, 0)]) (lo' := [(0, (2, (Ad E 1)))]) rfl ?_
    exact r_retI hX hP rfl rfl (by omega) (by omega) ⟨rfl, rfl, 0, rfl, (by omega)⟩
set_option maxRecDepth 100000 in
set_option maxHeartbeats 4000000 in
theorem c_X12_named (E : En) (S : Sg) (G : Gh) (hS : S (Ad E 1) = 1) : Calls E mX12_named [(2, (Ad E 1))] S G 0 0 0 (fun r S' G' => S = S' ∧ G = G' ∧ ∃ z : Int, r = some (0, z) ∧ (-1) ≤ z ∧ z ≤ 2) := by
  refine calls_by [(0, (2, (Ad E 1)))] rfl rfl (Nat.le_of_ble_eq_true rfl) (fun X hX => ?_)
  have hP := hPX12_named
  refine r_ex hX hP 2 (pc' := 2) (st' := []) (lo' := [(0, (2, (Ad E 1))), (1, (0, 0))]) rfl ?_
  have loop2 : ∀ (nF : Nat) (l1_h2 : Int), 0 ≤ l1_h2 → l1_h2 ≤ 3 → 3 - l1_h2 < (nF : Int) → X 0 0 2 [] [(0, (2, (Ad E 1))), (1, (0, l1_h2))] S G := by
    intro nF
    induction nF with
    | zero => intro l1_h2 yh2_0 yh2_1 ym2; exfalso; omega
    | succ nF ih2 =>
      intro l1_h2 yh2_0 yh2_1 ym2
      refine r_ex hX hP 2 (pc' := 4) (st' := [(2, (Ad E 1)), (0, l1_h2)]) (lo' := [(0, (2, (Ad E 1))), (1, (0, l1_h2))]) rfl ?_
      refine r_getI hX hP rfl fl_12_421 hS (fun nf1 nf1e nf1a nf1b => ?_)
      refine r_ic_ge hX hP rfl (tgt := 32) rfl (by omega) (by omega) (by omega) (by omega) (fun c2 => ?_) (fun c2 => ?_)
      · skip
        refine r_ex hX hP 1 (pc' := 33) (st' := [(0, (-1))]) (lo' := [(0, (2, (Ad E 1))), (1, (0, l1_h2))]) rfl ?_
        exact r_retI hX hP rfl rfl (by omega) (by omega) ⟨rfl, rfl, (-1), rfl, (by omega)⟩
      · skip
        refine r_ex hX hP 1 (pc' := 11) (st' := [(2, (Ad E 1))]) (lo' := [(0, (2, (Ad E 1))), (1, (0, l1_h2))]) rfl ?_
        refine r_getC hX hP rfl fl_12_210 hS (fun s3 => ?_)
        refine r_ex hX hP 1 (pc' := 15) (st' := [(0, l1_h2), (2, (Ad E 62))]) (lo' := [(0, (2, (Ad E 1))), (1, (0, l1_h2))]) rfl ?_
        refine r_lald hX hP rfl al_62 s3 (by omega) (by omega) (fun x4 x4e x4a x4b => ?_)
        refine r_ex hX hP 1 (pc' := 17) (st' := [(2, (Ad E 1)), (1, x4)]) (lo' := [(0, (2, (Ad E 1))), (1, (0, l1_h2))]) rfl ?_
        refine r_getL hX hP rfl fl_12_364 hS (fun wf5 wf5e wf5a wf5b => ?_)
        refine r_lc_ne hX hP rfl rfl (tgt := 26) rfl (by omega) (by omega) (by omega) (by omega) (fun c6 => ?_) (fun c6 => ?_)
        · skip
          refine r_ex hX hP 2 (pc' := 2) (st' := []) (lo' := [(0, (2, (Ad E 1))), (1, (0, (l1_h2 + 1)))]) rfl ?_
          exact ih2 (l1_h2 + 1) (by omega) (by omega) (by omega)
        · skip
          refine r_ex hX hP 1 (pc' := 25) (st' := [(0, l1_h2)]) (lo' := [(0, (2, (Ad E 1))), (1, (0, l1_h2))]) rfl ?_
          exact r_retI hX hP rfl rfl (by omega) (by omega) ⟨rfl, rfl, l1_h2, rfl, (by omega)⟩
  exact loop2 ((3 - 0) + 1 : Int).toNat 0 (by omega) (by omega) (by omega)
set_option maxRecDepth 100000 in
set_option maxHeartbeats 4000000 in
theorem c_X12_isName (E : En) (S : Sg) (G : Gh) (hS : S (Ad E 1) = 1) : Calls E mX12_isName [(2, (Ad E 1))] S G 2 0 0 (fun r S' G' => S = S' ∧ (∃ G1, hv [80, 81] [] G G1 = G') ∧ ∃ z : Int, r = some (0, z) ∧ ∃ bad' : Int, bad' = G' 1 (Ad E 1) 80 ∧ ((z = 1 ∧ bad' = 0) ∨ (z = 0 ∧ 1 ≤ bad'))) := by
  refine calls_by [(0, (2, (Ad E 1)))] rfl rfl (Nat.le_of_ble_eq_true rfl) (fun X hX => ?_)
  have hP := hPX12_isName
  refine r_ex hX hP 1 (pc' := 1) (st' := [(2, (Ad E 1))]) (lo' := [(0, (2, (Ad E 1)))]) rfl ?_
  refine r_getI hX hP rfl fl_12_382 hS (fun bf1 bf1e bf1a bf1b => ?_)
  refine r_if_le hX hP rfl (tgt := 9) rfl (by omega) (by omega) (fun c2 => ?_) (fun c2 => ?_)
  · skip
    refine r_ex hX hP 1 (pc' := 10) (st' := [(2, (Ad E 1))]) (lo' := [(0, (2, (Ad E 1)))]) rfl ?_
    refine r_getI hX hP rfl fl_12_358 hS (fun sf3 sf3e sf3a sf3b => ?_)
    refine r_ex hX hP 1 (pc' := 14) (st' := [(0, 1), (0, sf3)]) (lo' := [(0, (2, (Ad E 1)))]) rfl ?_
    refine r_ic_ne hX hP rfl (tgt := 26) rfl (by omega) (by omega) (by omega) (by omega) (fun c4 => ?_) (fun c4 => ?_)
    · skip
      refine r_ex hX hP 1 (pc' := 27) (st' := [(2, (Ad E 1))]) (lo' := [(0, (2, (Ad E 1)))]) rfl ?_
      refine r_callV gd hX hP rfl cv_12_395 hS (d' := 1) (mc' := 0) (ms' := 0) (as' := []) (st := []) (by omega) (by omega) (by omega) rfl rfl (Nat.le_of_ble_eq_true rfl) (c_X12_wrong E S G  hS) ?_
      rintro _ _ _ ⟨rfl, ⟨G5, rfl⟩, rfl, bah6, bah6e, f7⟩
      refine r_peekI hX (tl1 80 rfl (by decide)) hS (fun o8 o8e o8a o8b => ?_)
      obtain rfl : bah6 = o8 := bah6e.trans o8e.symm
      refine r_ex hX hP 1 (pc' := 31) (st' := [(2, (Ad E 1))]) (lo' := [(0, (2, (Ad E 1)))]) rfl ?_
      refine r_getKI hX hP rfl fl_12_382 hS (x := bah6) bah6e ?_
      refine r_if_ne hX hP rfl (tgt := 41) rfl (by omega) (by omega) (fun c9 => ?_) (fun c9 => ?_)
      · skip
        refine r_ex hX hP 1 (pc' := 42) (st' := [(0, 0)]) (lo' := [(0, (2, (Ad E 1)))]) rfl ?_
        exact r_retZ hX hP rfl rfl (by omega) (by omega) (by omega) (by omega) ⟨rfl, ⟨_, (hq_call (hq_refl _ _ _) rfl).symm⟩, 0, rfl, bah6, bah6e, (by omega)⟩
      · skip
        exfalso; omega
    · skip
      refine r_ex hX hP 1 (pc' := 18) (st' := [(2, (Ad E 1))]) (lo' := [(0, (2, (Ad E 1)))]) rfl ?_
      refine r_getI hX hP rfl fl_12_373 hS (fun lf10 lf10e lf10a lf10b => ?_)
      refine r_ex hX hP 1 (pc' := 23) (st' := [(0, 8), (0, lf10)]) (lo' := [(0, (2, (Ad E 1)))]) rfl ?_
      refine r_ic_le hX hP rfl (tgt := 30) rfl (by omega) (by omega) (by omega) (by omega) (fun c11 => ?_) (fun c11 => ?_)
      · skip
        refine r_ex hX hP 1 (pc' := 31) (st' := [(2, (Ad E 1))]) (lo' := [(0, (2, (Ad E 1)))]) rfl ?_
        refine r_getKI hX hP rfl fl_12_382 hS (x := bf1) bf1e ?_
        refine r_if_ne hX hP rfl (tgt := 41) rfl (by omega) (by omega) (fun c12 => ?_) (fun c12 => ?_)
        · skip
          exfalso; omega
        · skip
          refine r_ex hX hP 2 (pc' := 42) (st' := [(0, 1)]) (lo' := [(0, (2, (Ad E 1)))]) rfl ?_
          exact r_retZ hX hP rfl rfl (by omega) (by omega) (by omega) (by omega) ⟨rfl, ⟨_, (hq_refl _ _ _).symm⟩, 1, rfl, bf1, bf1e, (by omega)⟩
      · skip
        refine r_ex hX hP 1 (pc' := 27) (st' := [(2, (Ad E 1))]) (lo' := [(0, (2, (Ad E 1)))]) rfl ?_
        refine r_callV gd hX hP rfl cv_12_395 hS (d' := 1) (mc' := 0) (ms' := 0) (as' := []) (st := []) (by omega) (by omega) (by omega) rfl rfl (Nat.le_of_ble_eq_true rfl) (c_X12_wrong E S G  hS) ?_
        rintro _ _ _ ⟨rfl, ⟨G13, rfl⟩, rfl, bah14, bah14e, f15⟩
        refine r_peekI hX (tl1 80 rfl (by decide)) hS (fun o16 o16e o16a o16b => ?_)
        obtain rfl : bah14 = o16 := bah14e.trans o16e.symm
        refine r_ex hX hP 1 (pc' := 31) (st' := [(2, (Ad E 1))]) (lo' := [(0, (2, (Ad E 1)))]) rfl ?_
        refine r_getKI hX hP rfl fl_12_382 hS (x := bah14) bah14e ?_
        refine r_if_ne hX hP rfl (tgt := 41) rfl (by omega) (by omega) (fun c17 => ?_) (fun c17 => ?_)
        · skip
          refine r_ex hX hP 1 (pc' := 42) (st' := [(0, 0)]) (lo' := [(0, (2, (Ad E 1)))]) rfl ?_
          exact r_retZ hX hP rfl rfl (by omega) (by omega) (by omega) (by omega) ⟨rfl, ⟨_, (hq_call (hq_refl _ _ _) rfl).symm⟩, 0, rfl, bah14, bah14e, (by omega)⟩
        · skip
          exfalso; omega
  · skip
    refine r_ex hX hP 1 (pc' := 8) (st' := [(0, 0)]) (lo' := [(0, (2, (Ad E 1)))]) rfl ?_
    exact r_retZ hX hP rfl rfl (by omega) (by omega) (by omega) (by omega) ⟨rfl, ⟨_, (hq_refl _ _ _).symm⟩, 0, rfl, bf1, bf1e, (by omega)⟩
set_option maxRecDepth 100000 in
set_option maxHeartbeats 4000000 in
theorem c_X12_lay (E : En) (S : Sg) (G : Gh) (v : Int) (hS : S (Ad E 1) = 1) (taped : Int) (taped_e : taped = G 1 (Ad E 1) 76) (v_a : (-2147483648) ≤ v) (v_b : v ≤ 2147483647) (pre0 : taped ≤ 396) : Calls E mX12_lay [(2, (Ad E 1)), (0, v)] S G 0 0 0 (fun r S' G' => S = S' ∧ (∃ G1, hv [76] [61] G G1 = G') ∧ r = none ∧ ∃ taped' : Int, taped' = G' 1 (Ad E 1) 76 ∧ taped' = taped + 4) := by
  refine calls_by [(0, (2, (Ad E 1))), (1, (0, v))] rfl rfl (Nat.le_of_ble_eq_true rfl) (fun X hX => ?_)
  have hP := hPX12_lay
  refine r_peekI hX (tl1 76 rfl (by decide)) hS (fun taped_o taped_oe taped_oa taped_ob => ?_)
  obtain rfl : taped = taped_o := taped_e.trans taped_oe.symm
  refine r_ex hX hP 2 (pc' := 2) (st' := []) (lo' := [(0, (2, (Ad E 1))), (1, (0, v)), (2, (0, 3))]) rfl ?_
  have loop2 : ∀ (nF : Nat) (l2_h2 taped_h2 : Int) (Gh2 : Gh), taped_h2 = (hv [76] [61] G Gh2) 1 (Ad E 1) 76 → (-1) ≤ l2_h2 → l2_h2 ≤ 3 → 0 ≤ taped_h2 → taped_h2 ≤ 400 → taped_h2 = taped + 3 - l2_h2 → l2_h2 - (-1) < (nF : Int) → X 0 0 2 [] [(0, (2, (Ad E 1))), (1, (0, v)), (2, (0, l2_h2))] S (hv [76] [61] G Gh2) := by
    intro nF
    induction nF with
    | zero => intro l2_h2 taped_h2 Gh2 taped_h2_e yh2_0 yh2_1 yh2_2 yh2_3 yh2_4 ym2; exfalso; omega
    | succ nF ih2 =>
      intro l2_h2 taped_h2 Gh2 taped_h2_e yh2_0 yh2_1 yh2_2 yh2_3 yh2_4 ym2
      refine r_ex hX hP 1 (pc' := 3) (st' := [(0, l2_h2)]) (lo' := [(0, (2, (Ad E 1))), (1, (0, v)), (2, (0, l2_h2))]) rfl ?_
      refine r_if_lt hX hP rfl (tgt := 38) rfl (by omega) (by omega) (fun c1 => ?_) (fun c1 => ?_)
      · skip
        exact r_retV hX hP rfl rfl (by omega) (by omega) ⟨rfl, ⟨_, (hq_loop (hq_refl _ _ _) rfl).symm⟩, rfl, taped_h2, taped_h2_e, (by omega)⟩
      · skip
        refine r_ex hX hP 1 (pc' := 7) (st' := [(2, (Ad E 1))]) (lo' := [(0, (2, (Ad E 1))), (1, (0, v)), (2, (0, l2_h2))]) rfl ?_
        refine r_getC hX hP rfl fl_12_200 hS (fun s2 => ?_)
        refine r_ex hX hP 1 (pc' := 11) (st' := [(2, (Ad E 1)), (2, (Ad E 61))]) (lo' := [(0, (2, (Ad E 1))), (1, (0, v)), (2, (0, l2_h2))]) rfl ?_
        refine r_getKI hX hP rfl fl_12_484 hS (x := taped_h2) taped_h2_e ?_
        refine r_ex hX hP 4 (pc' := 19) (st' := [(0, (8 * l2_h2)), (0, v), (0, taped_h2), (2, (Ad E 61))]) (lo' := [(0, (2, (Ad E 1))), (1, (0, v)), (2, (0, l2_h2))]) rfl ?_
        refine r_ishr hX hP rfl (fun b3 b3a b3b b3e => ?_)
        refine r_i2b hX hP rfl (fun b4 b4a b4b b4e => ?_)
        refine r_bastK hX hP rfl al_61 s2 (by omega) (by omega) (by omega) (by omega) (by omega) (by omega) (fun h5 => ?_)
        refine r_ex hX hP 2 (pc' := 24) (st' := [(2, (Ad E 1)), (2, (Ad E 1))]) (lo' := [(0, (2, (Ad E 1))), (1, (0, v)), (2, (0, l2_h2))]) rfl ?_
        refine r_getKI hX hP rfl fl_12_484 hS (x := taped_h2) taped_h2_e ?_
        refine r_ex hX hP 2 (pc' := 29) (st' := [(0, (taped_h2 + 1)), (2, (Ad E 1))]) (lo' := [(0, (2, (Ad E 1))), (1, (0, v)), (2, (0, l2_h2))]) rfl ?_
        refine r_putIK hX hP rfl fp_12_484 hS (by omega) (by omega) (fun h6 => ?_)
        refine r_ex hX hP 2 (pc' := 2) (st' := []) (lo' := [(0, (2, (Ad E 1))), (1, (0, v)), (2, (0, (l2_h2 + (-1))))]) rfl ?_
        refine r_eqG (X := X) (hq_up (hq_up (hq_base _ _ _ _) rfl) rfl) ?_
        exact ih2 (l2_h2 + (-1)) (taped_h2 + 1) _ h6 (by omega) (by omega) (by omega) (by omega) (by omega) (by omega)
  refine r_eqG (X := X) (hq_refl [76] [61] _) ?_
  exact loop2 ((3 - (-1)) + 1 : Int).toNat 3 taped _ taped_e (by omega) (by omega) (by omega) (by omega) (by omega) (by omega)
set_option maxRecDepth 100000 in
set_option maxHeartbeats 4000000 in
theorem c_X12_feed (E : En) (S : Sg) (G : Gh) (a b c d e : Int) (hS : S (Ad E 1) = 1) (a_a : (-2147483648) ≤ a) (a_b : a ≤ 2147483647) (b_a : (-2147483648) ≤ b) (b_b : b ≤ 2147483647) (c_a : (-2147483648) ≤ c) (c_b : c ≤ 2147483647) (d_a : (-2147483648) ≤ d) (d_b : d ≤ 2147483647) (e_a : (-2147483648) ≤ e) (e_b : e ≤ 2147483647) : Calls E mX12_feed [(2, (Ad E 1)), (0, a), (0, b), (0, c), (0, d), (0, e)] S G 1 0 0 (fun r S' G' => S = S' ∧ (∃ G1, hv [1, 76] [61] G G1 = G') ∧ ∃ z : Int, r = some (0, z) ∧ (-2147483648) ≤ z ∧ z ≤ 2147483647) := by
  refine calls_by [(0, (2, (Ad E 1))), (1, (0, a)), (2, (0, b)), (3, (0, c)), (4, (0, d)), (5, (0, e))] rfl rfl (Nat.le_of_ble_eq_true rfl) (fun X hX => ?_)
  have hP := hPX12_feed
  refine r_ex hX hP 2 (pc' := 2) (st' := [(0, 0), (2, (Ad E 1))]) (lo' := [(0, (2, (Ad E 1))), (1, (0, a)), (2, (0, b)), (3, (0, c)), (4, (0, d)), (5, (0, e))]) rfl ?_
  refine r_putIK hX hP rfl fp_12_304 hS (by omega) (by omega) (fun h1 => ?_)
  refine r_ex hX hP 1 (pc' := 6) (st' := [(2, (Ad E 1))]) (lo' := [(0, (2, (Ad E 1))), (1, (0, a)), (2, (0, b)), (3, (0, c)), (4, (0, d)), (5, (0, e))]) rfl ?_
  refine r_getI hX hP rfl fl_12_484 hS (fun tf2 tf2e tf2a tf2b => ?_)
  refine r_ex hX hP 3 (pc' := 15) (st' := [(0, 400), (0, (tf2 + 20))]) (lo' := [(0, (2, (Ad E 1))), (1, (0, a)), (2, (0, b)), (3, (0, c)), (4, (0, d)), (5, (0, e))]) rfl ?_
  refine r_ic_le hX hP rfl (tgt := 20) rfl (by omega) (by omega) (by omega) (by omega) (fun c3 => ?_) (fun c3 => ?_)
  · skip
    refine r_ex hX hP 2 (pc' := 22) (st' := [(0, a), (2, (Ad E 1))]) (lo' := [(0, (2, (Ad E 1))), (1, (0, a)), (2, (0, b)), (3, (0, c)), (4, (0, d)), (5, (0, e))]) rfl ?_
    refine r_callV gd hX hP rfl cv_12_487 hS (d' := 0) (mc' := 0) (ms' := 0) (as' := [(0, a)]) (st := []) (by omega) (by omega) (by omega) rfl rfl (Nat.le_of_ble_eq_true rfl) (c_X12_lay E S (up G 1 (Ad E 1) 1 0) a hS tf2 tf2e (by omega) (by omega) (by omega)) ?_
    rintro _ _ _ ⟨rfl, ⟨G4, rfl⟩, rfl, tah5, tah5e, f6⟩
    refine r_peekI hX (tl1 76 rfl (by decide)) hS (fun o7 o7e o7a o7b => ?_)
    obtain rfl : tah5 = o7 := tah5e.trans o7e.symm
    refine r_ex hX hP 2 (pc' := 27) (st' := [(0, b), (2, (Ad E 1))]) (lo' := [(0, (2, (Ad E 1))), (1, (0, a)), (2, (0, b)), (3, (0, c)), (4, (0, d)), (5, (0, e))]) rfl ?_
    refine r_callV gd hX hP rfl cv_12_487 hS (d' := 0) (mc' := 0) (ms' := 0) (as' := [(0, b)]) (st := []) (by omega) (by omega) (by omega) rfl rfl (Nat.le_of_ble_eq_true rfl) (c_X12_lay E S (hv [76] [61] (up G 1 (Ad E 1) 1 0) G4) b hS tah5 tah5e (by omega) (by omega) (by omega)) ?_
    rintro _ _ _ ⟨rfl, ⟨G8, rfl⟩, rfl, tah9, tah9e, f10⟩
    refine r_peekI hX (tl1 76 rfl (by decide)) hS (fun o11 o11e o11a o11b => ?_)
    obtain rfl : tah9 = o11 := tah9e.trans o11e.symm
    refine r_ex hX hP 2 (pc' := 32) (st' := [(0, c), (2, (Ad E 1))]) (lo' := [(0, (2, (Ad E 1))), (1, (0, a)), (2, (0, b)), (3, (0, c)), (4, (0, d)), (5, (0, e))]) rfl ?_
    refine r_callV gd hX hP rfl cv_12_487 hS (d' := 0) (mc' := 0) (ms' := 0) (as' := [(0, c)]) (st := []) (by omega) (by omega) (by omega) rfl rfl (Nat.le_of_ble_eq_true rfl) (c_X12_lay E S (hv [76] [61] (hv [76] [61] (up G 1 (Ad E 1) 1 0) G4) G8) c hS tah9 tah9e (by omega) (by omega) (by omega)) ?_
    rintro _ _ _ ⟨rfl, ⟨G12, rfl⟩, rfl, tah13, tah13e, f14⟩
    refine r_peekI hX (tl1 76 rfl (by decide)) hS (fun o15 o15e o15a o15b => ?_)
    obtain rfl : tah13 = o15 := tah13e.trans o15e.symm
    refine r_ex hX hP 2 (pc' := 38) (st' := [(0, d), (2, (Ad E 1))]) (lo' := [(0, (2, (Ad E 1))), (1, (0, a)), (2, (0, b)), (3, (0, c)), (4, (0, d)), (5, (0, e))]) rfl ?_
    refine r_callV gd hX hP rfl cv_12_487 hS (d' := 0) (mc' := 0) (ms' := 0) (as' := [(0, d)]) (st := []) (by omega) (by omega) (by omega) rfl rfl (Nat.le_of_ble_eq_true rfl) (c_X12_lay E S (hv [76] [61] (hv [76] [61] (hv [76] [61] (up G 1 (Ad E 1) 1 0) G4) G8) G12) d hS tah13 tah13e (by omega) (by omega) (by omega)) ?_
    rintro _ _ _ ⟨rfl, ⟨G16, rfl⟩, rfl, tah17, tah17e, f18⟩
    refine r_peekI hX (tl1 76 rfl (by decide)) hS (fun o19 o19e o19a o19b => ?_)
    obtain rfl : tah17 = o19 := tah17e.trans o19e.symm
    refine r_ex hX hP 2 (pc' := 44) (st' := [(0, e), (2, (Ad E 1))]) (lo' := [(0, (2, (Ad E 1))), (1, (0, a)), (2, (0, b)), (3, (0, c)), (4, (0, d)), (5, (0, e))]) rfl ?_
    refine r_callV gd hX hP rfl cv_12_487 hS (d' := 0) (mc' := 0) (ms' := 0) (as' := [(0, e)]) (st := []) (by omega) (by omega) (by omega) rfl rfl (Nat.le_of_ble_eq_true rfl) (c_X12_lay E S (hv [76] [61] (hv [76] [61] (hv [76] [61] (hv [76] [61] (up G 1 (Ad E 1) 1 0) G4) G8) G12) G16) e hS tah17 tah17e (by omega) (by omega) (by omega)) ?_
    rintro _ _ _ ⟨rfl, ⟨G20, rfl⟩, rfl, tah21, tah21e, f22⟩
    refine r_peekI hX (tl1 76 rfl (by decide)) hS (fun o23 o23e o23a o23b => ?_)
    obtain rfl : tah21 = o23 := tah21e.trans o23e.symm
    refine r_ex hX hP 1 (pc' := 48) (st' := [(2, (Ad E 1))]) (lo' := [(0, (2, (Ad E 1))), (1, (0, a)), (2, (0, b)), (3, (0, c)), (4, (0, d)), (5, (0, e))]) rfl ?_
    refine r_getKI hX hP rfl fl_12_484 hS (x := tah21) tah21e ?_
    exact r_retI hX hP rfl rfl (by omega) (by omega) ⟨rfl, ⟨_, (hq_call (hq_call (hq_call (hq_call (hq_call (hq_up (hq_refl _ _ _) rfl) rfl) rfl) rfl) rfl) rfl).symm⟩, tah21, rfl, (by omega)⟩
  · skip
    refine r_ex hX hP 1 (pc' := 19) (st' := [(0, (-1))]) (lo' := [(0, (2, (Ad E 1))), (1, (0, a)), (2, (0, b)), (3, (0, c)), (4, (0, d)), (5, (0, e))]) rfl ?_
    exact r_retI hX hP rfl rfl (by omega) (by omega) ⟨rfl, ⟨_, (hq_up (hq_refl _ _ _) rfl).symm⟩, (-1), rfl, (by omega)⟩
set_option maxRecDepth 100000 in
set_option maxHeartbeats 4000000 in
theorem c_X12_fault (E : En) (S : Sg) (G : Gh) (w : Int) (hS : S (Ad E 1) = 1) (w_a : (-2147483648) ≤ w) (w_b : w ≤ 2147483647) : Calls E mX12_fault [(2, (Ad E 1)), (0, w)] S G 0 0 0 (fun r S' G' => S = S' ∧ (∃ G1, hv [1] [] G G1 = G') ∧ ∃ z : Int, r = some (0, z) ∧ (-2147483648) ≤ z ∧ z ≤ 2147483647) := by
  refine calls_by [(0, (2, (Ad E 1))), (1, (0, w))] rfl rfl (Nat.le_of_ble_eq_true rfl) (fun X hX => ?_)
  have hP := hPX12_fault
  refine r_ex hX hP 2 (pc' := 2) (st' := [(0, 0), (2, (Ad E 1))]) (lo' := [(0, (2, (Ad E 1))), (1, (0, w))]) rfl ?_
  refine r_putIK hX hP rfl fp_12_304 hS (by omega) (by omega) (fun h1 => ?_)
  refine r_ex hX hP 1 (pc' := 6) (st' := [(0, w)]) (lo' := [(0, (2, (Ad E 1))), (1, (0, w))]) rfl ?_
  refine r_if_ne hX hP rfl (tgt := 16) rfl (by omega) (by omega) (fun c2 => ?_) (fun c2 => ?_)
  · skip
    refine r_ex hX hP 2 (pc' := 18) (st' := [(0, 1), (0, w)]) (lo' := [(0, (2, (Ad E 1))), (1, (0, w))]) rfl ?_
    refine r_ic_ne hX hP rfl (tgt := 28) rfl (by omega) (by omega) (by omega) (by omega) (fun c3 => ?_) (fun c3 => ?_)
    · skip
      refine r_ex hX hP 1 (pc' := 29) (st' := [(0, (-1))]) (lo' := [(0, (2, (Ad E 1))), (1, (0, w))]) rfl ?_
      exact r_retI hX hP rfl rfl (by omega) (by omega) ⟨rfl, ⟨_, (hq_up (hq_refl _ _ _) rfl).symm⟩, (-1), rfl, (by omega)⟩
    · skip
      refine r_ex hX hP 1 (pc' := 22) (st' := [(2, (Ad E 1))]) (lo' := [(0, (2, (Ad E 1))), (1, (0, w))]) rfl ?_
      refine r_getI hX hP rfl fl_12_207 hS (fun ff4 ff4e ff4a ff4b => ?_)
      refine r_ex hX hP 1 (pc' := 29) (st' := [(0, ff4)]) (lo' := [(0, (2, (Ad E 1))), (1, (0, w))]) rfl ?_
      exact r_retI hX hP rfl rfl (by omega) (by omega) ⟨rfl, ⟨_, (hq_up (hq_refl _ _ _) rfl).symm⟩, ff4, rfl, (by omega)⟩
  · skip
    refine r_ex hX hP 1 (pc' := 10) (st' := [(2, (Ad E 1))]) (lo' := [(0, (2, (Ad E 1))), (1, (0, w))]) rfl ?_
    refine r_getI hX hP rfl fl_12_204 hS (fun ff5 ff5e ff5a ff5b => ?_)
    refine r_ex hX hP 1 (pc' := 29) (st' := [(0, ff5)]) (lo' := [(0, (2, (Ad E 1))), (1, (0, w))]) rfl ?_
    exact r_retI hX hP rfl rfl (by omega) (by omega) ⟨rfl, ⟨_, (hq_up (hq_refl _ _ _) rfl).symm⟩, ff5, rfl, (by omega)⟩
set_option maxRecDepth 100000 in
set_option maxHeartbeats 4000000 in
theorem c_X12_isEvent (E : En) (S : Sg) (G : Gh) (v : Int) (hS : S (Ad E 1) = 1) (events : Int) (events_e : events = G 1 (Ad E 1) 9) (v_a : (-2147483648) ≤ v) (v_b : v ≤ 2147483647) : Calls E mX12_isEvent [(2, (Ad E 1)), (0, v)] S G 1 0 0 (fun r S' G' => S = S' ∧ G = G' ∧ ∃ z : Int, r = some (0, z) ∧ ((z = 1 ∧ 0 ≤ v ∧ v < events) ∨ (z = 0 ∧ (v < 0 ∨ events ≤ v)))) := by
  refine calls_by [(0, (2, (Ad E 1))), (1, (0, v))] rfl rfl (Nat.le_of_ble_eq_true rfl) (fun X hX => ?_)
  have hP := hPX12_isEvent
  refine r_peekI hX (tl1 9 rfl (by decide)) hS (fun events_o events_oe events_oa events_ob => ?_)
  obtain rfl : events = events_o := events_e.trans events_oe.symm
  refine r_ex hX hP 3 (pc' := 3) (st' := [(2, (Ad E 1)), (0, 0), (0, v)]) (lo' := [(0, (2, (Ad E 1))), (1, (0, v))]) rfl ?_
  refine r_getKI hX hP rfl fl_12_490 hS (x := events) events_e ?_
  refine r_ex hX hP 2 (pc' := 8) (st' := [(0, (events - 1)), (0, 0), (0, v)]) (lo' := [(0, (2, (Ad E 1))), (1, (0, v))]) rfl ?_
  refine r_callS gd hX hP rfl cs_12_310 (d' := 0) (mc' := 0) (ms' := 0) (as' := [(0, v), (0, 0), (0, (events - 1))]) (st := []) (by omega) (by omega) (by omega) rfl rfl (Nat.le_of_ble_eq_true rfl) (c_X12_isIn E S G v 0 (events - 1) (by omega) (by omega) (by omega) (by omega) (by omega) (by omega)) ?_
  rintro _ _ _ ⟨rfl, rfl, z1, rfl, (⟨rfl, f2, f3⟩ | ⟨rfl, f4⟩)⟩
  · skip
    exact r_retZ hX hP rfl rfl (by omega) (by omega) (by omega) (by omega) ⟨rfl, rfl, 1, rfl, (by omega)⟩
  · skip
    exact r_retZ hX hP rfl rfl (by omega) (by omega) (by omega) (by omega) ⟨rfl, rfl, 0, rfl, (by omega)⟩
set_option maxRecDepth 100000 in
set_option maxHeartbeats 4000000 in
theorem c_X12_isTrade (E : En) (S : Sg) (G : Gh) (v : Int) (hS : S (Ad E 1) = 1) (trades : Int) (trades_e : trades = G 1 (Ad E 1) 8) (v_a : (-2147483648) ≤ v) (v_b : v ≤ 2147483647) : Calls E mX12_isTrade [(2, (Ad E 1)), (0, v)] S G 1 0 0 (fun r S' G' => S = S' ∧ G = G' ∧ ∃ z : Int, r = some (0, z) ∧ ((z = 1 ∧ 0 ≤ v ∧ v < trades) ∨ (z = 0 ∧ (v < 0 ∨ trades ≤ v)))) := by
  refine calls_by [(0, (2, (Ad E 1))), (1, (0, v))] rfl rfl (Nat.le_of_ble_eq_true rfl) (fun X hX => ?_)
  have hP := hPX12_isTrade
  refine r_peekI hX (tl1 8 rfl (by decide)) hS (fun trades_o trades_oe trades_oa trades_ob => ?_)
  obtain rfl : trades = trades_o := trades_e.trans trades_oe.symm
  refine r_ex hX hP 3 (pc' := 3) (st' := [(2, (Ad E 1)), (0, 0), (0, v)]) (lo' := [(0, (2, (Ad E 1))), (1, (0, v))]) rfl ?_
  refine r_getKI hX hP rfl fl_12_342 hS (x := trades) trades_e ?_
  refine r_ex hX hP 2 (pc' := 8) (st' := [(0, (trades - 1)), (0, 0), (0, v)]) (lo' := [(0, (2, (Ad E 1))), (1, (0, v))]) rfl ?_
  refine r_callS gd hX hP rfl cs_12_310 (d' := 0) (mc' := 0) (ms' := 0) (as' := [(0, v), (0, 0), (0, (trades - 1))]) (st := []) (by omega) (by omega) (by omega) rfl rfl (Nat.le_of_ble_eq_true rfl) (c_X12_isIn E S G v 0 (trades - 1) (by omega) (by omega) (by omega) (by omega) (by omega) (by omega)) ?_
  rintro _ _ _ ⟨rfl, rfl, z1, rfl, (⟨rfl, f2, f3⟩ | ⟨rfl, f4⟩)⟩
  · skip
    exact r_retZ hX hP rfl rfl (by omega) (by omega) (by omega) (by omega) ⟨rfl, rfl, 1, rfl, (by omega)⟩
  · skip
    exact r_retZ hX hP rfl rfl (by omega) (by omega) (by omega) (by omega) ⟨rfl, rfl, 0, rfl, (by omega)⟩
set_option maxRecDepth 100000 in
set_option maxHeartbeats 4000000 in
theorem c_X12_choices (E : En) (S : Sg) (G : Gh) (e : Int) (hS : S (Ad E 1) = 1) (e_a : (-2147483648) ≤ e) (e_b : e ≤ 2147483647) : Calls E mX12_choices [(2, (Ad E 1)), (0, e)] S G 2 0 0 (fun r S' G' => S = S' ∧ (∃ G1, hv [0, 1] [] G G1 = G') ∧ ∃ z : Int, r = some (0, z) ∧ (-2147483648) ≤ z ∧ z ≤ 2147483647) := by
  refine calls_by [(0, (2, (Ad E 1))), (1, (0, e))] rfl rfl (Nat.le_of_ble_eq_true rfl) (fun X hX => ?_)
  have hP := hPX12_choices
  refine r_ex hX hP 2 (pc' := 2) (st' := [(0, 0), (2, (Ad E 1))]) (lo' := [(0, (2, (Ad E 1))), (1, (0, e))]) rfl ?_
  refine r_putIK hX hP rfl fp_12_304 hS (by omega) (by omega) (fun h1 => ?_)
  refine r_ex hX hP 2 (pc' := 7) (st' := [(0, 0), (2, (Ad E 1))]) (lo' := [(0, (2, (Ad E 1))), (1, (0, e))]) rfl ?_
  refine r_putIK hX hP rfl fp_12_307 hS (by omega) (by omega) (fun h2 => ?_)
  refine r_ex hX hP 2 (pc' := 12) (st' := [(0, e), (2, (Ad E 1))]) (lo' := [(0, (2, (Ad E 1))), (1, (0, e))]) rfl ?_
  refine r_peekI hX (tl1 9 rfl (by decide)) hS (fun evp3 evp3e evp3a evp3b => ?_)
  refine r_callV gd hX hP rfl cv_12_493 hS (d' := 1) (mc' := 0) (ms' := 0) (as' := [(0, e)]) (st := []) (by omega) (by omega) (by omega) rfl rfl (Nat.le_of_ble_eq_true rfl) (c_X12_isEvent E S (up (up G 1 (Ad E 1) 1 0) 1 (Ad E 1) 0 0) e hS evp3 evp3e (by omega) (by omega)) ?_
  rintro _ _ _ ⟨rfl, rfl, z4, rfl, (⟨rfl, f5, f6⟩ | ⟨rfl, f7⟩)⟩
  · skip
    refine r_if_eq hX hP rfl (tgt := 27) rfl (by omega) (by omega) (fun c8 => ?_) (fun c8 => ?_)
    · skip
      exfalso; omega
    · skip
      refine r_ex hX hP 1 (pc' := 19) (st' := [(2, (Ad E 1))]) (lo' := [(0, (2, (Ad E 1))), (1, (0, e))]) rfl ?_
      refine r_getC hX hP rfl fl_12_95 hS (fun s9 => ?_)
      refine r_ex hX hP 1 (pc' := 23) (st' := [(0, e), (2, (Ad E 27))]) (lo' := [(0, (2, (Ad E 1))), (1, (0, e))]) rfl ?_
      refine r_iald hX hP rfl al_27 s9 (by omega) (by omega) (fun x10 x10e x10a x10b => ?_)
      refine r_ex hX hP 1 (pc' := 32) (st' := [(0, x10)]) (lo' := [(0, (2, (Ad E 1))), (1, (0, e))]) rfl ?_
      exact r_retI hX hP rfl rfl (by omega) (by omega) ⟨rfl, ⟨_, (hq_up (hq_up (hq_refl _ _ _) rfl) rfl).symm⟩, x10, rfl, (by omega)⟩
  · skip
    refine r_if_eq hX hP rfl (tgt := 27) rfl (by omega) (by omega) (fun c11 => ?_) (fun c11 => ?_)
    · skip
      refine r_ex hX hP 2 (pc' := 29) (st' := [(0, 1), (2, (Ad E 1))]) (lo' := [(0, (2, (Ad E 1))), (1, (0, e))]) rfl ?_
      refine r_callV gd hX hP rfl cv_12_327 hS (d' := 0) (mc' := 0) (ms' := 0) (as' := [(0, 1)]) (st := []) (by omega) (by omega) (by omega) rfl rfl (Nat.le_of_ble_eq_true rfl) (c_X12_refuse E S (up (up G 1 (Ad E 1) 1 0) 1 (Ad E 1) 0 0) 1 hS (by omega) (by omega)) ?_
      rintro _ _ _ ⟨rfl, ⟨G12, rfl⟩, z13, rfl, rfl⟩
      exact r_retI hX hP rfl rfl (by omega) (by omega) ⟨rfl, ⟨_, (hq_call (hq_up (hq_up (hq_refl _ _ _) rfl) rfl) rfl).symm⟩, (-1), rfl, (by omega)⟩
    · skip
      exfalso; omega
set_option maxRecDepth 100000 in
set_option maxHeartbeats 4000000 in
theorem c_X12_strike (E : En) (S : Sg) (G : Gh) (w i k : Int) (hS : S (Ad E 1) = 1) (w_a : (-2147483648) ≤ w) (w_b : w ≤ 2147483647) (i_a : (-2147483648) ≤ i) (i_b : i ≤ 2147483647) (k_a : (-2147483648) ≤ k) (k_b : k ≤ 2147483647) : Calls E mX12_strike [(2, (Ad E 1)), (0, w), (0, i), (0, k)] S G 2 0 0 (fun r S' G' => S = S' ∧ (∃ G1, hv [0, 1, 3] [18, 25, 43] G G1 = G') ∧ ∃ z : Int, r = some (0, z) ∧ 0 ≤ z ∧ z ≤ 1) := by
  refine calls_by [(0, (2, (Ad E 1))), (1, (0, w)), (2, (0, i)), (3, (0, k))] rfl rfl (Nat.le_of_ble_eq_true rfl) (fun X hX => ?_)
  have hP := hPX12_strike
  refine r_ex hX hP 2 (pc' := 2) (st' := [(0, 0), (2, (Ad E 1))]) (lo' := [(0, (2, (Ad E 1))), (1, (0, w)), (2, (0, i)), (3, (0, k))]) rfl ?_
  refine r_putIK hX hP rfl fp_12_304 hS (by omega) (by omega) (fun h1 => ?_)
  refine r_ex hX hP 2 (pc' := 7) (st' := [(0, 0), (2, (Ad E 1))]) (lo' := [(0, (2, (Ad E 1))), (1, (0, w)), (2, (0, i)), (3, (0, k))]) rfl ?_
  refine r_putIK hX hP rfl fp_12_307 hS (by omega) (by omega) (fun h2 => ?_)
  refine r_ex hX hP 1 (pc' := 11) (st' := [(0, w)]) (lo' := [(0, (2, (Ad E 1))), (1, (0, w)), (2, (0, i)), (3, (0, k))]) rfl ?_
  refine r_if_ne hX hP rfl (tgt := 21) rfl (by omega) (by omega) (fun c3 => ?_) (fun c3 => ?_)
  · skip
    refine r_ex hX hP 2 (pc' := 23) (st' := [(0, 1), (0, w)]) (lo' := [(0, (2, (Ad E 1))), (1, (0, w)), (2, (0, i)), (3, (0, k))]) rfl ?_
    refine r_ic_ne hX hP rfl (tgt := 33) rfl (by omega) (by omega) (by omega) (by omega) (fun c4 => ?_) (fun c4 => ?_)
    · skip
      refine r_ex hX hP 1 (pc' := 34) (st' := [(2, (Ad E 1))]) (lo' := [(0, (2, (Ad E 1))), (1, (0, w)), (2, (0, i)), (3, (0, k))]) rfl ?_
      refine r_getC hX hP rfl fl_12_143 hS (fun s5 => ?_)
      refine r_ex hX hP 2 (pc' := 40) (st' := [(0, w)]) (lo' := [(0, (2, (Ad E 1))), (1, (0, w)), (2, (0, i)), (3, (0, k)), (4, (2, (Ad E 43)))]) rfl ?_
      refine r_if_ne hX hP rfl (tgt := 50) rfl (by omega) (by omega) (fun c6 => ?_) (fun c6 => ?_)
      · skip
        refine r_ex hX hP 2 (pc' := 52) (st' := [(0, 1), (0, w)]) (lo' := [(0, (2, (Ad E 1))), (1, (0, w)), (2, (0, i)), (3, (0, k)), (4, (2, (Ad E 43)))]) rfl ?_
        refine r_ic_ne hX hP rfl (tgt := 62) rfl (by omega) (by omega) (by omega) (by omega) (fun c7 => ?_) (fun c7 => ?_)
        · skip
          refine r_ex hX hP 1 (pc' := 63) (st' := [(2, (Ad E 1))]) (lo' := [(0, (2, (Ad E 1))), (1, (0, w)), (2, (0, i)), (3, (0, k)), (4, (2, (Ad E 43)))]) rfl ?_
          refine r_getI hX hP rfl fl_12_496 hS (fun sf8 sf8e sf8a sf8b => ?_)
          refine r_ex hX hP 4 (pc' := 71) (st' := [(0, 2), (0, 0), (0, w)]) (lo' := [(0, (2, (Ad E 1))), (1, (0, w)), (2, (0, i)), (3, (0, k)), (4, (2, (Ad E 43))), (5, (0, sf8))]) rfl ?_
          refine r_callS gd hX hP rfl cs_12_310 (d' := 0) (mc' := 0) (ms' := 0) (as' := [(0, w), (0, 0), (0, 2)]) (st := []) (by omega) (by omega) (by omega) rfl rfl (Nat.le_of_ble_eq_true rfl) (c_X12_isIn E S (up (up G 1 (Ad E 1) 1 0) 1 (Ad E 1) 0 0) w 0 2 (by omega) (by omega) (by omega) (by omega) (by omega) (by omega)) ?_
          rintro _ _ _ ⟨rfl, rfl, z9, rfl, (⟨rfl, f10, f11⟩ | ⟨rfl, f12⟩)⟩
          · skip
            refine r_if_eq hX hP rfl (tgt := 95) rfl (by omega) (by omega) (fun c13 => ?_) (fun c13 => ?_)
            · skip
              exfalso; omega
            · skip
              refine r_ex hX hP 5 (pc' := 83) (st' := [(0, (sf8 - 1)), (0, 0), (0, i)]) (lo' := [(0, (2, (Ad E 1))), (1, (0, w)), (2, (0, i)), (3, (0, k)), (4, (2, (Ad E 43))), (5, (0, sf8))]) rfl ?_
              refine r_callS gd hX hP rfl cs_12_310 (d' := 0) (mc' := 0) (ms' := 0) (as' := [(0, i), (0, 0), (0, (sf8 - 1))]) (st := []) (by omega) (by omega) (by omega) rfl rfl (Nat.le_of_ble_eq_true rfl) (c_X12_isIn E S (up (up G 1 (Ad E 1) 1 0) 1 (Ad E 1) 0 0) i 0 (sf8 - 1) (by omega) (by omega) (by omega) (by omega) (by omega) (by omega)) ?_
              rintro _ _ _ ⟨rfl, rfl, z14, rfl, (⟨rfl, f15, f16⟩ | ⟨rfl, f17⟩)⟩
              · skip
                refine r_if_ne hX hP rfl (tgt := 95) rfl (by omega) (by omega) (fun c18 => ?_) (fun c18 => ?_)
                · skip
                  refine r_ex hX hP 3 (pc' := 98) (st' := [(0, 2), (0, 0), (0, w)]) (lo' := [(0, (2, (Ad E 1))), (1, (0, w)), (2, (0, i)), (3, (0, k)), (4, (2, (Ad E 43))), (5, (0, sf8))]) rfl ?_
                  refine r_callS gd hX hP rfl cs_12_310 (d' := 0) (mc' := 0) (ms' := 0) (as' := [(0, w), (0, 0), (0, 2)]) (st := []) (by omega) (by omega) (by omega) rfl rfl (Nat.le_of_ble_eq_true rfl) (c_X12_isIn E S (up (up G 1 (Ad E 1) 1 0) 1 (Ad E 1) 0 0) w 0 2 (by omega) (by omega) (by omega) (by omega) (by omega) (by omega)) ?_
                  rintro _ _ _ ⟨rfl, rfl, z19, rfl, (⟨rfl, f20, f21⟩ | ⟨rfl, f22⟩)⟩
                  · skip
                    refine r_if_eq hX hP rfl (tgt := 111) rfl (by omega) (by omega) (fun c23 => ?_) (fun c23 => ?_)
                    · skip
                      exfalso; omega
                    · skip
                      refine r_ex hX hP 1 (pc' := 105) (st' := [(0, k)]) (lo' := [(0, (2, (Ad E 1))), (1, (0, w)), (2, (0, i)), (3, (0, k)), (4, (2, (Ad E 43))), (5, (0, sf8))]) rfl ?_
                      refine r_callS gd hX hP rfl cs_12_317 (d' := 1) (mc' := 0) (ms' := 0) (as' := [(0, k)]) (st := []) (by omega) (by omega) (by omega) rfl rfl (Nat.le_of_ble_eq_true rfl) (c_X12_isDay E S (up (up G 1 (Ad E 1) 1 0) 1 (Ad E 1) 0 0) k (by omega) (by omega)) ?_
                      rintro _ _ _ ⟨rfl, rfl, z24, rfl, (⟨rfl, f25, f26⟩ | ⟨rfl, f27⟩)⟩
                      · skip
                        refine r_if_ne hX hP rfl (tgt := 117) rfl (by omega) (by omega) (fun c28 => ?_) (fun c28 => ?_)
                        · skip
                          refine r_ex hX hP 2 (pc' := 119) (st' := [(2, (Ad E 1)), (0, k)]) (lo' := [(0, (2, (Ad E 1))), (1, (0, w)), (2, (0, i)), (3, (0, k)), (4, (2, (Ad E 43))), (5, (0, sf8))]) rfl ?_
                          refine r_getI hX hP rfl fl_12_339 hS (fun lf29 lf29e lf29a lf29b => ?_)
                          refine r_ic_lt hX hP rfl (tgt := 135) rfl (by omega) (by omega) (by omega) (by omega) (fun c30 => ?_) (fun c30 => ?_)
                          · skip
                            refine r_ex hX hP 2 (pc' := 137) (st' := [(0, 4), (2, (Ad E 1))]) (lo' := [(0, (2, (Ad E 1))), (1, (0, w)), (2, (0, i)), (3, (0, k)), (4, (2, (Ad E 43))), (5, (0, sf8))]) rfl ?_
                            refine r_callV gd hX hP rfl cv_12_321 hS (d' := 0) (mc' := 0) (ms' := 0) (as' := [(0, 4)]) (st := []) (by omega) (by omega) (by omega) rfl rfl (Nat.le_of_ble_eq_true rfl) (c_X12_no E S (up (up G 1 (Ad E 1) 1 0) 1 (Ad E 1) 0 0) 4 hS (by omega) (by omega)) ?_
                            rintro _ _ _ ⟨rfl, ⟨G31, rfl⟩, z32, rfl, rfl⟩
                            exact r_retZ hX hP rfl rfl (by omega) (by omega) (by omega) (by omega) ⟨rfl, ⟨_, (hq_call (hq_up (hq_up (hq_refl _ _ _) rfl) rfl) rfl).symm⟩, 0, rfl, (by omega)⟩
                          · skip
                            refine r_ex hX hP 2 (pc' := 128) (st' := [(0, i), (2, (Ad E 43))]) (lo' := [(0, (2, (Ad E 1))), (1, (0, w)), (2, (0, i)), (3, (0, k)), (4, (2, (Ad E 43))), (5, (0, sf8))]) rfl ?_
                            refine r_iald hX hP rfl al_43 s5 (by omega) (by omega) (fun x33 x33e x33a x33b => ?_)
                            refine r_ldcw hX hP rfl (v := 1000000000) (tbg sg9 109 rfl rfl) ?_
                            refine r_ic_ge hX hP rfl (tgt := 141) rfl (by omega) (by omega) (by omega) (by omega) (fun c34 => ?_) (fun c34 => ?_)
                            · skip
                              refine r_ex hX hP 3 (pc' := 145) (st' := [(0, k), (0, i), (2, (Ad E 43))]) (lo' := [(0, (2, (Ad E 1))), (1, (0, w)), (2, (0, i)), (3, (0, k)), (4, (2, (Ad E 43))), (5, (0, sf8))]) rfl ?_
                              refine r_iastK hX hP rfl al_43 s5 (by omega) (by omega) (by omega) (by omega) (fun h35 => ?_)
                              refine r_ex hX hP 2 (pc' := 148) (st' := [(0, k), (2, (Ad E 1))]) (lo' := [(0, (2, (Ad E 1))), (1, (0, w)), (2, (0, i)), (3, (0, k)), (4, (2, (Ad E 43))), (5, (0, sf8))]) rfl ?_
                              refine r_putIK hX hP rfl fp_12_339 hS (by omega) (by omega) (fun h36 => ?_)
                              refine r_ex hX hP 1 (pc' := 152) (st' := [(0, 1)]) (lo' := [(0, (2, (Ad E 1))), (1, (0, w)), (2, (0, i)), (3, (0, k)), (4, (2, (Ad E 43))), (5, (0, sf8))]) rfl ?_
                              exact r_retZ hX hP rfl rfl (by omega) (by omega) (by omega) (by omega) ⟨rfl, ⟨_, (hq_up (hq_up (hq_up (hq_up (hq_refl _ _ _) rfl) rfl) rfl) rfl).symm⟩, 1, rfl, (by omega)⟩
                            · skip
                              refine r_ex hX hP 2 (pc' := 137) (st' := [(0, 4), (2, (Ad E 1))]) (lo' := [(0, (2, (Ad E 1))), (1, (0, w)), (2, (0, i)), (3, (0, k)), (4, (2, (Ad E 43))), (5, (0, sf8))]) rfl ?_
                              refine r_callV gd hX hP rfl cv_12_321 hS (d' := 0) (mc' := 0) (ms' := 0) (as' := [(0, 4)]) (st := []) (by omega) (by omega) (by omega) rfl rfl (Nat.le_of_ble_eq_true rfl) (c_X12_no E S (up (up G 1 (Ad E 1) 1 0) 1 (Ad E 1) 0 0) 4 hS (by omega) (by omega)) ?_
                              rintro _ _ _ ⟨rfl, ⟨G37, rfl⟩, z38, rfl, rfl⟩
                              exact r_retZ hX hP rfl rfl (by omega) (by omega) (by omega) (by omega) ⟨rfl, ⟨_, (hq_call (hq_up (hq_up (hq_refl _ _ _) rfl) rfl) rfl).symm⟩, 0, rfl, (by omega)⟩
                        · skip
                          exfalso; omega
                      · skip
                        refine r_if_ne hX hP rfl (tgt := 117) rfl (by omega) (by omega) (fun c39 => ?_) (fun c39 => ?_)
                        · skip
                          exfalso; omega
                        · skip
                          refine r_ex hX hP 2 (pc' := 113) (st' := [(0, 2), (2, (Ad E 1))]) (lo' := [(0, (2, (Ad E 1))), (1, (0, w)), (2, (0, i)), (3, (0, k)), (4, (2, (Ad E 43))), (5, (0, sf8))]) rfl ?_
                          refine r_callV gd hX hP rfl cv_12_321 hS (d' := 0) (mc' := 0) (ms' := 0) (as' := [(0, 2)]) (st := []) (by omega) (by omega) (by omega) rfl rfl (Nat.le_of_ble_eq_true rfl) (c_X12_no E S (up (up G 1 (Ad E 1) 1 0) 1 (Ad E 1) 0 0) 2 hS (by omega) (by omega)) ?_
                          rintro _ _ _ ⟨rfl, ⟨G40, rfl⟩, z41, rfl, rfl⟩
                          exact r_retZ hX hP rfl rfl (by omega) (by omega) (by omega) (by omega) ⟨rfl, ⟨_, (hq_call (hq_up (hq_up (hq_refl _ _ _) rfl) rfl) rfl).symm⟩, 0, rfl, (by omega)⟩
                  · skip
                    refine r_if_eq hX hP rfl (tgt := 111) rfl (by omega) (by omega) (fun c42 => ?_) (fun c42 => ?_)
                    · skip
                      refine r_ex hX hP 2 (pc' := 113) (st' := [(0, 2), (2, (Ad E 1))]) (lo' := [(0, (2, (Ad E 1))), (1, (0, w)), (2, (0, i)), (3, (0, k)), (4, (2, (Ad E 43))), (5, (0, sf8))]) rfl ?_
                      refine r_callV gd hX hP rfl cv_12_321 hS (d' := 0) (mc' := 0) (ms' := 0) (as' := [(0, 2)]) (st := []) (by omega) (by omega) (by omega) rfl rfl (Nat.le_of_ble_eq_true rfl) (c_X12_no E S (up (up G 1 (Ad E 1) 1 0) 1 (Ad E 1) 0 0) 2 hS (by omega) (by omega)) ?_
                      rintro _ _ _ ⟨rfl, ⟨G43, rfl⟩, z44, rfl, rfl⟩
                      exact r_retZ hX hP rfl rfl (by omega) (by omega) (by omega) (by omega) ⟨rfl, ⟨_, (hq_call (hq_up (hq_up (hq_refl _ _ _) rfl) rfl) rfl).symm⟩, 0, rfl, (by omega)⟩
                    · skip
                      exfalso; omega
                · skip
                  exfalso; omega
              · skip
                refine r_if_ne hX hP rfl (tgt := 95) rfl (by omega) (by omega) (fun c45 => ?_) (fun c45 => ?_)
                · skip
                  exfalso; omega
                · skip
                  refine r_ex hX hP 2 (pc' := 91) (st' := [(0, 1), (2, (Ad E 1))]) (lo' := [(0, (2, (Ad E 1))), (1, (0, w)), (2, (0, i)), (3, (0, k)), (4, (2, (Ad E 43))), (5, (0, sf8))]) rfl ?_
                  refine r_callV gd hX hP rfl cv_12_321 hS (d' := 0) (mc' := 0) (ms' := 0) (as' := [(0, 1)]) (st := []) (by omega) (by omega) (by omega) rfl rfl (Nat.le_of_ble_eq_true rfl) (c_X12_no E S (up (up G 1 (Ad E 1) 1 0) 1 (Ad E 1) 0 0) 1 hS (by omega) (by omega)) ?_
                  rintro _ _ _ ⟨rfl, ⟨G46, rfl⟩, z47, rfl, rfl⟩
                  exact r_retZ hX hP rfl rfl (by omega) (by omega) (by omega) (by omega) ⟨rfl, ⟨_, (hq_call (hq_up (hq_up (hq_refl _ _ _) rfl) rfl) rfl).symm⟩, 0, rfl, (by omega)⟩
          · skip
            refine r_if_eq hX hP rfl (tgt := 95) rfl (by omega) (by omega) (fun c48 => ?_) (fun c48 => ?_)
            · skip
              refine r_ex hX hP 3 (pc' := 98) (st' := [(0, 2), (0, 0), (0, w)]) (lo' := [(0, (2, (Ad E 1))), (1, (0, w)), (2, (0, i)), (3, (0, k)), (4, (2, (Ad E 43))), (5, (0, sf8))]) rfl ?_
              refine r_callS gd hX hP rfl cs_12_310 (d' := 0) (mc' := 0) (ms' := 0) (as' := [(0, w), (0, 0), (0, 2)]) (st := []) (by omega) (by omega) (by omega) rfl rfl (Nat.le_of_ble_eq_true rfl) (c_X12_isIn E S (up (up G 1 (Ad E 1) 1 0) 1 (Ad E 1) 0 0) w 0 2 (by omega) (by omega) (by omega) (by omega) (by omega) (by omega)) ?_
              rintro _ _ _ ⟨rfl, rfl, z49, rfl, (⟨rfl, f50, f51⟩ | ⟨rfl, f52⟩)⟩
              · skip
                refine r_if_eq hX hP rfl (tgt := 111) rfl (by omega) (by omega) (fun c53 => ?_) (fun c53 => ?_)
                · skip
                  exfalso; omega
                · skip
                  refine r_ex hX hP 1 (pc' := 105) (st' := [(0, k)]) (lo' := [(0, (2, (Ad E 1))), (1, (0, w)), (2, (0, i)), (3, (0, k)), (4, (2, (Ad E 43))), (5, (0, sf8))]) rfl ?_
                  refine r_callS gd hX hP rfl cs_12_317 (d' := 1) (mc' := 0) (ms' := 0) (as' := [(0, k)]) (st := []) (by omega) (by omega) (by omega) rfl rfl (Nat.le_of_ble_eq_true rfl) (c_X12_isDay E S (up (up G 1 (Ad E 1) 1 0) 1 (Ad E 1) 0 0) k (by omega) (by omega)) ?_
                  rintro _ _ _ ⟨rfl, rfl, z54, rfl, (⟨rfl, f55, f56⟩ | ⟨rfl, f57⟩)⟩
                  · skip
                    refine r_if_ne hX hP rfl (tgt := 117) rfl (by omega) (by omega) (fun c58 => ?_) (fun c58 => ?_)
                    · skip
                      refine r_ex hX hP 2 (pc' := 119) (st' := [(2, (Ad E 1)), (0, k)]) (lo' := [(0, (2, (Ad E 1))), (1, (0, w)), (2, (0, i)), (3, (0, k)), (4, (2, (Ad E 43))), (5, (0, sf8))]) rfl ?_
                      refine r_getI hX hP rfl fl_12_339 hS (fun lf59 lf59e lf59a lf59b => ?_)
                      refine r_ic_lt hX hP rfl (tgt := 135) rfl (by omega) (by omega) (by omega) (by omega) (fun c60 => ?_) (fun c60 => ?_)
                      · skip
                        refine r_ex hX hP 2 (pc' := 137) (st' := [(0, 4), (2, (Ad E 1))]) (lo' := [(0, (2, (Ad E 1))), (1, (0, w)), (2, (0, i)), (3, (0, k)), (4, (2, (Ad E 43))), (5, (0, sf8))]) rfl ?_
                        refine r_callV gd hX hP rfl cv_12_321 hS (d' := 0) (mc' := 0) (ms' := 0) (as' := [(0, 4)]) (st := []) (by omega) (by omega) (by omega) rfl rfl (Nat.le_of_ble_eq_true rfl) (c_X12_no E S (up (up G 1 (Ad E 1) 1 0) 1 (Ad E 1) 0 0) 4 hS (by omega) (by omega)) ?_
                        rintro _ _ _ ⟨rfl, ⟨G61, rfl⟩, z62, rfl, rfl⟩
                        exact r_retZ hX hP rfl rfl (by omega) (by omega) (by omega) (by omega) ⟨rfl, ⟨_, (hq_call (hq_up (hq_up (hq_refl _ _ _) rfl) rfl) rfl).symm⟩, 0, rfl, (by omega)⟩
                      · skip
                        refine r_ex hX hP 2 (pc' := 128) (st' := [(0, i), (2, (Ad E 43))]) (lo' := [(0, (2, (Ad E 1))), (1, (0, w)), (2, (0, i)), (3, (0, k)), (4, (2, (Ad E 43))), (5, (0, sf8))]) rfl ?_
                        refine r_iald hX hP rfl al_43 s5 (by omega) (by omega) (fun x63 x63e x63a x63b => ?_)
                        refine r_ldcw hX hP rfl (v := 1000000000) (tbg sg9 109 rfl rfl) ?_
                        refine r_ic_ge hX hP rfl (tgt := 141) rfl (by omega) (by omega) (by omega) (by omega) (fun c64 => ?_) (fun c64 => ?_)
                        · skip
                          refine r_ex hX hP 3 (pc' := 145) (st' := [(0, k), (0, i), (2, (Ad E 43))]) (lo' := [(0, (2, (Ad E 1))), (1, (0, w)), (2, (0, i)), (3, (0, k)), (4, (2, (Ad E 43))), (5, (0, sf8))]) rfl ?_
                          refine r_iastK hX hP rfl al_43 s5 (by omega) (by omega) (by omega) (by omega) (fun h65 => ?_)
                          refine r_ex hX hP 2 (pc' := 148) (st' := [(0, k), (2, (Ad E 1))]) (lo' := [(0, (2, (Ad E 1))), (1, (0, w)), (2, (0, i)), (3, (0, k)), (4, (2, (Ad E 43))), (5, (0, sf8))]) rfl ?_
                          refine r_putIK hX hP rfl fp_12_339 hS (by omega) (by omega) (fun h66 => ?_)
                          refine r_ex hX hP 1 (pc' := 152) (st' := [(0, 1)]) (lo' := [(0, (2, (Ad E 1))), (1, (0, w)), (2, (0, i)), (3, (0, k)), (4, (2, (Ad E 43))), (5, (0, sf8))]) rfl ?_
                          exact r_retZ hX hP rfl rfl (by omega) (by omega) (by omega) (by omega) ⟨rfl, ⟨_, (hq_up (hq_up (hq_up (hq_up (hq_refl _ _ _) rfl) rfl) rfl) rfl).symm⟩, 1, rfl, (by omega)⟩
                        · skip
                          refine r_ex hX hP 2 (pc' := 137) (st' := [(0, 4), (2, (Ad E 1))]) (lo' := [(0, (2, (Ad E 1))), (1, (0, w)), (2, (0, i)), (3, (0, k)), (4, (2, (Ad E 43))), (5, (0, sf8))]) rfl ?_
                          refine r_callV gd hX hP rfl cv_12_321 hS (d' := 0) (mc' := 0) (ms' := 0) (as' := [(0, 4)]) (st := []) (by omega) (by omega) (by omega) rfl rfl (Nat.le_of_ble_eq_true rfl) (c_X12_no E S (up (up G 1 (Ad E 1) 1 0) 1 (Ad E 1) 0 0) 4 hS (by omega) (by omega)) ?_
                          rintro _ _ _ ⟨rfl, ⟨G67, rfl⟩, z68, rfl, rfl⟩
                          exact r_retZ hX hP rfl rfl (by omega) (by omega) (by omega) (by omega) ⟨rfl, ⟨_, (hq_call (hq_up (hq_up (hq_refl _ _ _) rfl) rfl) rfl).symm⟩, 0, rfl, (by omega)⟩
                    · skip
                      exfalso; omega
                  · skip
                    refine r_if_ne hX hP rfl (tgt := 117) rfl (by omega) (by omega) (fun c69 => ?_) (fun c69 => ?_)
                    · skip
                      exfalso; omega
                    · skip
                      refine r_ex hX hP 2 (pc' := 113) (st' := [(0, 2), (2, (Ad E 1))]) (lo' := [(0, (2, (Ad E 1))), (1, (0, w)), (2, (0, i)), (3, (0, k)), (4, (2, (Ad E 43))), (5, (0, sf8))]) rfl ?_
                      refine r_callV gd hX hP rfl cv_12_321 hS (d' := 0) (mc' := 0) (ms' := 0) (as' := [(0, 2)]) (st := []) (by omega) (by omega) (by omega) rfl rfl (Nat.le_of_ble_eq_true rfl) (c_X12_no E S (up (up G 1 (Ad E 1) 1 0) 1 (Ad E 1) 0 0) 2 hS (by omega) (by omega)) ?_
                      rintro _ _ _ ⟨rfl, ⟨G70, rfl⟩, z71, rfl, rfl⟩
                      exact r_retZ hX hP rfl rfl (by omega) (by omega) (by omega) (by omega) ⟨rfl, ⟨_, (hq_call (hq_up (hq_up (hq_refl _ _ _) rfl) rfl) rfl).symm⟩, 0, rfl, (by omega)⟩
              · skip
                refine r_if_eq hX hP rfl (tgt := 111) rfl (by omega) (by omega) (fun c72 => ?_) (fun c72 => ?_)
                · skip
                  refine r_ex hX hP 2 (pc' := 113) (st' := [(0, 2), (2, (Ad E 1))]) (lo' := [(0, (2, (Ad E 1))), (1, (0, w)), (2, (0, i)), (3, (0, k)), (4, (2, (Ad E 43))), (5, (0, sf8))]) rfl ?_
                  refine r_callV gd hX hP rfl cv_12_321 hS (d' := 0) (mc' := 0) (ms' := 0) (as' := [(0, 2)]) (st := []) (by omega) (by omega) (by omega) rfl rfl (Nat.le_of_ble_eq_true rfl) (c_X12_no E S (up (up G 1 (Ad E 1) 1 0) 1 (Ad E 1) 0 0) 2 hS (by omega) (by omega)) ?_
                  rintro _ _ _ ⟨rfl, ⟨G73, rfl⟩, z74, rfl, rfl⟩
                  exact r_retZ hX hP rfl rfl (by omega) (by omega) (by omega) (by omega) ⟨rfl, ⟨_, (hq_call (hq_up (hq_up (hq_refl _ _ _) rfl) rfl) rfl).symm⟩, 0, rfl, (by omega)⟩
                · skip
                  exfalso; omega
            · skip
              exfalso; omega
        · skip
          refine r_ex hX hP 1 (pc' := 56) (st' := [(2, (Ad E 1))]) (lo' := [(0, (2, (Ad E 1))), (1, (0, w)), (2, (0, i)), (3, (0, k)), (4, (2, (Ad E 43)))]) rfl ?_
          refine r_getI hX hP rfl fl_12_490 hS (fun ef75 ef75e ef75a ef75b => ?_)
          refine r_ex hX hP 5 (pc' := 71) (st' := [(0, 2), (0, 0), (0, w)]) (lo' := [(0, (2, (Ad E 1))), (1, (0, w)), (2, (0, i)), (3, (0, k)), (4, (2, (Ad E 43))), (5, (0, ef75))]) rfl ?_
          refine r_callS gd hX hP rfl cs_12_310 (d' := 0) (mc' := 0) (ms' := 0) (as' := [(0, w), (0, 0), (0, 2)]) (st := []) (by omega) (by omega) (by omega) rfl rfl (Nat.le_of_ble_eq_true rfl) (c_X12_isIn E S (up (up G 1 (Ad E 1) 1 0) 1 (Ad E 1) 0 0) w 0 2 (by omega) (by omega) (by omega) (by omega) (by omega) (by omega)) ?_
          rintro _ _ _ ⟨rfl, rfl, z76, rfl, (⟨rfl, f77, f78⟩ | ⟨rfl, f79⟩)⟩
          · skip
            refine r_if_eq hX hP rfl (tgt := 95) rfl (by omega) (by omega) (fun c80 => ?_) (fun c80 => ?_)
            · skip
              exfalso; omega
            · skip
              refine r_ex hX hP 5 (pc' := 83) (st' := [(0, (ef75 - 1)), (0, 0), (0, i)]) (lo' := [(0, (2, (Ad E 1))), (1, (0, w)), (2, (0, i)), (3, (0, k)), (4, (2, (Ad E 43))), (5, (0, ef75))]) rfl ?_
              refine r_callS gd hX hP rfl cs_12_310 (d' := 0) (mc' := 0) (ms' := 0) (as' := [(0, i), (0, 0), (0, (ef75 - 1))]) (st := []) (by omega) (by omega) (by omega) rfl rfl (Nat.le_of_ble_eq_true rfl) (c_X12_isIn E S (up (up G 1 (Ad E 1) 1 0) 1 (Ad E 1) 0 0) i 0 (ef75 - 1) (by omega) (by omega) (by omega) (by omega) (by omega) (by omega)) ?_
              rintro _ _ _ ⟨rfl, rfl, z81, rfl, (⟨rfl, f82, f83⟩ | ⟨rfl, f84⟩)⟩
              · skip
                refine r_if_ne hX hP rfl (tgt := 95) rfl (by omega) (by omega) (fun c85 => ?_) (fun c85 => ?_)
                · skip
                  refine r_ex hX hP 3 (pc' := 98) (st' := [(0, 2), (0, 0), (0, w)]) (lo' := [(0, (2, (Ad E 1))), (1, (0, w)), (2, (0, i)), (3, (0, k)), (4, (2, (Ad E 43))), (5, (0, ef75))]) rfl ?_
                  refine r_callS gd hX hP rfl cs_12_310 (d' := 0) (mc' := 0) (ms' := 0) (as' := [(0, w), (0, 0), (0, 2)]) (st := []) (by omega) (by omega) (by omega) rfl rfl (Nat.le_of_ble_eq_true rfl) (c_X12_isIn E S (up (up G 1 (Ad E 1) 1 0) 1 (Ad E 1) 0 0) w 0 2 (by omega) (by omega) (by omega) (by omega) (by omega) (by omega)) ?_
                  rintro _ _ _ ⟨rfl, rfl, z86, rfl, (⟨rfl, f87, f88⟩ | ⟨rfl, f89⟩)⟩
                  · skip
                    refine r_if_eq hX hP rfl (tgt := 111) rfl (by omega) (by omega) (fun c90 => ?_) (fun c90 => ?_)
                    · skip
                      exfalso; omega
                    · skip
                      refine r_ex hX hP 1 (pc' := 105) (st' := [(0, k)]) (lo' := [(0, (2, (Ad E 1))), (1, (0, w)), (2, (0, i)), (3, (0, k)), (4, (2, (Ad E 43))), (5, (0, ef75))]) rfl ?_
                      refine r_callS gd hX hP rfl cs_12_317 (d' := 1) (mc' := 0) (ms' := 0) (as' := [(0, k)]) (st := []) (by omega) (by omega) (by omega) rfl rfl (Nat.le_of_ble_eq_true rfl) (c_X12_isDay E S (up (up G 1 (Ad E 1) 1 0) 1 (Ad E 1) 0 0) k (by omega) (by omega)) ?_
                      rintro _ _ _ ⟨rfl, rfl, z91, rfl, (⟨rfl, f92, f93⟩ | ⟨rfl, f94⟩)⟩
                      · skip
                        refine r_if_ne hX hP rfl (tgt := 117) rfl (by omega) (by omega) (fun c95 => ?_) (fun c95 => ?_)
                        · skip
                          refine r_ex hX hP 2 (pc' := 119) (st' := [(2, (Ad E 1)), (0, k)]) (lo' := [(0, (2, (Ad E 1))), (1, (0, w)), (2, (0, i)), (3, (0, k)), (4, (2, (Ad E 43))), (5, (0, ef75))]) rfl ?_
                          refine r_getI hX hP rfl fl_12_339 hS (fun lf96 lf96e lf96a lf96b => ?_)
                          refine r_ic_lt hX hP rfl (tgt := 135) rfl (by omega) (by omega) (by omega) (by omega) (fun c97 => ?_) (fun c97 => ?_)
                          · skip
                            refine r_ex hX hP 2 (pc' := 137) (st' := [(0, 4), (2, (Ad E 1))]) (lo' := [(0, (2, (Ad E 1))), (1, (0, w)), (2, (0, i)), (3, (0, k)), (4, (2, (Ad E 43))), (5, (0, ef75))]) rfl ?_
                            refine r_callV gd hX hP rfl cv_12_321 hS (d' := 0) (mc' := 0) (ms' := 0) (as' := [(0, 4)]) (st := []) (by omega) (by omega) (by omega) rfl rfl (Nat.le_of_ble_eq_true rfl) (c_X12_no E S (up (up G 1 (Ad E 1) 1 0) 1 (Ad E 1) 0 0) 4 hS (by omega) (by omega)) ?_
                            rintro _ _ _ ⟨rfl, ⟨G98, rfl⟩, z99, rfl, rfl⟩
                            exact r_retZ hX hP rfl rfl (by omega) (by omega) (by omega) (by omega) ⟨rfl, ⟨_, (hq_call (hq_up (hq_up (hq_refl _ _ _) rfl) rfl) rfl).symm⟩, 0, rfl, (by omega)⟩
                          · skip
                            refine r_ex hX hP 2 (pc' := 128) (st' := [(0, i), (2, (Ad E 43))]) (lo' := [(0, (2, (Ad E 1))), (1, (0, w)), (2, (0, i)), (3, (0, k)), (4, (2, (Ad E 43))), (5, (0, ef75))]) rfl ?_
                            refine r_iald hX hP rfl al_43 s5 (by omega) (by omega) (fun x100 x100e x100a x100b => ?_)
                            refine r_ldcw hX hP rfl (v := 1000000000) (tbg sg9 109 rfl rfl) ?_
                            refine r_ic_ge hX hP rfl (tgt := 141) rfl (by omega) (by omega) (by omega) (by omega) (fun c101 => ?_) (fun c101 => ?_)
                            · skip
                              refine r_ex hX hP 3 (pc' := 145) (st' := [(0, k), (0, i), (2, (Ad E 43))]) (lo' := [(0, (2, (Ad E 1))), (1, (0, w)), (2, (0, i)), (3, (0, k)), (4, (2, (Ad E 43))), (5, (0, ef75))]) rfl ?_
                              refine r_iastK hX hP rfl al_43 s5 (by omega) (by omega) (by omega) (by omega) (fun h102 => ?_)
                              refine r_ex hX hP 2 (pc' := 148) (st' := [(0, k), (2, (Ad E 1))]) (lo' := [(0, (2, (Ad E 1))), (1, (0, w)), (2, (0, i)), (3, (0, k)), (4, (2, (Ad E 43))), (5, (0, ef75))]) rfl ?_
                              refine r_putIK hX hP rfl fp_12_339 hS (by omega) (by omega) (fun h103 => ?_)
                              refine r_ex hX hP 1 (pc' := 152) (st' := [(0, 1)]) (lo' := [(0, (2, (Ad E 1))), (1, (0, w)), (2, (0, i)), (3, (0, k)), (4, (2, (Ad E 43))), (5, (0, ef75))]) rfl ?_
                              exact r_retZ hX hP rfl rfl (by omega) (by omega) (by omega) (by omega) ⟨rfl, ⟨_, (hq_up (hq_up (hq_up (hq_up (hq_refl _ _ _) rfl) rfl) rfl) rfl).symm⟩, 1, rfl, (by omega)⟩
                            · skip
                              refine r_ex hX hP 2 (pc' := 137) (st' := [(0, 4), (2, (Ad E 1))]) (lo' := [(0, (2, (Ad E 1))), (1, (0, w)), (2, (0, i)), (3, (0, k)), (4, (2, (Ad E 43))), (5, (0, ef75))]) rfl ?_
                              refine r_callV gd hX hP rfl cv_12_321 hS (d' := 0) (mc' := 0) (ms' := 0) (as' := [(0, 4)]) (st := []) (by omega) (by omega) (by omega) rfl rfl (Nat.le_of_ble_eq_true rfl) (c_X12_no E S (up (up G 1 (Ad E 1) 1 0) 1 (Ad E 1) 0 0) 4 hS (by omega) (by omega)) ?_
                              rintro _ _ _ ⟨rfl, ⟨G104, rfl⟩, z105, rfl, rfl⟩
                              exact r_retZ hX hP rfl rfl (by omega) (by omega) (by omega) (by omega) ⟨rfl, ⟨_, (hq_call (hq_up (hq_up (hq_refl _ _ _) rfl) rfl) rfl).symm⟩, 0, rfl, (by omega)⟩
                        · skip
                          exfalso; omega
                      · skip
                        refine r_if_ne hX hP rfl (tgt := 117) rfl (by omega) (by omega) (fun c106 => ?_) (fun c106 => ?_)
                        · skip
                          exfalso; omega
                        · skip
                          refine r_ex hX hP 2 (pc' := 113) (st' := [(0, 2), (2, (Ad E 1))]) (lo' := [(0, (2, (Ad E 1))), (1, (0, w)), (2, (0, i)), (3, (0, k)), (4, (2, (Ad E 43))), (5, (0, ef75))]) rfl ?_
                          refine r_callV gd hX hP rfl cv_12_321 hS (d' := 0) (mc' := 0) (ms' := 0) (as' := [(0, 2)]) (st := []) (by omega) (by omega) (by omega) rfl rfl (Nat.le_of_ble_eq_true rfl) (c_X12_no E S (up (up G 1 (Ad E 1) 1 0) 1 (Ad E 1) 0 0) 2 hS (by omega) (by omega)) ?_
                          rintro _ _ _ ⟨rfl, ⟨G107, rfl⟩, z108, rfl, rfl⟩
                          exact r_retZ hX hP rfl rfl (by omega) (by omega) (by omega) (by omega) ⟨rfl, ⟨_, (hq_call (hq_up (hq_up (hq_refl _ _ _) rfl) rfl) rfl).symm⟩, 0, rfl, (by omega)⟩
                  · skip
                    refine r_if_eq hX hP rfl (tgt := 111) rfl (by omega) (by omega) (fun c109 => ?_) (fun c109 => ?_)
                    · skip
                      refine r_ex hX hP 2 (pc' := 113) (st' := [(0, 2), (2, (Ad E 1))]) (lo' := [(0, (2, (Ad E 1))), (1, (0, w)), (2, (0, i)), (3, (0, k)), (4, (2, (Ad E 43))), (5, (0, ef75))]) rfl ?_
                      refine r_callV gd hX hP rfl cv_12_321 hS (d' := 0) (mc' := 0) (ms' := 0) (as' := [(0, 2)]) (st := []) (by omega) (by omega) (by omega) rfl rfl (Nat.le_of_ble_eq_true rfl) (c_X12_no E S (up (up G 1 (Ad E 1) 1 0) 1 (Ad E 1) 0 0) 2 hS (by omega) (by omega)) ?_
                      rintro _ _ _ ⟨rfl, ⟨G110, rfl⟩, z111, rfl, rfl⟩
                      exact r_retZ hX hP rfl rfl (by omega) (by omega) (by omega) (by omega) ⟨rfl, ⟨_, (hq_call (hq_up (hq_up (hq_refl _ _ _) rfl) rfl) rfl).symm⟩, 0, rfl, (by omega)⟩
                    · skip
                      exfalso; omega
                · skip
                  exfalso; omega
              · skip
                refine r_if_ne hX hP rfl (tgt := 95) rfl (by omega) (by omega) (fun c112 => ?_) (fun c112 => ?_)
                · skip
                  exfalso; omega
                · skip
                  refine r_ex hX hP 2 (pc' := 91) (st' := [(0, 1), (2, (Ad E 1))]) (lo' := [(0, (2, (Ad E 1))), (1, (0, w)), (2, (0, i)), (3, (0, k)), (4, (2, (Ad E 43))), (5, (0, ef75))]) rfl ?_
                  refine r_callV gd hX hP rfl cv_12_321 hS (d' := 0) (mc' := 0) (ms' := 0) (as' := [(0, 1)]) (st := []) (by omega) (by omega) (by omega) rfl rfl (Nat.le_of_ble_eq_true rfl) (c_X12_no E S (up (up G 1 (Ad E 1) 1 0) 1 (Ad E 1) 0 0) 1 hS (by omega) (by omega)) ?_
                  rintro _ _ _ ⟨rfl, ⟨G113, rfl⟩, z114, rfl, rfl⟩
                  exact r_retZ hX hP rfl rfl (by omega) (by omega) (by omega) (by omega) ⟨rfl, ⟨_, (hq_call (hq_up (hq_up (hq_refl _ _ _) rfl) rfl) rfl).symm⟩, 0, rfl, (by omega)⟩
          · skip
            refine r_if_eq hX hP rfl (tgt := 95) rfl (by omega) (by omega) (fun c115 => ?_) (fun c115 => ?_)
            · skip
              refine r_ex hX hP 3 (pc' := 98) (st' := [(0, 2), (0, 0), (0, w)]) (lo' := [(0, (2, (Ad E 1))), (1, (0, w)), (2, (0, i)), (3, (0, k)), (4, (2, (Ad E 43))), (5, (0, ef75))]) rfl ?_
              refine r_callS gd hX hP rfl cs_12_310 (d' := 0) (mc' := 0) (ms' := 0) (as' := [(0, w), (0, 0), (0, 2)]) (st := []) (by omega) (by omega) (by omega) rfl rfl (Nat.le_of_ble_eq_true rfl) (c_X12_isIn E S (up (up G 1 (Ad E 1) 1 0) 1 (Ad E 1) 0 0) w 0 2 (by omega) (by omega) (by omega) (by omega) (by omega) (by omega)) ?_
              rintro _ _ _ ⟨rfl, rfl, z116, rfl, (⟨rfl, f117, f118⟩ | ⟨rfl, f119⟩)⟩
              · skip
                refine r_if_eq hX hP rfl (tgt := 111) rfl (by omega) (by omega) (fun c120 => ?_) (fun c120 => ?_)
                · skip
                  exfalso; omega
                · skip
                  refine r_ex hX hP 1 (pc' := 105) (st' := [(0, k)]) (lo' := [(0, (2, (Ad E 1))), (1, (0, w)), (2, (0, i)), (3, (0, k)), (4, (2, (Ad E 43))), (5, (0, ef75))]) rfl ?_
                  refine r_callS gd hX hP rfl cs_12_317 (d' := 1) (mc' := 0) (ms' := 0) (as' := [(0, k)]) (st := []) (by omega) (by omega) (by omega) rfl rfl (Nat.le_of_ble_eq_true rfl) (c_X12_isDay E S (up (up G 1 (Ad E 1) 1 0) 1 (Ad E 1) 0 0) k (by omega) (by omega)) ?_
                  rintro _ _ _ ⟨rfl, rfl, z121, rfl, (⟨rfl, f122, f123⟩ | ⟨rfl, f124⟩)⟩
                  · skip
                    refine r_if_ne hX hP rfl (tgt := 117) rfl (by omega) (by omega) (fun c125 => ?_) (fun c125 => ?_)
                    · skip
                      refine r_ex hX hP 2 (pc' := 119) (st' := [(2, (Ad E 1)), (0, k)]) (lo' := [(0, (2, (Ad E 1))), (1, (0, w)), (2, (0, i)), (3, (0, k)), (4, (2, (Ad E 43))), (5, (0, ef75))]) rfl ?_
                      refine r_getI hX hP rfl fl_12_339 hS (fun lf126 lf126e lf126a lf126b => ?_)
                      refine r_ic_lt hX hP rfl (tgt := 135) rfl (by omega) (by omega) (by omega) (by omega) (fun c127 => ?_) (fun c127 => ?_)
                      · skip
                        refine r_ex hX hP 2 (pc' := 137) (st' := [(0, 4), (2, (Ad E 1))]) (lo' := [(0, (2, (Ad E 1))), (1, (0, w)), (2, (0, i)), (3, (0, k)), (4, (2, (Ad E 43))), (5, (0, ef75))]) rfl ?_
                        refine r_callV gd hX hP rfl cv_12_321 hS (d' := 0) (mc' := 0) (ms' := 0) (as' := [(0, 4)]) (st := []) (by omega) (by omega) (by omega) rfl rfl (Nat.le_of_ble_eq_true rfl) (c_X12_no E S (up (up G 1 (Ad E 1) 1 0) 1 (Ad E 1) 0 0) 4 hS (by omega) (by omega)) ?_
                        rintro _ _ _ ⟨rfl, ⟨G128, rfl⟩, z129, rfl, rfl⟩
                        exact r_retZ hX hP rfl rfl (by omega) (by omega) (by omega) (by omega) ⟨rfl, ⟨_, (hq_call (hq_up (hq_up (hq_refl _ _ _) rfl) rfl) rfl).symm⟩, 0, rfl, (by omega)⟩
                      · skip
                        refine r_ex hX hP 2 (pc' := 128) (st' := [(0, i), (2, (Ad E 43))]) (lo' := [(0, (2, (Ad E 1))), (1, (0, w)), (2, (0, i)), (3, (0, k)), (4, (2, (Ad E 43))), (5, (0, ef75))]) rfl ?_
                        refine r_iald hX hP rfl al_43 s5 (by omega) (by omega) (fun x130 x130e x130a x130b => ?_)
                        refine r_ldcw hX hP rfl (v := 1000000000) (tbg sg9 109 rfl rfl) ?_
                        refine r_ic_ge hX hP rfl (tgt := 141) rfl (by omega) (by omega) (by omega) (by omega) (fun c131 => ?_) (fun c131 => ?_)
                        · skip
                          refine r_ex hX hP 3 (pc' := 145) (st' := [(0, k), (0, i), (2, (Ad E 43))]) (lo' := [(0, (2, (Ad E 1))), (1, (0, w)), (2, (0, i)), (3, (0, k)), (4, (2, (Ad E 43))), (5, (0, ef75))]) rfl ?_
                          refine r_iastK hX hP rfl al_43 s5 (by omega) (by omega) (by omega) (by omega) (fun h132 => ?_)
                          refine r_ex hX hP 2 (pc' := 148) (st' := [(0, k), (2, (Ad E 1))]) (lo' := [(0, (2, (Ad E 1))), (1, (0, w)), (2, (0, i)), (3, (0, k)), (4, (2, (Ad E 43))), (5, (0, ef75))]) rfl ?_
                          refine r_putIK hX hP rfl fp_12_339 hS (by omega) (by omega) (fun h133 => ?_)
                          refine r_ex hX hP 1 (pc' := 152) (st' := [(0, 1)]) (lo' := [(0, (2, (Ad E 1))), (1, (0, w)), (2, (0, i)), (3, (0, k)), (4, (2, (Ad E 43))), (5, (0, ef75))]) rfl ?_
                          exact r_retZ hX hP rfl rfl (by omega) (by omega) (by omega) (by omega) ⟨rfl, ⟨_, (hq_up (hq_up (hq_up (hq_up (hq_refl _ _ _) rfl) rfl) rfl) rfl).symm⟩, 1, rfl, (by omega)⟩
                        · skip
                          refine r_ex hX hP 2 (pc' := 137) (st' := [(0, 4), (2, (Ad E 1))]) (lo' := [(0, (2, (Ad E 1))), (1, (0, w)), (2, (0, i)), (3, (0, k)), (4, (2, (Ad E 43))), (5, (0, ef75))]) rfl ?_
                          refine r_callV gd hX hP rfl cv_12_321 hS (d' := 0) (mc' := 0) (ms' := 0) (as' := [(0, 4)]) (st := []) (by omega) (by omega) (by omega) rfl rfl (Nat.le_of_ble_eq_true rfl) (c_X12_no E S (up (up G 1 (Ad E 1) 1 0) 1 (Ad E 1) 0 0) 4 hS (by omega) (by omega)) ?_
                          rintro _ _ _ ⟨rfl, ⟨G134, rfl⟩, z135, rfl, rfl⟩
                          exact r_retZ hX hP rfl rfl (by omega) (by omega) (by omega) (by omega) ⟨rfl, ⟨_, (hq_call (hq_up (hq_up (hq_refl _ _ _) rfl) rfl) rfl).symm⟩, 0, rfl, (by omega)⟩
                    · skip
                      exfalso; omega
                  · skip
                    refine r_if_ne hX hP rfl (tgt := 117) rfl (by omega) (by omega) (fun c136 => ?_) (fun c136 => ?_)
                    · skip
                      exfalso; omega
                    · skip
                      refine r_ex hX hP 2 (pc' := 113) (st' := [(0, 2), (2, (Ad E 1))]) (lo' := [(0, (2, (Ad E 1))), (1, (0, w)), (2, (0, i)), (3, (0, k)), (4, (2, (Ad E 43))), (5, (0, ef75))]) rfl ?_
                      refine r_callV gd hX hP rfl cv_12_321 hS (d' := 0) (mc' := 0) (ms' := 0) (as' := [(0, 2)]) (st := []) (by omega) (by omega) (by omega) rfl rfl (Nat.le_of_ble_eq_true rfl) (c_X12_no E S (up (up G 1 (Ad E 1) 1 0) 1 (Ad E 1) 0 0) 2 hS (by omega) (by omega)) ?_
                      rintro _ _ _ ⟨rfl, ⟨G137, rfl⟩, z138, rfl, rfl⟩
                      exact r_retZ hX hP rfl rfl (by omega) (by omega) (by omega) (by omega) ⟨rfl, ⟨_, (hq_call (hq_up (hq_up (hq_refl _ _ _) rfl) rfl) rfl).symm⟩, 0, rfl, (by omega)⟩
              · skip
                refine r_if_eq hX hP rfl (tgt := 111) rfl (by omega) (by omega) (fun c139 => ?_) (fun c139 => ?_)
                · skip
                  refine r_ex hX hP 2 (pc' := 113) (st' := [(0, 2), (2, (Ad E 1))]) (lo' := [(0, (2, (Ad E 1))), (1, (0, w)), (2, (0, i)), (3, (0, k)), (4, (2, (Ad E 43))), (5, (0, ef75))]) rfl ?_
                  refine r_callV gd hX hP rfl cv_12_321 hS (d' := 0) (mc' := 0) (ms' := 0) (as' := [(0, 2)]) (st := []) (by omega) (by omega) (by omega) rfl rfl (Nat.le_of_ble_eq_true rfl) (c_X12_no E S (up (up G 1 (Ad E 1) 1 0) 1 (Ad E 1) 0 0) 2 hS (by omega) (by omega)) ?_
                  rintro _ _ _ ⟨rfl, ⟨G140, rfl⟩, z141, rfl, rfl⟩
                  exact r_retZ hX hP rfl rfl (by omega) (by omega) (by omega) (by omega) ⟨rfl, ⟨_, (hq_call (hq_up (hq_up (hq_refl _ _ _) rfl) rfl) rfl).symm⟩, 0, rfl, (by omega)⟩
                · skip
                  exfalso; omega
            · skip
              exfalso; omega
      · skip
        refine r_ex hX hP 1 (pc' := 44) (st' := [(2, (Ad E 1))]) (lo' := [(0, (2, (Ad E 1))), (1, (0, w)), (2, (0, i)), (3, (0, k)), (4, (2, (Ad E 43)))]) rfl ?_
        refine r_getI hX hP rfl fl_12_342 hS (fun tf142 tf142e tf142a tf142b => ?_)
        refine r_ex hX hP 5 (pc' := 71) (st' := [(0, 2), (0, 0), (0, w)]) (lo' := [(0, (2, (Ad E 1))), (1, (0, w)), (2, (0, i)), (3, (0, k)), (4, (2, (Ad E 43))), (5, (0, tf142))]) rfl ?_
        refine r_callS gd hX hP rfl cs_12_310 (d' := 0) (mc' := 0) (ms' := 0) (as' := [(0, w), (0, 0), (0, 2)]) (st := []) (by omega) (by omega) (by omega) rfl rfl (Nat.le_of_ble_eq_true rfl) (c_X12_isIn E S (up (up G 1 (Ad E 1) 1 0) 1 (Ad E 1) 0 0) w 0 2 (by omega) (by omega) (by omega) (by omega) (by omega) (by omega)) ?_
        rintro _ _ _ ⟨rfl, rfl, z143, rfl, (⟨rfl, f144, f145⟩ | ⟨rfl, f146⟩)⟩
        · skip
          refine r_if_eq hX hP rfl (tgt := 95) rfl (by omega) (by omega) (fun c147 => ?_) (fun c147 => ?_)
          · skip
            exfalso; omega
          · skip
            refine r_ex hX hP 5 (pc' := 83) (st' := [(0, (tf142 - 1)), (0, 0), (0, i)]) (lo' := [(0, (2, (Ad E 1))), (1, (0, w)), (2, (0, i)), (3, (0, k)), (4, (2, (Ad E 43))), (5, (0, tf142))]) rfl ?_
            refine r_callS gd hX hP rfl cs_12_310 (d' := 0) (mc' := 0) (ms' := 0) (as' := [(0, i), (0, 0), (0, (tf142 - 1))]) (st := []) (by omega) (by omega) (by omega) rfl rfl (Nat.le_of_ble_eq_true rfl) (c_X12_isIn E S (up (up G 1 (Ad E 1) 1 0) 1 (Ad E 1) 0 0) i 0 (tf142 - 1) (by omega) (by omega) (by omega) (by omega) (by omega) (by omega)) ?_
            rintro _ _ _ ⟨rfl, rfl, z148, rfl, (⟨rfl, f149, f150⟩ | ⟨rfl, f151⟩)⟩
            · skip
              refine r_if_ne hX hP rfl (tgt := 95) rfl (by omega) (by omega) (fun c152 => ?_) (fun c152 => ?_)
              · skip
                refine r_ex hX hP 3 (pc' := 98) (st' := [(0, 2), (0, 0), (0, w)]) (lo' := [(0, (2, (Ad E 1))), (1, (0, w)), (2, (0, i)), (3, (0, k)), (4, (2, (Ad E 43))), (5, (0, tf142))]) rfl ?_
                refine r_callS gd hX hP rfl cs_12_310 (d' := 0) (mc' := 0) (ms' := 0) (as' := [(0, w), (0, 0), (0, 2)]) (st := []) (by omega) (by omega) (by omega) rfl rfl (Nat.le_of_ble_eq_true rfl) (c_X12_isIn E S (up (up G 1 (Ad E 1) 1 0) 1 (Ad E 1) 0 0) w 0 2 (by omega) (by omega) (by omega) (by omega) (by omega) (by omega)) ?_
                rintro _ _ _ ⟨rfl, rfl, z153, rfl, (⟨rfl, f154, f155⟩ | ⟨rfl, f156⟩)⟩
                · skip
                  refine r_if_eq hX hP rfl (tgt := 111) rfl (by omega) (by omega) (fun c157 => ?_) (fun c157 => ?_)
                  · skip
                    exfalso; omega
                  · skip
                    refine r_ex hX hP 1 (pc' := 105) (st' := [(0, k)]) (lo' := [(0, (2, (Ad E 1))), (1, (0, w)), (2, (0, i)), (3, (0, k)), (4, (2, (Ad E 43))), (5, (0, tf142))]) rfl ?_
                    refine r_callS gd hX hP rfl cs_12_317 (d' := 1) (mc' := 0) (ms' := 0) (as' := [(0, k)]) (st := []) (by omega) (by omega) (by omega) rfl rfl (Nat.le_of_ble_eq_true rfl) (c_X12_isDay E S (up (up G 1 (Ad E 1) 1 0) 1 (Ad E 1) 0 0) k (by omega) (by omega)) ?_
                    rintro _ _ _ ⟨rfl, rfl, z158, rfl, (⟨rfl, f159, f160⟩ | ⟨rfl, f161⟩)⟩
                    · skip
                      refine r_if_ne hX hP rfl (tgt := 117) rfl (by omega) (by omega) (fun c162 => ?_) (fun c162 => ?_)
                      · skip
                        refine r_ex hX hP 2 (pc' := 119) (st' := [(2, (Ad E 1)), (0, k)]) (lo' := [(0, (2, (Ad E 1))), (1, (0, w)), (2, (0, i)), (3, (0, k)), (4, (2, (Ad E 43))), (5, (0, tf142))]) rfl ?_
                        refine r_getI hX hP rfl fl_12_339 hS (fun lf163 lf163e lf163a lf163b => ?_)
                        refine r_ic_lt hX hP rfl (tgt := 135) rfl (by omega) (by omega) (by omega) (by omega) (fun c164 => ?_) (fun c164 => ?_)
                        · skip
                          refine r_ex hX hP 2 (pc' := 137) (st' := [(0, 4), (2, (Ad E 1))]) (lo' := [(0, (2, (Ad E 1))), (1, (0, w)), (2, (0, i)), (3, (0, k)), (4, (2, (Ad E 43))), (5, (0, tf142))]) rfl ?_
                          refine r_callV gd hX hP rfl cv_12_321 hS (d' := 0) (mc' := 0) (ms' := 0) (as' := [(0, 4)]) (st := []) (by omega) (by omega) (by omega) rfl rfl (Nat.le_of_ble_eq_true rfl) (c_X12_no E S (up (up G 1 (Ad E 1) 1 0) 1 (Ad E 1) 0 0) 4 hS (by omega) (by omega)) ?_
                          rintro _ _ _ ⟨rfl, ⟨G165, rfl⟩, z166, rfl, rfl⟩
                          exact r_retZ hX hP rfl rfl (by omega) (by omega) (by omega) (by omega) ⟨rfl, ⟨_, (hq_call (hq_up (hq_up (hq_refl _ _ _) rfl) rfl) rfl).symm⟩, 0, rfl, (by omega)⟩
                        · skip
                          refine r_ex hX hP 2 (pc' := 128) (st' := [(0, i), (2, (Ad E 43))]) (lo' := [(0, (2, (Ad E 1))), (1, (0, w)), (2, (0, i)), (3, (0, k)), (4, (2, (Ad E 43))), (5, (0, tf142))]) rfl ?_
                          refine r_iald hX hP rfl al_43 s5 (by omega) (by omega) (fun x167 x167e x167a x167b => ?_)
                          refine r_ldcw hX hP rfl (v := 1000000000) (tbg sg9 109 rfl rfl) ?_
                          refine r_ic_ge hX hP rfl (tgt := 141) rfl (by omega) (by omega) (by omega) (by omega) (fun c168 => ?_) (fun c168 => ?_)
                          · skip
                            refine r_ex hX hP 3 (pc' := 145) (st' := [(0, k), (0, i), (2, (Ad E 43))]) (lo' := [(0, (2, (Ad E 1))), (1, (0, w)), (2, (0, i)), (3, (0, k)), (4, (2, (Ad E 43))), (5, (0, tf142))]) rfl ?_
                            refine r_iastK hX hP rfl al_43 s5 (by omega) (by omega) (by omega) (by omega) (fun h169 => ?_)
                            refine r_ex hX hP 2 (pc' := 148) (st' := [(0, k), (2, (Ad E 1))]) (lo' := [(0, (2, (Ad E 1))), (1, (0, w)), (2, (0, i)), (3, (0, k)), (4, (2, (Ad E 43))), (5, (0, tf142))]) rfl ?_
                            refine r_putIK hX hP rfl fp_12_339 hS (by omega) (by omega) (fun h170 => ?_)
                            refine r_ex hX hP 1 (pc' := 152) (st' := [(0, 1)]) (lo' := [(0, (2, (Ad E 1))), (1, (0, w)), (2, (0, i)), (3, (0, k)), (4, (2, (Ad E 43))), (5, (0, tf142))]) rfl ?_
                            exact r_retZ hX hP rfl rfl (by omega) (by omega) (by omega) (by omega) ⟨rfl, ⟨_, (hq_up (hq_up (hq_up (hq_up (hq_refl _ _ _) rfl) rfl) rfl) rfl).symm⟩, 1, rfl, (by omega)⟩
                          · skip
                            refine r_ex hX hP 2 (pc' := 137) (st' := [(0, 4), (2, (Ad E 1))]) (lo' := [(0, (2, (Ad E 1))), (1, (0, w)), (2, (0, i)), (3, (0, k)), (4, (2, (Ad E 43))), (5, (0, tf142))]) rfl ?_
                            refine r_callV gd hX hP rfl cv_12_321 hS (d' := 0) (mc' := 0) (ms' := 0) (as' := [(0, 4)]) (st := []) (by omega) (by omega) (by omega) rfl rfl (Nat.le_of_ble_eq_true rfl) (c_X12_no E S (up (up G 1 (Ad E 1) 1 0) 1 (Ad E 1) 0 0) 4 hS (by omega) (by omega)) ?_
                            rintro _ _ _ ⟨rfl, ⟨G171, rfl⟩, z172, rfl, rfl⟩
                            exact r_retZ hX hP rfl rfl (by omega) (by omega) (by omega) (by omega) ⟨rfl, ⟨_, (hq_call (hq_up (hq_up (hq_refl _ _ _) rfl) rfl) rfl).symm⟩, 0, rfl, (by omega)⟩
                      · skip
                        exfalso; omega
                    · skip
                      refine r_if_ne hX hP rfl (tgt := 117) rfl (by omega) (by omega) (fun c173 => ?_) (fun c173 => ?_)
                      · skip
                        exfalso; omega
                      · skip
                        refine r_ex hX hP 2 (pc' := 113) (st' := [(0, 2), (2, (Ad E 1))]) (lo' := [(0, (2, (Ad E 1))), (1, (0, w)), (2, (0, i)), (3, (0, k)), (4, (2, (Ad E 43))), (5, (0, tf142))]) rfl ?_
                        refine r_callV gd hX hP rfl cv_12_321 hS (d' := 0) (mc' := 0) (ms' := 0) (as' := [(0, 2)]) (st := []) (by omega) (by omega) (by omega) rfl rfl (Nat.le_of_ble_eq_true rfl) (c_X12_no E S (up (up G 1 (Ad E 1) 1 0) 1 (Ad E 1) 0 0) 2 hS (by omega) (by omega)) ?_
                        rintro _ _ _ ⟨rfl, ⟨G174, rfl⟩, z175, rfl, rfl⟩
                        exact r_retZ hX hP rfl rfl (by omega) (by omega) (by omega) (by omega) ⟨rfl, ⟨_, (hq_call (hq_up (hq_up (hq_refl _ _ _) rfl) rfl) rfl).symm⟩, 0, rfl, (by omega)⟩
                · skip
                  refine r_if_eq hX hP rfl (tgt := 111) rfl (by omega) (by omega) (fun c176 => ?_) (fun c176 => ?_)
                  · skip
                    refine r_ex hX hP 2 (pc' := 113) (st' := [(0, 2), (2, (Ad E 1))]) (lo' := [(0, (2, (Ad E 1))), (1, (0, w)), (2, (0, i)), (3, (0, k)), (4, (2, (Ad E 43))), (5, (0, tf142))]) rfl ?_
                    refine r_callV gd hX hP rfl cv_12_321 hS (d' := 0) (mc' := 0) (ms' := 0) (as' := [(0, 2)]) (st := []) (by omega) (by omega) (by omega) rfl rfl (Nat.le_of_ble_eq_true rfl) (c_X12_no E S (up (up G 1 (Ad E 1) 1 0) 1 (Ad E 1) 0 0) 2 hS (by omega) (by omega)) ?_
                    rintro _ _ _ ⟨rfl, ⟨G177, rfl⟩, z178, rfl, rfl⟩
                    exact r_retZ hX hP rfl rfl (by omega) (by omega) (by omega) (by omega) ⟨rfl, ⟨_, (hq_call (hq_up (hq_up (hq_refl _ _ _) rfl) rfl) rfl).symm⟩, 0, rfl, (by omega)⟩
                  · skip
                    exfalso; omega
              · skip
                exfalso; omega
            · skip
              refine r_if_ne hX hP rfl (tgt := 95) rfl (by omega) (by omega) (fun c179 => ?_) (fun c179 => ?_)
              · skip
                exfalso; omega
              · skip
                refine r_ex hX hP 2 (pc' := 91) (st' := [(0, 1), (2, (Ad E 1))]) (lo' := [(0, (2, (Ad E 1))), (1, (0, w)), (2, (0, i)), (3, (0, k)), (4, (2, (Ad E 43))), (5, (0, tf142))]) rfl ?_
                refine r_callV gd hX hP rfl cv_12_321 hS (d' := 0) (mc' := 0) (ms' := 0) (as' := [(0, 1)]) (st := []) (by omega) (by omega) (by omega) rfl rfl (Nat.le_of_ble_eq_true rfl) (c_X12_no E S (up (up G 1 (Ad E 1) 1 0) 1 (Ad E 1) 0 0) 1 hS (by omega) (by omega)) ?_
                rintro _ _ _ ⟨rfl, ⟨G180, rfl⟩, z181, rfl, rfl⟩
                exact r_retZ hX hP rfl rfl (by omega) (by omega) (by omega) (by omega) ⟨rfl, ⟨_, (hq_call (hq_up (hq_up (hq_refl _ _ _) rfl) rfl) rfl).symm⟩, 0, rfl, (by omega)⟩
        · skip
          refine r_if_eq hX hP rfl (tgt := 95) rfl (by omega) (by omega) (fun c182 => ?_) (fun c182 => ?_)
          · skip
            refine r_ex hX hP 3 (pc' := 98) (st' := [(0, 2), (0, 0), (0, w)]) (lo' := [(0, (2, (Ad E 1))), (1, (0, w)), (2, (0, i)), (3, (0, k)), (4, (2, (Ad E 43))), (5, (0, tf142))]) rfl ?_
            refine r_callS gd hX hP rfl cs_12_310 (d' := 0) (mc' := 0) (ms' := 0) (as' := [(0, w), (0, 0), (0, 2)]) (st := []) (by omega) (by omega) (by omega) rfl rfl (Nat.le_of_ble_eq_true rfl) (c_X12_isIn E S (up (up G 1 (Ad E 1) 1 0) 1 (Ad E 1) 0 0) w 0 2 (by omega) (by omega) (by omega) (by omega) (by omega) (by omega)) ?_
            rintro _ _ _ ⟨rfl, rfl, z183, rfl, (⟨rfl, f184, f185⟩ | ⟨rfl, f186⟩)⟩
            · skip
              refine r_if_eq hX hP rfl (tgt := 111) rfl (by omega) (by omega) (fun c187 => ?_) (fun c187 => ?_)
              · skip
                exfalso; omega
              · skip
                refine r_ex hX hP 1 (pc' := 105) (st' := [(0, k)]) (lo' := [(0, (2, (Ad E 1))), (1, (0, w)), (2, (0, i)), (3, (0, k)), (4, (2, (Ad E 43))), (5, (0, tf142))]) rfl ?_
                refine r_callS gd hX hP rfl cs_12_317 (d' := 1) (mc' := 0) (ms' := 0) (as' := [(0, k)]) (st := []) (by omega) (by omega) (by omega) rfl rfl (Nat.le_of_ble_eq_true rfl) (c_X12_isDay E S (up (up G 1 (Ad E 1) 1 0) 1 (Ad E 1) 0 0) k (by omega) (by omega)) ?_
                rintro _ _ _ ⟨rfl, rfl, z188, rfl, (⟨rfl, f189, f190⟩ | ⟨rfl, f191⟩)⟩
                · skip
                  refine r_if_ne hX hP rfl (tgt := 117) rfl (by omega) (by omega) (fun c192 => ?_) (fun c192 => ?_)
                  · skip
                    refine r_ex hX hP 2 (pc' := 119) (st' := [(2, (Ad E 1)), (0, k)]) (lo' := [(0, (2, (Ad E 1))), (1, (0, w)), (2, (0, i)), (3, (0, k)), (4, (2, (Ad E 43))), (5, (0, tf142))]) rfl ?_
                    refine r_getI hX hP rfl fl_12_339 hS (fun lf193 lf193e lf193a lf193b => ?_)
                    refine r_ic_lt hX hP rfl (tgt := 135) rfl (by omega) (by omega) (by omega) (by omega) (fun c194 => ?_) (fun c194 => ?_)
                    · skip
                      refine r_ex hX hP 2 (pc' := 137) (st' := [(0, 4), (2, (Ad E 1))]) (lo' := [(0, (2, (Ad E 1))), (1, (0, w)), (2, (0, i)), (3, (0, k)), (4, (2, (Ad E 43))), (5, (0, tf142))]) rfl ?_
                      refine r_callV gd hX hP rfl cv_12_321 hS (d' := 0) (mc' := 0) (ms' := 0) (as' := [(0, 4)]) (st := []) (by omega) (by omega) (by omega) rfl rfl (Nat.le_of_ble_eq_true rfl) (c_X12_no E S (up (up G 1 (Ad E 1) 1 0) 1 (Ad E 1) 0 0) 4 hS (by omega) (by omega)) ?_
                      rintro _ _ _ ⟨rfl, ⟨G195, rfl⟩, z196, rfl, rfl⟩
                      exact r_retZ hX hP rfl rfl (by omega) (by omega) (by omega) (by omega) ⟨rfl, ⟨_, (hq_call (hq_up (hq_up (hq_refl _ _ _) rfl) rfl) rfl).symm⟩, 0, rfl, (by omega)⟩
                    · skip
                      refine r_ex hX hP 2 (pc' := 128) (st' := [(0, i), (2, (Ad E 43))]) (lo' := [(0, (2, (Ad E 1))), (1, (0, w)), (2, (0, i)), (3, (0, k)), (4, (2, (Ad E 43))), (5, (0, tf142))]) rfl ?_
                      refine r_iald hX hP rfl al_43 s5 (by omega) (by omega) (fun x197 x197e x197a x197b => ?_)
                      refine r_ldcw hX hP rfl (v := 1000000000) (tbg sg9 109 rfl rfl) ?_
                      refine r_ic_ge hX hP rfl (tgt := 141) rfl (by omega) (by omega) (by omega) (by omega) (fun c198 => ?_) (fun c198 => ?_)
                      · skip
                        refine r_ex hX hP 3 (pc' := 145) (st' := [(0, k), (0, i), (2, (Ad E 43))]) (lo' := [(0, (2, (Ad E 1))), (1, (0, w)), (2, (0, i)), (3, (0, k)), (4, (2, (Ad E 43))), (5, (0, tf142))]) rfl ?_
                        refine r_iastK hX hP rfl al_43 s5 (by omega) (by omega) (by omega) (by omega) (fun h199 => ?_)
                        refine r_ex hX hP 2 (pc' := 148) (st' := [(0, k), (2, (Ad E 1))]) (lo' := [(0, (2, (Ad E 1))), (1, (0, w)), (2, (0, i)), (3, (0, k)), (4, (2, (Ad E 43))), (5, (0, tf142))]) rfl ?_
                        refine r_putIK hX hP rfl fp_12_339 hS (by omega) (by omega) (fun h200 => ?_)
                        refine r_ex hX hP 1 (pc' := 152) (st' := [(0, 1)]) (lo' := [(0, (2, (Ad E 1))), (1, (0, w)), (2, (0, i)), (3, (0, k)), (4, (2, (Ad E 43))), (5, (0, tf142))]) rfl ?_
                        exact r_retZ hX hP rfl rfl (by omega) (by omega) (by omega) (by omega) ⟨rfl, ⟨_, (hq_up (hq_up (hq_up (hq_up (hq_refl _ _ _) rfl) rfl) rfl) rfl).symm⟩, 1, rfl, (by omega)⟩
                      · skip
                        refine r_ex hX hP 2 (pc' := 137) (st' := [(0, 4), (2, (Ad E 1))]) (lo' := [(0, (2, (Ad E 1))), (1, (0, w)), (2, (0, i)), (3, (0, k)), (4, (2, (Ad E 43))), (5, (0, tf142))]) rfl ?_
                        refine r_callV gd hX hP rfl cv_12_321 hS (d' := 0) (mc' := 0) (ms' := 0) (as' := [(0, 4)]) (st := []) (by omega) (by omega) (by omega) rfl rfl (Nat.le_of_ble_eq_true rfl) (c_X12_no E S (up (up G 1 (Ad E 1) 1 0) 1 (Ad E 1) 0 0) 4 hS (by omega) (by omega)) ?_
                        rintro _ _ _ ⟨rfl, ⟨G201, rfl⟩, z202, rfl, rfl⟩
                        exact r_retZ hX hP rfl rfl (by omega) (by omega) (by omega) (by omega) ⟨rfl, ⟨_, (hq_call (hq_up (hq_up (hq_refl _ _ _) rfl) rfl) rfl).symm⟩, 0, rfl, (by omega)⟩
                  · skip
                    exfalso; omega
                · skip
                  refine r_if_ne hX hP rfl (tgt := 117) rfl (by omega) (by omega) (fun c203 => ?_) (fun c203 => ?_)
                  · skip
                    exfalso; omega
                  · skip
                    refine r_ex hX hP 2 (pc' := 113) (st' := [(0, 2), (2, (Ad E 1))]) (lo' := [(0, (2, (Ad E 1))), (1, (0, w)), (2, (0, i)), (3, (0, k)), (4, (2, (Ad E 43))), (5, (0, tf142))]) rfl ?_
                    refine r_callV gd hX hP rfl cv_12_321 hS (d' := 0) (mc' := 0) (ms' := 0) (as' := [(0, 2)]) (st := []) (by omega) (by omega) (by omega) rfl rfl (Nat.le_of_ble_eq_true rfl) (c_X12_no E S (up (up G 1 (Ad E 1) 1 0) 1 (Ad E 1) 0 0) 2 hS (by omega) (by omega)) ?_
                    rintro _ _ _ ⟨rfl, ⟨G204, rfl⟩, z205, rfl, rfl⟩
                    exact r_retZ hX hP rfl rfl (by omega) (by omega) (by omega) (by omega) ⟨rfl, ⟨_, (hq_call (hq_up (hq_up (hq_refl _ _ _) rfl) rfl) rfl).symm⟩, 0, rfl, (by omega)⟩
            · skip
              refine r_if_eq hX hP rfl (tgt := 111) rfl (by omega) (by omega) (fun c206 => ?_) (fun c206 => ?_)
              · skip
                refine r_ex hX hP 2 (pc' := 113) (st' := [(0, 2), (2, (Ad E 1))]) (lo' := [(0, (2, (Ad E 1))), (1, (0, w)), (2, (0, i)), (3, (0, k)), (4, (2, (Ad E 43))), (5, (0, tf142))]) rfl ?_
                refine r_callV gd hX hP rfl cv_12_321 hS (d' := 0) (mc' := 0) (ms' := 0) (as' := [(0, 2)]) (st := []) (by omega) (by omega) (by omega) rfl rfl (Nat.le_of_ble_eq_true rfl) (c_X12_no E S (up (up G 1 (Ad E 1) 1 0) 1 (Ad E 1) 0 0) 2 hS (by omega) (by omega)) ?_
                rintro _ _ _ ⟨rfl, ⟨G207, rfl⟩, z208, rfl, rfl⟩
                exact r_retZ hX hP rfl rfl (by omega) (by omega) (by omega) (by omega) ⟨rfl, ⟨_, (hq_call (hq_up (hq_up (hq_refl _ _ _) rfl) rfl) rfl).symm⟩, 0, rfl, (by omega)⟩
              · skip
                exfalso; omega
          · skip
            exfalso; omega
    · skip
      refine r_ex hX hP 1 (pc' := 27) (st' := [(2, (Ad E 1))]) (lo' := [(0, (2, (Ad E 1))), (1, (0, w)), (2, (0, i)), (3, (0, k))]) rfl ?_
      refine r_getC hX hP rfl fl_12_89 hS (fun s209 => ?_)
      refine r_ex hX hP 3 (pc' := 40) (st' := [(0, w)]) (lo' := [(0, (2, (Ad E 1))), (1, (0, w)), (2, (0, i)), (3, (0, k)), (4, (2, (Ad E 25)))]) rfl ?_
      refine r_if_ne hX hP rfl (tgt := 50) rfl (by omega) (by omega) (fun c210 => ?_) (fun c210 => ?_)
      · skip
        refine r_ex hX hP 2 (pc' := 52) (st' := [(0, 1), (0, w)]) (lo' := [(0, (2, (Ad E 1))), (1, (0, w)), (2, (0, i)), (3, (0, k)), (4, (2, (Ad E 25)))]) rfl ?_
        refine r_ic_ne hX hP rfl (tgt := 62) rfl (by omega) (by omega) (by omega) (by omega) (fun c211 => ?_) (fun c211 => ?_)
        · skip
          exfalso; omega
        · skip
          refine r_ex hX hP 1 (pc' := 56) (st' := [(2, (Ad E 1))]) (lo' := [(0, (2, (Ad E 1))), (1, (0, w)), (2, (0, i)), (3, (0, k)), (4, (2, (Ad E 25)))]) rfl ?_
          refine r_getI hX hP rfl fl_12_490 hS (fun ef212 ef212e ef212a ef212b => ?_)
          refine r_ex hX hP 5 (pc' := 71) (st' := [(0, 2), (0, 0), (0, w)]) (lo' := [(0, (2, (Ad E 1))), (1, (0, w)), (2, (0, i)), (3, (0, k)), (4, (2, (Ad E 25))), (5, (0, ef212))]) rfl ?_
          refine r_callS gd hX hP rfl cs_12_310 (d' := 0) (mc' := 0) (ms' := 0) (as' := [(0, w), (0, 0), (0, 2)]) (st := []) (by omega) (by omega) (by omega) rfl rfl (Nat.le_of_ble_eq_true rfl) (c_X12_isIn E S (up (up G 1 (Ad E 1) 1 0) 1 (Ad E 1) 0 0) w 0 2 (by omega) (by omega) (by omega) (by omega) (by omega) (by omega)) ?_
          rintro _ _ _ ⟨rfl, rfl, z213, rfl, (⟨rfl, f214, f215⟩ | ⟨rfl, f216⟩)⟩
          · skip
            refine r_if_eq hX hP rfl (tgt := 95) rfl (by omega) (by omega) (fun c217 => ?_) (fun c217 => ?_)
            · skip
              exfalso; omega
            · skip
              refine r_ex hX hP 5 (pc' := 83) (st' := [(0, (ef212 - 1)), (0, 0), (0, i)]) (lo' := [(0, (2, (Ad E 1))), (1, (0, w)), (2, (0, i)), (3, (0, k)), (4, (2, (Ad E 25))), (5, (0, ef212))]) rfl ?_
              refine r_callS gd hX hP rfl cs_12_310 (d' := 0) (mc' := 0) (ms' := 0) (as' := [(0, i), (0, 0), (0, (ef212 - 1))]) (st := []) (by omega) (by omega) (by omega) rfl rfl (Nat.le_of_ble_eq_true rfl) (c_X12_isIn E S (up (up G 1 (Ad E 1) 1 0) 1 (Ad E 1) 0 0) i 0 (ef212 - 1) (by omega) (by omega) (by omega) (by omega) (by omega) (by omega)) ?_
              rintro _ _ _ ⟨rfl, rfl, z218, rfl, (⟨rfl, f219, f220⟩ | ⟨rfl, f221⟩)⟩
              · skip
                refine r_if_ne hX hP rfl (tgt := 95) rfl (by omega) (by omega) (fun c222 => ?_) (fun c222 => ?_)
                · skip
                  refine r_ex hX hP 3 (pc' := 98) (st' := [(0, 2), (0, 0), (0, w)]) (lo' := [(0, (2, (Ad E 1))), (1, (0, w)), (2, (0, i)), (3, (0, k)), (4, (2, (Ad E 25))), (5, (0, ef212))]) rfl ?_
                  refine r_callS gd hX hP rfl cs_12_310 (d' := 0) (mc' := 0) (ms' := 0) (as' := [(0, w), (0, 0), (0, 2)]) (st := []) (by omega) (by omega) (by omega) rfl rfl (Nat.le_of_ble_eq_true rfl) (c_X12_isIn E S (up (up G 1 (Ad E 1) 1 0) 1 (Ad E 1) 0 0) w 0 2 (by omega) (by omega) (by omega) (by omega) (by omega) (by omega)) ?_
                  rintro _ _ _ ⟨rfl, rfl, z223, rfl, (⟨rfl, f224, f225⟩ | ⟨rfl, f226⟩)⟩
                  · skip
                    refine r_if_eq hX hP rfl (tgt := 111) rfl (by omega) (by omega) (fun c227 => ?_) (fun c227 => ?_)
                    · skip
                      exfalso; omega
                    · skip
                      refine r_ex hX hP 1 (pc' := 105) (st' := [(0, k)]) (lo' := [(0, (2, (Ad E 1))), (1, (0, w)), (2, (0, i)), (3, (0, k)), (4, (2, (Ad E 25))), (5, (0, ef212))]) rfl ?_
                      refine r_callS gd hX hP rfl cs_12_317 (d' := 1) (mc' := 0) (ms' := 0) (as' := [(0, k)]) (st := []) (by omega) (by omega) (by omega) rfl rfl (Nat.le_of_ble_eq_true rfl) (c_X12_isDay E S (up (up G 1 (Ad E 1) 1 0) 1 (Ad E 1) 0 0) k (by omega) (by omega)) ?_
                      rintro _ _ _ ⟨rfl, rfl, z228, rfl, (⟨rfl, f229, f230⟩ | ⟨rfl, f231⟩)⟩
                      · skip
                        refine r_if_ne hX hP rfl (tgt := 117) rfl (by omega) (by omega) (fun c232 => ?_) (fun c232 => ?_)
                        · skip
                          refine r_ex hX hP 2 (pc' := 119) (st' := [(2, (Ad E 1)), (0, k)]) (lo' := [(0, (2, (Ad E 1))), (1, (0, w)), (2, (0, i)), (3, (0, k)), (4, (2, (Ad E 25))), (5, (0, ef212))]) rfl ?_
                          refine r_getI hX hP rfl fl_12_339 hS (fun lf233 lf233e lf233a lf233b => ?_)
                          refine r_ic_lt hX hP rfl (tgt := 135) rfl (by omega) (by omega) (by omega) (by omega) (fun c234 => ?_) (fun c234 => ?_)
                          · skip
                            refine r_ex hX hP 2 (pc' := 137) (st' := [(0, 4), (2, (Ad E 1))]) (lo' := [(0, (2, (Ad E 1))), (1, (0, w)), (2, (0, i)), (3, (0, k)), (4, (2, (Ad E 25))), (5, (0, ef212))]) rfl ?_
                            refine r_callV gd hX hP rfl cv_12_321 hS (d' := 0) (mc' := 0) (ms' := 0) (as' := [(0, 4)]) (st := []) (by omega) (by omega) (by omega) rfl rfl (Nat.le_of_ble_eq_true rfl) (c_X12_no E S (up (up G 1 (Ad E 1) 1 0) 1 (Ad E 1) 0 0) 4 hS (by omega) (by omega)) ?_
                            rintro _ _ _ ⟨rfl, ⟨G235, rfl⟩, z236, rfl, rfl⟩
                            exact r_retZ hX hP rfl rfl (by omega) (by omega) (by omega) (by omega) ⟨rfl, ⟨_, (hq_call (hq_up (hq_up (hq_refl _ _ _) rfl) rfl) rfl).symm⟩, 0, rfl, (by omega)⟩
                          · skip
                            refine r_ex hX hP 2 (pc' := 128) (st' := [(0, i), (2, (Ad E 25))]) (lo' := [(0, (2, (Ad E 1))), (1, (0, w)), (2, (0, i)), (3, (0, k)), (4, (2, (Ad E 25))), (5, (0, ef212))]) rfl ?_
                            refine r_iald hX hP rfl al_25 s209 (by omega) (by omega) (fun x237 x237e x237a x237b => ?_)
                            refine r_ldcw hX hP rfl (v := 1000000000) (tbg sg9 109 rfl rfl) ?_
                            refine r_ic_ge hX hP rfl (tgt := 141) rfl (by omega) (by omega) (by omega) (by omega) (fun c238 => ?_) (fun c238 => ?_)
                            · skip
                              refine r_ex hX hP 3 (pc' := 145) (st' := [(0, k), (0, i), (2, (Ad E 25))]) (lo' := [(0, (2, (Ad E 1))), (1, (0, w)), (2, (0, i)), (3, (0, k)), (4, (2, (Ad E 25))), (5, (0, ef212))]) rfl ?_
                              refine r_iastK hX hP rfl al_25 s209 (by omega) (by omega) (by omega) (by omega) (fun h239 => ?_)
                              refine r_ex hX hP 2 (pc' := 148) (st' := [(0, k), (2, (Ad E 1))]) (lo' := [(0, (2, (Ad E 1))), (1, (0, w)), (2, (0, i)), (3, (0, k)), (4, (2, (Ad E 25))), (5, (0, ef212))]) rfl ?_
                              refine r_putIK hX hP rfl fp_12_339 hS (by omega) (by omega) (fun h240 => ?_)
                              refine r_ex hX hP 1 (pc' := 152) (st' := [(0, 1)]) (lo' := [(0, (2, (Ad E 1))), (1, (0, w)), (2, (0, i)), (3, (0, k)), (4, (2, (Ad E 25))), (5, (0, ef212))]) rfl ?_
                              exact r_retZ hX hP rfl rfl (by omega) (by omega) (by omega) (by omega) ⟨rfl, ⟨_, (hq_up (hq_up (hq_up (hq_up (hq_refl _ _ _) rfl) rfl) rfl) rfl).symm⟩, 1, rfl, (by omega)⟩
                            · skip
                              refine r_ex hX hP 2 (pc' := 137) (st' := [(0, 4), (2, (Ad E 1))]) (lo' := [(0, (2, (Ad E 1))), (1, (0, w)), (2, (0, i)), (3, (0, k)), (4, (2, (Ad E 25))), (5, (0, ef212))]) rfl ?_
                              refine r_callV gd hX hP rfl cv_12_321 hS (d' := 0) (mc' := 0) (ms' := 0) (as' := [(0, 4)]) (st := []) (by omega) (by omega) (by omega) rfl rfl (Nat.le_of_ble_eq_true rfl) (c_X12_no E S (up (up G 1 (Ad E 1) 1 0) 1 (Ad E 1) 0 0) 4 hS (by omega) (by omega)) ?_
                              rintro _ _ _ ⟨rfl, ⟨G241, rfl⟩, z242, rfl, rfl⟩
                              exact r_retZ hX hP rfl rfl (by omega) (by omega) (by omega) (by omega) ⟨rfl, ⟨_, (hq_call (hq_up (hq_up (hq_refl _ _ _) rfl) rfl) rfl).symm⟩, 0, rfl, (by omega)⟩
                        · skip
                          exfalso; omega
                      · skip
                        refine r_if_ne hX hP rfl (tgt := 117) rfl (by omega) (by omega) (fun c243 => ?_) (fun c243 => ?_)
                        · skip
                          exfalso; omega
                        · skip
                          refine r_ex hX hP 2 (pc' := 113) (st' := [(0, 2), (2, (Ad E 1))]) (lo' := [(0, (2, (Ad E 1))), (1, (0, w)), (2, (0, i)), (3, (0, k)), (4, (2, (Ad E 25))), (5, (0, ef212))]) rfl ?_
                          refine r_callV gd hX hP rfl cv_12_321 hS (d' := 0) (mc' := 0) (ms' := 0) (as' := [(0, 2)]) (st := []) (by omega) (by omega) (by omega) rfl rfl (Nat.le_of_ble_eq_true rfl) (c_X12_no E S (up (up G 1 (Ad E 1) 1 0) 1 (Ad E 1) 0 0) 2 hS (by omega) (by omega)) ?_
                          rintro _ _ _ ⟨rfl, ⟨G244, rfl⟩, z245, rfl, rfl⟩
                          exact r_retZ hX hP rfl rfl (by omega) (by omega) (by omega) (by omega) ⟨rfl, ⟨_, (hq_call (hq_up (hq_up (hq_refl _ _ _) rfl) rfl) rfl).symm⟩, 0, rfl, (by omega)⟩
                  · skip
                    refine r_if_eq hX hP rfl (tgt := 111) rfl (by omega) (by omega) (fun c246 => ?_) (fun c246 => ?_)
                    · skip
                      refine r_ex hX hP 2 (pc' := 113) (st' := [(0, 2), (2, (Ad E 1))]) (lo' := [(0, (2, (Ad E 1))), (1, (0, w)), (2, (0, i)), (3, (0, k)), (4, (2, (Ad E 25))), (5, (0, ef212))]) rfl ?_
                      refine r_callV gd hX hP rfl cv_12_321 hS (d' := 0) (mc' := 0) (ms' := 0) (as' := [(0, 2)]) (st := []) (by omega) (by omega) (by omega) rfl rfl (Nat.le_of_ble_eq_true rfl) (c_X12_no E S (up (up G 1 (Ad E 1) 1 0) 1 (Ad E 1) 0 0) 2 hS (by omega) (by omega)) ?_
                      rintro _ _ _ ⟨rfl, ⟨G247, rfl⟩, z248, rfl, rfl⟩
                      exact r_retZ hX hP rfl rfl (by omega) (by omega) (by omega) (by omega) ⟨rfl, ⟨_, (hq_call (hq_up (hq_up (hq_refl _ _ _) rfl) rfl) rfl).symm⟩, 0, rfl, (by omega)⟩
                    · skip
                      exfalso; omega
                · skip
                  exfalso; omega
              · skip
                refine r_if_ne hX hP rfl (tgt := 95) rfl (by omega) (by omega) (fun c249 => ?_) (fun c249 => ?_)
                · skip
                  exfalso; omega
                · skip
                  refine r_ex hX hP 2 (pc' := 91) (st' := [(0, 1), (2, (Ad E 1))]) (lo' := [(0, (2, (Ad E 1))), (1, (0, w)), (2, (0, i)), (3, (0, k)), (4, (2, (Ad E 25))), (5, (0, ef212))]) rfl ?_
                  refine r_callV gd hX hP rfl cv_12_321 hS (d' := 0) (mc' := 0) (ms' := 0) (as' := [(0, 1)]) (st := []) (by omega) (by omega) (by omega) rfl rfl (Nat.le_of_ble_eq_true rfl) (c_X12_no E S (up (up G 1 (Ad E 1) 1 0) 1 (Ad E 1) 0 0) 1 hS (by omega) (by omega)) ?_
                  rintro _ _ _ ⟨rfl, ⟨G250, rfl⟩, z251, rfl, rfl⟩
                  exact r_retZ hX hP rfl rfl (by omega) (by omega) (by omega) (by omega) ⟨rfl, ⟨_, (hq_call (hq_up (hq_up (hq_refl _ _ _) rfl) rfl) rfl).symm⟩, 0, rfl, (by omega)⟩
          · skip
            refine r_if_eq hX hP rfl (tgt := 95) rfl (by omega) (by omega) (fun c252 => ?_) (fun c252 => ?_)
            · skip
              refine r_ex hX hP 3 (pc' := 98) (st' := [(0, 2), (0, 0), (0, w)]) (lo' := [(0, (2, (Ad E 1))), (1, (0, w)), (2, (0, i)), (3, (0, k)), (4, (2, (Ad E 25))), (5, (0, ef212))]) rfl ?_
              refine r_callS gd hX hP rfl cs_12_310 (d' := 0) (mc' := 0) (ms' := 0) (as' := [(0, w), (0, 0), (0, 2)]) (st := []) (by omega) (by omega) (by omega) rfl rfl (Nat.le_of_ble_eq_true rfl) (c_X12_isIn E S (up (up G 1 (Ad E 1) 1 0) 1 (Ad E 1) 0 0) w 0 2 (by omega) (by omega) (by omega) (by omega) (by omega) (by omega)) ?_
              rintro _ _ _ ⟨rfl, rfl, z253, rfl, (⟨rfl, f254, f255⟩ | ⟨rfl, f256⟩)⟩
              · skip
                refine r_if_eq hX hP rfl (tgt := 111) rfl (by omega) (by omega) (fun c257 => ?_) (fun c257 => ?_)
                · skip
                  exfalso; omega
                · skip
                  refine r_ex hX hP 1 (pc' := 105) (st' := [(0, k)]) (lo' := [(0, (2, (Ad E 1))), (1, (0, w)), (2, (0, i)), (3, (0, k)), (4, (2, (Ad E 25))), (5, (0, ef212))]) rfl ?_
                  refine r_callS gd hX hP rfl cs_12_317 (d' := 1) (mc' := 0) (ms' := 0) (as' := [(0, k)]) (st := []) (by omega) (by omega) (by omega) rfl rfl (Nat.le_of_ble_eq_true rfl) (c_X12_isDay E S (up (up G 1 (Ad E 1) 1 0) 1 (Ad E 1) 0 0) k (by omega) (by omega)) ?_
                  rintro _ _ _ ⟨rfl, rfl, z258, rfl, (⟨rfl, f259, f260⟩ | ⟨rfl, f261⟩)⟩
                  · skip
                    refine r_if_ne hX hP rfl (tgt := 117) rfl (by omega) (by omega) (fun c262 => ?_) (fun c262 => ?_)
                    · skip
                      refine r_ex hX hP 2 (pc' := 119) (st' := [(2, (Ad E 1)), (0, k)]) (lo' := [(0, (2, (Ad E 1))), (1, (0, w)), (2, (0, i)), (3, (0, k)), (4, (2, (Ad E 25))), (5, (0, ef212))]) rfl ?_
                      refine r_getI hX hP rfl fl_12_339 hS (fun lf263 lf263e lf263a lf263b => ?_)
                      refine r_ic_lt hX hP rfl (tgt := 135) rfl (by omega) (by omega) (by omega) (by omega) (fun c264 => ?_) (fun c264 => ?_)
                      · skip
                        refine r_ex hX hP 2 (pc' := 137) (st' := [(0, 4), (2, (Ad E 1))]) (lo' := [(0, (2, (Ad E 1))), (1, (0, w)), (2, (0, i)), (3, (0, k)), (4, (2, (Ad E 25))), (5, (0, ef212))]) rfl ?_
                        refine r_callV gd hX hP rfl cv_12_321 hS (d' := 0) (mc' := 0) (ms' := 0) (as' := [(0, 4)]) (st := []) (by omega) (by omega) (by omega) rfl rfl (Nat.le_of_ble_eq_true rfl) (c_X12_no E S (up (up G 1 (Ad E 1) 1 0) 1 (Ad E 1) 0 0) 4 hS (by omega) (by omega)) ?_
                        rintro _ _ _ ⟨rfl, ⟨G265, rfl⟩, z266, rfl, rfl⟩
                        exact r_retZ hX hP rfl rfl (by omega) (by omega) (by omega) (by omega) ⟨rfl, ⟨_, (hq_call (hq_up (hq_up (hq_refl _ _ _) rfl) rfl) rfl).symm⟩, 0, rfl, (by omega)⟩
                      · skip
                        refine r_ex hX hP 2 (pc' := 128) (st' := [(0, i), (2, (Ad E 25))]) (lo' := [(0, (2, (Ad E 1))), (1, (0, w)), (2, (0, i)), (3, (0, k)), (4, (2, (Ad E 25))), (5, (0, ef212))]) rfl ?_
                        refine r_iald hX hP rfl al_25 s209 (by omega) (by omega) (fun x267 x267e x267a x267b => ?_)
                        refine r_ldcw hX hP rfl (v := 1000000000) (tbg sg9 109 rfl rfl) ?_
                        refine r_ic_ge hX hP rfl (tgt := 141) rfl (by omega) (by omega) (by omega) (by omega) (fun c268 => ?_) (fun c268 => ?_)
                        · skip
                          refine r_ex hX hP 3 (pc' := 145) (st' := [(0, k), (0, i), (2, (Ad E 25))]) (lo' := [(0, (2, (Ad E 1))), (1, (0, w)), (2, (0, i)), (3, (0, k)), (4, (2, (Ad E 25))), (5, (0, ef212))]) rfl ?_
                          refine r_iastK hX hP rfl al_25 s209 (by omega) (by omega) (by omega) (by omega) (fun h269 => ?_)
                          refine r_ex hX hP 2 (pc' := 148) (st' := [(0, k), (2, (Ad E 1))]) (lo' := [(0, (2, (Ad E 1))), (1, (0, w)), (2, (0, i)), (3, (0, k)), (4, (2, (Ad E 25))), (5, (0, ef212))]) rfl ?_
                          refine r_putIK hX hP rfl fp_12_339 hS (by omega) (by omega) (fun h270 => ?_)
                          refine r_ex hX hP 1 (pc' := 152) (st' := [(0, 1)]) (lo' := [(0, (2, (Ad E 1))), (1, (0, w)), (2, (0, i)), (3, (0, k)), (4, (2, (Ad E 25))), (5, (0, ef212))]) rfl ?_
                          exact r_retZ hX hP rfl rfl (by omega) (by omega) (by omega) (by omega) ⟨rfl, ⟨_, (hq_up (hq_up (hq_up (hq_up (hq_refl _ _ _) rfl) rfl) rfl) rfl).symm⟩, 1, rfl, (by omega)⟩
                        · skip
                          refine r_ex hX hP 2 (pc' := 137) (st' := [(0, 4), (2, (Ad E 1))]) (lo' := [(0, (2, (Ad E 1))), (1, (0, w)), (2, (0, i)), (3, (0, k)), (4, (2, (Ad E 25))), (5, (0, ef212))]) rfl ?_
                          refine r_callV gd hX hP rfl cv_12_321 hS (d' := 0) (mc' := 0) (ms' := 0) (as' := [(0, 4)]) (st := []) (by omega) (by omega) (by omega) rfl rfl (Nat.le_of_ble_eq_true rfl) (c_X12_no E S (up (up G 1 (Ad E 1) 1 0) 1 (Ad E 1) 0 0) 4 hS (by omega) (by omega)) ?_
                          rintro _ _ _ ⟨rfl, ⟨G271, rfl⟩, z272, rfl, rfl⟩
                          exact r_retZ hX hP rfl rfl (by omega) (by omega) (by omega) (by omega) ⟨rfl, ⟨_, (hq_call (hq_up (hq_up (hq_refl _ _ _) rfl) rfl) rfl).symm⟩, 0, rfl, (by omega)⟩
                    · skip
                      exfalso; omega
                  · skip
                    refine r_if_ne hX hP rfl (tgt := 117) rfl (by omega) (by omega) (fun c273 => ?_) (fun c273 => ?_)
                    · skip
                      exfalso; omega
                    · skip
                      refine r_ex hX hP 2 (pc' := 113) (st' := [(0, 2), (2, (Ad E 1))]) (lo' := [(0, (2, (Ad E 1))), (1, (0, w)), (2, (0, i)), (3, (0, k)), (4, (2, (Ad E 25))), (5, (0, ef212))]) rfl ?_
                      refine r_callV gd hX hP rfl cv_12_321 hS (d' := 0) (mc' := 0) (ms' := 0) (as' := [(0, 2)]) (st := []) (by omega) (by omega) (by omega) rfl rfl (Nat.le_of_ble_eq_true rfl) (c_X12_no E S (up (up G 1 (Ad E 1) 1 0) 1 (Ad E 1) 0 0) 2 hS (by omega) (by omega)) ?_
                      rintro _ _ _ ⟨rfl, ⟨G274, rfl⟩, z275, rfl, rfl⟩
                      exact r_retZ hX hP rfl rfl (by omega) (by omega) (by omega) (by omega) ⟨rfl, ⟨_, (hq_call (hq_up (hq_up (hq_refl _ _ _) rfl) rfl) rfl).symm⟩, 0, rfl, (by omega)⟩
              · skip
                refine r_if_eq hX hP rfl (tgt := 111) rfl (by omega) (by omega) (fun c276 => ?_) (fun c276 => ?_)
                · skip
                  refine r_ex hX hP 2 (pc' := 113) (st' := [(0, 2), (2, (Ad E 1))]) (lo' := [(0, (2, (Ad E 1))), (1, (0, w)), (2, (0, i)), (3, (0, k)), (4, (2, (Ad E 25))), (5, (0, ef212))]) rfl ?_
                  refine r_callV gd hX hP rfl cv_12_321 hS (d' := 0) (mc' := 0) (ms' := 0) (as' := [(0, 2)]) (st := []) (by omega) (by omega) (by omega) rfl rfl (Nat.le_of_ble_eq_true rfl) (c_X12_no E S (up (up G 1 (Ad E 1) 1 0) 1 (Ad E 1) 0 0) 2 hS (by omega) (by omega)) ?_
                  rintro _ _ _ ⟨rfl, ⟨G277, rfl⟩, z278, rfl, rfl⟩
                  exact r_retZ hX hP rfl rfl (by omega) (by omega) (by omega) (by omega) ⟨rfl, ⟨_, (hq_call (hq_up (hq_up (hq_refl _ _ _) rfl) rfl) rfl).symm⟩, 0, rfl, (by omega)⟩
                · skip
                  exfalso; omega
            · skip
              exfalso; omega
      · skip
        exfalso; omega
  · skip
    refine r_ex hX hP 1 (pc' := 15) (st' := [(2, (Ad E 1))]) (lo' := [(0, (2, (Ad E 1))), (1, (0, w)), (2, (0, i)), (3, (0, k))]) rfl ?_
    refine r_getC hX hP rfl fl_12_67 hS (fun s279 => ?_)
    refine r_ex hX hP 3 (pc' := 40) (st' := [(0, w)]) (lo' := [(0, (2, (Ad E 1))), (1, (0, w)), (2, (0, i)), (3, (0, k)), (4, (2, (Ad E 18)))]) rfl ?_
    refine r_if_ne hX hP rfl (tgt := 50) rfl (by omega) (by omega) (fun c280 => ?_) (fun c280 => ?_)
    · skip
      exfalso; omega
    · skip
      refine r_ex hX hP 1 (pc' := 44) (st' := [(2, (Ad E 1))]) (lo' := [(0, (2, (Ad E 1))), (1, (0, w)), (2, (0, i)), (3, (0, k)), (4, (2, (Ad E 18)))]) rfl ?_
      refine r_getI hX hP rfl fl_12_342 hS (fun tf281 tf281e tf281a tf281b => ?_)
      refine r_ex hX hP 5 (pc' := 71) (st' := [(0, 2), (0, 0), (0, w)]) (lo' := [(0, (2, (Ad E 1))), (1, (0, w)), (2, (0, i)), (3, (0, k)), (4, (2, (Ad E 18))), (5, (0, tf281))]) rfl ?_
      refine r_callS gd hX hP rfl cs_12_310 (d' := 0) (mc' := 0) (ms' := 0) (as' := [(0, w), (0, 0), (0, 2)]) (st := []) (by omega) (by omega) (by omega) rfl rfl (Nat.le_of_ble_eq_true rfl) (c_X12_isIn E S (up (up G 1 (Ad E 1) 1 0) 1 (Ad E 1) 0 0) w 0 2 (by omega) (by omega) (by omega) (by omega) (by omega) (by omega)) ?_
      rintro _ _ _ ⟨rfl, rfl, z282, rfl, (⟨rfl, f283, f284⟩ | ⟨rfl, f285⟩)⟩
      · skip
        refine r_if_eq hX hP rfl (tgt := 95) rfl (by omega) (by omega) (fun c286 => ?_) (fun c286 => ?_)
        · skip
          exfalso; omega
        · skip
          refine r_ex hX hP 5 (pc' := 83) (st' := [(0, (tf281 - 1)), (0, 0), (0, i)]) (lo' := [(0, (2, (Ad E 1))), (1, (0, w)), (2, (0, i)), (3, (0, k)), (4, (2, (Ad E 18))), (5, (0, tf281))]) rfl ?_
          refine r_callS gd hX hP rfl cs_12_310 (d' := 0) (mc' := 0) (ms' := 0) (as' := [(0, i), (0, 0), (0, (tf281 - 1))]) (st := []) (by omega) (by omega) (by omega) rfl rfl (Nat.le_of_ble_eq_true rfl) (c_X12_isIn E S (up (up G 1 (Ad E 1) 1 0) 1 (Ad E 1) 0 0) i 0 (tf281 - 1) (by omega) (by omega) (by omega) (by omega) (by omega) (by omega)) ?_
          rintro _ _ _ ⟨rfl, rfl, z287, rfl, (⟨rfl, f288, f289⟩ | ⟨rfl, f290⟩)⟩
          · skip
            refine r_if_ne hX hP rfl (tgt := 95) rfl (by omega) (by omega) (fun c291 => ?_) (fun c291 => ?_)
            · skip
              refine r_ex hX hP 3 (pc' := 98) (st' := [(0, 2), (0, 0), (0, w)]) (lo' := [(0, (2, (Ad E 1))), (1, (0, w)), (2, (0, i)), (3, (0, k)), (4, (2, (Ad E 18))), (5, (0, tf281))]) rfl ?_
              refine r_callS gd hX hP rfl cs_12_310 (d' := 0) (mc' := 0) (ms' := 0) (as' := [(0, w), (0, 0), (0, 2)]) (st := []) (by omega) (by omega) (by omega) rfl rfl (Nat.le_of_ble_eq_true rfl) (c_X12_isIn E S (up (up G 1 (Ad E 1) 1 0) 1 (Ad E 1) 0 0) w 0 2 (by omega) (by omega) (by omega) (by omega) (by omega) (by omega)) ?_
              rintro _ _ _ ⟨rfl, rfl, z292, rfl, (⟨rfl, f293, f294⟩ | ⟨rfl, f295⟩)⟩
              · skip
                refine r_if_eq hX hP rfl (tgt := 111) rfl (by omega) (by omega) (fun c296 => ?_) (fun c296 => ?_)
                · skip
                  exfalso; omega
                · skip
                  refine r_ex hX hP 1 (pc' := 105) (st' := [(0, k)]) (lo' := [(0, (2, (Ad E 1))), (1, (0, w)), (2, (0, i)), (3, (0, k)), (4, (2, (Ad E 18))), (5, (0, tf281))]) rfl ?_
                  refine r_callS gd hX hP rfl cs_12_317 (d' := 1) (mc' := 0) (ms' := 0) (as' := [(0, k)]) (st := []) (by omega) (by omega) (by omega) rfl rfl (Nat.le_of_ble_eq_true rfl) (c_X12_isDay E S (up (up G 1 (Ad E 1) 1 0) 1 (Ad E 1) 0 0) k (by omega) (by omega)) ?_
                  rintro _ _ _ ⟨rfl, rfl, z297, rfl, (⟨rfl, f298, f299⟩ | ⟨rfl, f300⟩)⟩
                  · skip
                    refine r_if_ne hX hP rfl (tgt := 117) rfl (by omega) (by omega) (fun c301 => ?_) (fun c301 => ?_)
                    · skip
                      refine r_ex hX hP 2 (pc' := 119) (st' := [(2, (Ad E 1)), (0, k)]) (lo' := [(0, (2, (Ad E 1))), (1, (0, w)), (2, (0, i)), (3, (0, k)), (4, (2, (Ad E 18))), (5, (0, tf281))]) rfl ?_
                      refine r_getI hX hP rfl fl_12_339 hS (fun lf302 lf302e lf302a lf302b => ?_)
                      refine r_ic_lt hX hP rfl (tgt := 135) rfl (by omega) (by omega) (by omega) (by omega) (fun c303 => ?_) (fun c303 => ?_)
                      · skip
                        refine r_ex hX hP 2 (pc' := 137) (st' := [(0, 4), (2, (Ad E 1))]) (lo' := [(0, (2, (Ad E 1))), (1, (0, w)), (2, (0, i)), (3, (0, k)), (4, (2, (Ad E 18))), (5, (0, tf281))]) rfl ?_
                        refine r_callV gd hX hP rfl cv_12_321 hS (d' := 0) (mc' := 0) (ms' := 0) (as' := [(0, 4)]) (st := []) (by omega) (by omega) (by omega) rfl rfl (Nat.le_of_ble_eq_true rfl) (c_X12_no E S (up (up G 1 (Ad E 1) 1 0) 1 (Ad E 1) 0 0) 4 hS (by omega) (by omega)) ?_
                        rintro _ _ _ ⟨rfl, ⟨G304, rfl⟩, z305, rfl, rfl⟩
                        exact r_retZ hX hP rfl rfl (by omega) (by omega) (by omega) (by omega) ⟨rfl, ⟨_, (hq_call (hq_up (hq_up (hq_refl _ _ _) rfl) rfl) rfl).symm⟩, 0, rfl, (by omega)⟩
                      · skip
                        refine r_ex hX hP 2 (pc' := 128) (st' := [(0, i), (2, (Ad E 18))]) (lo' := [(0, (2, (Ad E 1))), (1, (0, w)), (2, (0, i)), (3, (0, k)), (4, (2, (Ad E 18))), (5, (0, tf281))]) rfl ?_
                        refine r_iald hX hP rfl al_18 s279 (by omega) (by omega) (fun x306 x306e x306a x306b => ?_)
                        refine r_ldcw hX hP rfl (v := 1000000000) (tbg sg9 109 rfl rfl) ?_
                        refine r_ic_ge hX hP rfl (tgt := 141) rfl (by omega) (by omega) (by omega) (by omega) (fun c307 => ?_) (fun c307 => ?_)
                        · skip
                          refine r_ex hX hP 3 (pc' := 145) (st' := [(0, k), (0, i), (2, (Ad E 18))]) (lo' := [(0, (2, (Ad E 1))), (1, (0, w)), (2, (0, i)), (3, (0, k)), (4, (2, (Ad E 18))), (5, (0, tf281))]) rfl ?_
                          refine r_iastK hX hP rfl al_18 s279 (by omega) (by omega) (by omega) (by omega) (fun h308 => ?_)
                          refine r_ex hX hP 2 (pc' := 148) (st' := [(0, k), (2, (Ad E 1))]) (lo' := [(0, (2, (Ad E 1))), (1, (0, w)), (2, (0, i)), (3, (0, k)), (4, (2, (Ad E 18))), (5, (0, tf281))]) rfl ?_
                          refine r_putIK hX hP rfl fp_12_339 hS (by omega) (by omega) (fun h309 => ?_)
                          refine r_ex hX hP 1 (pc' := 152) (st' := [(0, 1)]) (lo' := [(0, (2, (Ad E 1))), (1, (0, w)), (2, (0, i)), (3, (0, k)), (4, (2, (Ad E 18))), (5, (0, tf281))]) rfl ?_
                          exact r_retZ hX hP rfl rfl (by omega) (by omega) (by omega) (by omega) ⟨rfl, ⟨_, (hq_up (hq_up (hq_up (hq_up (hq_refl _ _ _) rfl) rfl) rfl) rfl).symm⟩, 1, rfl, (by omega)⟩
                        · skip
                          refine r_ex hX hP 2 (pc' := 137) (st' := [(0, 4), (2, (Ad E 1))]) (lo' := [(0, (2, (Ad E 1))), (1, (0, w)), (2, (0, i)), (3, (0, k)), (4, (2, (Ad E 18))), (5, (0, tf281))]) rfl ?_
                          refine r_callV gd hX hP rfl cv_12_321 hS (d' := 0) (mc' := 0) (ms' := 0) (as' := [(0, 4)]) (st := []) (by omega) (by omega) (by omega) rfl rfl (Nat.le_of_ble_eq_true rfl) (c_X12_no E S (up (up G 1 (Ad E 1) 1 0) 1 (Ad E 1) 0 0) 4 hS (by omega) (by omega)) ?_
                          rintro _ _ _ ⟨rfl, ⟨G310, rfl⟩, z311, rfl, rfl⟩
                          exact r_retZ hX hP rfl rfl (by omega) (by omega) (by omega) (by omega) ⟨rfl, ⟨_, (hq_call (hq_up (hq_up (hq_refl _ _ _) rfl) rfl) rfl).symm⟩, 0, rfl, (by omega)⟩
                    · skip
                      exfalso; omega
                  · skip
                    refine r_if_ne hX hP rfl (tgt := 117) rfl (by omega) (by omega) (fun c312 => ?_) (fun c312 => ?_)
                    · skip
                      exfalso; omega
                    · skip
                      refine r_ex hX hP 2 (pc' := 113) (st' := [(0, 2), (2, (Ad E 1))]) (lo' := [(0, (2, (Ad E 1))), (1, (0, w)), (2, (0, i)), (3, (0, k)), (4, (2, (Ad E 18))), (5, (0, tf281))]) rfl ?_
                      refine r_callV gd hX hP rfl cv_12_321 hS (d' := 0) (mc' := 0) (ms' := 0) (as' := [(0, 2)]) (st := []) (by omega) (by omega) (by omega) rfl rfl (Nat.le_of_ble_eq_true rfl) (c_X12_no E S (up (up G 1 (Ad E 1) 1 0) 1 (Ad E 1) 0 0) 2 hS (by omega) (by omega)) ?_
                      rintro _ _ _ ⟨rfl, ⟨G313, rfl⟩, z314, rfl, rfl⟩
                      exact r_retZ hX hP rfl rfl (by omega) (by omega) (by omega) (by omega) ⟨rfl, ⟨_, (hq_call (hq_up (hq_up (hq_refl _ _ _) rfl) rfl) rfl).symm⟩, 0, rfl, (by omega)⟩
              · skip
                refine r_if_eq hX hP rfl (tgt := 111) rfl (by omega) (by omega) (fun c315 => ?_) (fun c315 => ?_)
                · skip
                  refine r_ex hX hP 2 (pc' := 113) (st' := [(0, 2), (2, (Ad E 1))]) (lo' := [(0, (2, (Ad E 1))), (1, (0, w)), (2, (0, i)), (3, (0, k)), (4, (2, (Ad E 18))), (5, (0, tf281))]) rfl ?_
                  refine r_callV gd hX hP rfl cv_12_321 hS (d' := 0) (mc' := 0) (ms' := 0) (as' := [(0, 2)]) (st := []) (by omega) (by omega) (by omega) rfl rfl (Nat.le_of_ble_eq_true rfl) (c_X12_no E S (up (up G 1 (Ad E 1) 1 0) 1 (Ad E 1) 0 0) 2 hS (by omega) (by omega)) ?_
                  rintro _ _ _ ⟨rfl, ⟨G316, rfl⟩, z317, rfl, rfl⟩
                  exact r_retZ hX hP rfl rfl (by omega) (by omega) (by omega) (by omega) ⟨rfl, ⟨_, (hq_call (hq_up (hq_up (hq_refl _ _ _) rfl) rfl) rfl).symm⟩, 0, rfl, (by omega)⟩
                · skip
                  exfalso; omega
            · skip
              exfalso; omega
          · skip
            refine r_if_ne hX hP rfl (tgt := 95) rfl (by omega) (by omega) (fun c318 => ?_) (fun c318 => ?_)
            · skip
              exfalso; omega
            · skip
              refine r_ex hX hP 2 (pc' := 91) (st' := [(0, 1), (2, (Ad E 1))]) (lo' := [(0, (2, (Ad E 1))), (1, (0, w)), (2, (0, i)), (3, (0, k)), (4, (2, (Ad E 18))), (5, (0, tf281))]) rfl ?_
              refine r_callV gd hX hP rfl cv_12_321 hS (d' := 0) (mc' := 0) (ms' := 0) (as' := [(0, 1)]) (st := []) (by omega) (by omega) (by omega) rfl rfl (Nat.le_of_ble_eq_true rfl) (c_X12_no E S (up (up G 1 (Ad E 1) 1 0) 1 (Ad E 1) 0 0) 1 hS (by omega) (by omega)) ?_
              rintro _ _ _ ⟨rfl, ⟨G319, rfl⟩, z320, rfl, rfl⟩
              exact r_retZ hX hP rfl rfl (by omega) (by omega) (by omega) (by omega) ⟨rfl, ⟨_, (hq_call (hq_up (hq_up (hq_refl _ _ _) rfl) rfl) rfl).symm⟩, 0, rfl, (by omega)⟩
      · skip
        refine r_if_eq hX hP rfl (tgt := 95) rfl (by omega) (by omega) (fun c321 => ?_) (fun c321 => ?_)
        · skip
          refine r_ex hX hP 3 (pc' := 98) (st' := [(0, 2), (0, 0), (0, w)]) (lo' := [(0, (2, (Ad E 1))), (1, (0, w)), (2, (0, i)), (3, (0, k)), (4, (2, (Ad E 18))), (5, (0, tf281))]) rfl ?_
          refine r_callS gd hX hP rfl cs_12_310 (d' := 0) (mc' := 0) (ms' := 0) (as' := [(0, w), (0, 0), (0, 2)]) (st := []) (by omega) (by omega) (by omega) rfl rfl (Nat.le_of_ble_eq_true rfl) (c_X12_isIn E S (up (up G 1 (Ad E 1) 1 0) 1 (Ad E 1) 0 0) w 0 2 (by omega) (by omega) (by omega) (by omega) (by omega) (by omega)) ?_
          rintro _ _ _ ⟨rfl, rfl, z322, rfl, (⟨rfl, f323, f324⟩ | ⟨rfl, f325⟩)⟩
          · skip
            refine r_if_eq hX hP rfl (tgt := 111) rfl (by omega) (by omega) (fun c326 => ?_) (fun c326 => ?_)
            · skip
              exfalso; omega
            · skip
              refine r_ex hX hP 1 (pc' := 105) (st' := [(0, k)]) (lo' := [(0, (2, (Ad E 1))), (1, (0, w)), (2, (0, i)), (3, (0, k)), (4, (2, (Ad E 18))), (5, (0, tf281))]) rfl ?_
              refine r_callS gd hX hP rfl cs_12_317 (d' := 1) (mc' := 0) (ms' := 0) (as' := [(0, k)]) (st := []) (by omega) (by omega) (by omega) rfl rfl (Nat.le_of_ble_eq_true rfl) (c_X12_isDay E S (up (up G 1 (Ad E 1) 1 0) 1 (Ad E 1) 0 0) k (by omega) (by omega)) ?_
              rintro _ _ _ ⟨rfl, rfl, z327, rfl, (⟨rfl, f328, f329⟩ | ⟨rfl, f330⟩)⟩
              · skip
                refine r_if_ne hX hP rfl (tgt := 117) rfl (by omega) (by omega) (fun c331 => ?_) (fun c331 => ?_)
                · skip
                  refine r_ex hX hP 2 (pc' := 119) (st' := [(2, (Ad E 1)), (0, k)]) (lo' := [(0, (2, (Ad E 1))), (1, (0, w)), (2, (0, i)), (3, (0, k)), (4, (2, (Ad E 18))), (5, (0, tf281))]) rfl ?_
                  refine r_getI hX hP rfl fl_12_339 hS (fun lf332 lf332e lf332a lf332b => ?_)
                  refine r_ic_lt hX hP rfl (tgt := 135) rfl (by omega) (by omega) (by omega) (by omega) (fun c333 => ?_) (fun c333 => ?_)
                  · skip
                    refine r_ex hX hP 2 (pc' := 137) (st' := [(0, 4), (2, (Ad E 1))]) (lo' := [(0, (2, (Ad E 1))), (1, (0, w)), (2, (0, i)), (3, (0, k)), (4, (2, (Ad E 18))), (5, (0, tf281))]) rfl ?_
                    refine r_callV gd hX hP rfl cv_12_321 hS (d' := 0) (mc' := 0) (ms' := 0) (as' := [(0, 4)]) (st := []) (by omega) (by omega) (by omega) rfl rfl (Nat.le_of_ble_eq_true rfl) (c_X12_no E S (up (up G 1 (Ad E 1) 1 0) 1 (Ad E 1) 0 0) 4 hS (by omega) (by omega)) ?_
                    rintro _ _ _ ⟨rfl, ⟨G334, rfl⟩, z335, rfl, rfl⟩
                    exact r_retZ hX hP rfl rfl (by omega) (by omega) (by omega) (by omega) ⟨rfl, ⟨_, (hq_call (hq_up (hq_up (hq_refl _ _ _) rfl) rfl) rfl).symm⟩, 0, rfl, (by omega)⟩
                  · skip
                    refine r_ex hX hP 2 (pc' := 128) (st' := [(0, i), (2, (Ad E 18))]) (lo' := [(0, (2, (Ad E 1))), (1, (0, w)), (2, (0, i)), (3, (0, k)), (4, (2, (Ad E 18))), (5, (0, tf281))]) rfl ?_
                    refine r_iald hX hP rfl al_18 s279 (by omega) (by omega) (fun x336 x336e x336a x336b => ?_)
                    refine r_ldcw hX hP rfl (v := 1000000000) (tbg sg9 109 rfl rfl) ?_
                    refine r_ic_ge hX hP rfl (tgt := 141) rfl (by omega) (by omega) (by omega) (by omega) (fun c337 => ?_) (fun c337 => ?_)
                    · skip
                      refine r_ex hX hP 3 (pc' := 145) (st' := [(0, k), (0, i), (2, (Ad E 18))]) (lo' := [(0, (2, (Ad E 1))), (1, (0, w)), (2, (0, i)), (3, (0, k)), (4, (2, (Ad E 18))), (5, (0, tf281))]) rfl ?_
                      refine r_iastK hX hP rfl al_18 s279 (by omega) (by omega) (by omega) (by omega) (fun h338 => ?_)
                      refine r_ex hX hP 2 (pc' := 148) (st' := [(0, k), (2, (Ad E 1))]) (lo' := [(0, (2, (Ad E 1))), (1, (0, w)), (2, (0, i)), (3, (0, k)), (4, (2, (Ad E 18))), (5, (0, tf281))]) rfl ?_
                      refine r_putIK hX hP rfl fp_12_339 hS (by omega) (by omega) (fun h339 => ?_)
                      refine r_ex hX hP 1 (pc' := 152) (st' := [(0, 1)]) (lo' := [(0, (2, (Ad E 1))), (1, (0, w)), (2, (0, i)), (3, (0, k)), (4, (2, (Ad E 18))), (5, (0, tf281))]) rfl ?_
                      exact r_retZ hX hP rfl rfl (by omega) (by omega) (by omega) (by omega) ⟨rfl, ⟨_, (hq_up (hq_up (hq_up (hq_up (hq_refl _ _ _) rfl) rfl) rfl) rfl).symm⟩, 1, rfl, (by omega)⟩
                    · skip
                      refine r_ex hX hP 2 (pc' := 137) (st' := [(0, 4), (2, (Ad E 1))]) (lo' := [(0, (2, (Ad E 1))), (1, (0, w)), (2, (0, i)), (3, (0, k)), (4, (2, (Ad E 18))), (5, (0, tf281))]) rfl ?_
                      refine r_callV gd hX hP rfl cv_12_321 hS (d' := 0) (mc' := 0) (ms' := 0) (as' := [(0, 4)]) (st := []) (by omega) (by omega) (by omega) rfl rfl (Nat.le_of_ble_eq_true rfl) (c_X12_no E S (up (up G 1 (Ad E 1) 1 0) 1 (Ad E 1) 0 0) 4 hS (by omega) (by omega)) ?_
                      rintro _ _ _ ⟨rfl, ⟨G340, rfl⟩, z341, rfl, rfl⟩
                      exact r_retZ hX hP rfl rfl (by omega) (by omega) (by omega) (by omega) ⟨rfl, ⟨_, (hq_call (hq_up (hq_up (hq_refl _ _ _) rfl) rfl) rfl).symm⟩, 0, rfl, (by omega)⟩
                · skip
                  exfalso; omega
              · skip
                refine r_if_ne hX hP rfl (tgt := 117) rfl (by omega) (by omega) (fun c342 => ?_) (fun c342 => ?_)
                · skip
                  exfalso; omega
                · skip
                  refine r_ex hX hP 2 (pc' := 113) (st' := [(0, 2), (2, (Ad E 1))]) (lo' := [(0, (2, (Ad E 1))), (1, (0, w)), (2, (0, i)), (3, (0, k)), (4, (2, (Ad E 18))), (5, (0, tf281))]) rfl ?_
                  refine r_callV gd hX hP rfl cv_12_321 hS (d' := 0) (mc' := 0) (ms' := 0) (as' := [(0, 2)]) (st := []) (by omega) (by omega) (by omega) rfl rfl (Nat.le_of_ble_eq_true rfl) (c_X12_no E S (up (up G 1 (Ad E 1) 1 0) 1 (Ad E 1) 0 0) 2 hS (by omega) (by omega)) ?_
                  rintro _ _ _ ⟨rfl, ⟨G343, rfl⟩, z344, rfl, rfl⟩
                  exact r_retZ hX hP rfl rfl (by omega) (by omega) (by omega) (by omega) ⟨rfl, ⟨_, (hq_call (hq_up (hq_up (hq_refl _ _ _) rfl) rfl) rfl).symm⟩, 0, rfl, (by omega)⟩
          · skip
            refine r_if_eq hX hP rfl (tgt := 111) rfl (by omega) (by omega) (fun c345 => ?_) (fun c345 => ?_)
            · skip
              refine r_ex hX hP 2 (pc' := 113) (st' := [(0, 2), (2, (Ad E 1))]) (lo' := [(0, (2, (Ad E 1))), (1, (0, w)), (2, (0, i)), (3, (0, k)), (4, (2, (Ad E 18))), (5, (0, tf281))]) rfl ?_
              refine r_callV gd hX hP rfl cv_12_321 hS (d' := 0) (mc' := 0) (ms' := 0) (as' := [(0, 2)]) (st := []) (by omega) (by omega) (by omega) rfl rfl (Nat.le_of_ble_eq_true rfl) (c_X12_no E S (up (up G 1 (Ad E 1) 1 0) 1 (Ad E 1) 0 0) 2 hS (by omega) (by omega)) ?_
              rintro _ _ _ ⟨rfl, ⟨G346, rfl⟩, z347, rfl, rfl⟩
              exact r_retZ hX hP rfl rfl (by omega) (by omega) (by omega) (by omega) ⟨rfl, ⟨_, (hq_call (hq_up (hq_up (hq_refl _ _ _) rfl) rfl) rfl).symm⟩, 0, rfl, (by omega)⟩
            · skip
              exfalso; omega
        · skip
          exfalso; omega
set_option maxRecDepth 100000 in
set_option maxHeartbeats 4000000 in
theorem c_X12_isKnown (E : En) (S : Sg) (G : Gh) (k t : Int) (hS : S (Ad E 1) = 1) (k_a : 0 ≤ k) (k_b : k ≤ 40000) (t_a : 0 ≤ t) (t_b : t ≤ 1000000000) : Calls E mX12_isKnown [(2, (Ad E 1)), (0, k), (0, t)] S G 0 0 0 (fun r S' G' => S = S' ∧ G = G' ∧ ∃ z : Int, r = some (0, z) ∧ 0 ≤ z ∧ z ≤ 1) := by
  refine calls_by [(0, (2, (Ad E 1))), (1, (0, k)), (2, (0, t))] rfl rfl (Nat.le_of_ble_eq_true rfl) (fun X hX => ?_)
  have hP := hPX12_isKnown
  refine r_ex hX hP 2 (pc' := 2) (st' := [(2, (Ad E 1)), (0, k)]) (lo' := [(0, (2, (Ad E 1))), (1, (0, k)), (2, (0, t))]) rfl ?_
  refine r_getI hX hP rfl fl_12_10 hS (fun af1 af1e af1a af1b => ?_)
  refine r_ic_gt hX hP rfl (tgt := 20) rfl (by omega) (by omega) (by omega) (by omega) (fun c2 => ?_) (fun c2 => ?_)
  · skip
    refine r_ex hX hP 1 (pc' := 21) (st' := [(0, 0)]) (lo' := [(0, (2, (Ad E 1))), (1, (0, k)), (2, (0, t))]) rfl ?_
    exact r_retZ hX hP rfl rfl (by omega) (by omega) (by omega) (by omega) ⟨rfl, rfl, 0, rfl, (by omega)⟩
  · skip
    refine r_ex hX hP 2 (pc' := 10) (st' := [(2, (Ad E 1)), (0, t)]) (lo' := [(0, (2, (Ad E 1))), (1, (0, k)), (2, (0, t))]) rfl ?_
    refine r_getKI hX hP rfl fl_12_10 hS (x := af1) af1e ?_
    refine r_ic_le hX hP rfl (tgt := 20) rfl (by omega) (by omega) (by omega) (by omega) (fun c3 => ?_) (fun c3 => ?_)
    · skip
      refine r_ex hX hP 1 (pc' := 21) (st' := [(0, 0)]) (lo' := [(0, (2, (Ad E 1))), (1, (0, k)), (2, (0, t))]) rfl ?_
      exact r_retZ hX hP rfl rfl (by omega) (by omega) (by omega) (by omega) ⟨rfl, rfl, 0, rfl, (by omega)⟩
    · skip
      refine r_ex hX hP 2 (pc' := 21) (st' := [(0, 1)]) (lo' := [(0, (2, (Ad E 1))), (1, (0, k)), (2, (0, t))]) rfl ?_
      exact r_retZ hX hP rfl rfl (by omega) (by omega) (by omega) (by omega) ⟨rfl, rfl, 1, rfl, (by omega)⟩
set_option maxRecDepth 100000 in
set_option maxHeartbeats 4000000 in
theorem c_X12_tradeCounts (E : En) (S : Sg) (G : Gh) (t : Int) (hS : S (Ad E 1) = 1) (t_a : 0 ≤ t) (t_b : t ≤ 39) : Calls E mX12_tradeCounts [(2, (Ad E 1)), (0, t)] S G 1 0 0 (fun r S' G' => S = S' ∧ G = G' ∧ ∃ z : Int, r = some (0, z) ∧ 0 ≤ z ∧ z ≤ 1) := by
  refine calls_by [(0, (2, (Ad E 1))), (1, (0, t))] rfl rfl (Nat.le_of_ble_eq_true rfl) (fun X hX => ?_)
  have hP := hPX12_tradeCounts
  refine r_ex hX hP 2 (pc' := 2) (st' := [(2, (Ad E 1)), (2, (Ad E 1))]) (lo' := [(0, (2, (Ad E 1))), (1, (0, t))]) rfl ?_
  refine r_getC hX hP rfl fl_12_64 hS (fun s1 => ?_)
  refine r_ex hX hP 1 (pc' := 6) (st' := [(0, t), (2, (Ad E 17)), (2, (Ad E 1))]) (lo' := [(0, (2, (Ad E 1))), (1, (0, t))]) rfl ?_
  refine r_iald hX hP rfl al_17 s1 (by omega) (by omega) (fun x2 x2e x2a x2b => ?_)
  refine r_ex hX hP 1 (pc' := 8) (st' := [(2, (Ad E 1)), (0, x2), (2, (Ad E 1))]) (lo' := [(0, (2, (Ad E 1))), (1, (0, t))]) rfl ?_
  refine r_getC hX hP rfl fl_12_67 hS (fun s3 => ?_)
  refine r_ex hX hP 1 (pc' := 12) (st' := [(0, t), (2, (Ad E 18)), (0, x2), (2, (Ad E 1))]) (lo' := [(0, (2, (Ad E 1))), (1, (0, t))]) rfl ?_
  refine r_iald hX hP rfl al_18 s3 (by omega) (by omega) (fun x4 x4e x4a x4b => ?_)
  refine r_callV gd hX hP rfl cv_12_499 hS (d' := 0) (mc' := 0) (ms' := 0) (as' := [(0, x2), (0, x4)]) (st := []) (by omega) (by omega) (by omega) rfl rfl (Nat.le_of_ble_eq_true rfl) (c_X12_isKnown E S G x2 x4 hS (by omega) (by omega) (by omega) (by omega)) ?_
  rintro _ _ _ ⟨rfl, rfl, z5, rfl, z5a, z5b⟩
  exact r_retZ hX hP rfl rfl (by omega) (by omega) (by omega) (by omega) ⟨rfl, rfl, z5, rfl, (by omega)⟩
set_option maxRecDepth 100000 in
set_option maxHeartbeats 4000000 in
theorem c_X12_eventCounts (E : En) (S : Sg) (G : Gh) (t : Int) (hS : S (Ad E 1) = 1) (t_a : 0 ≤ t) (t_b : t ≤ 15) : Calls E mX12_eventCounts [(2, (Ad E 1)), (0, t)] S G 1 0 0 (fun r S' G' => S = S' ∧ G = G' ∧ ∃ z : Int, r = some (0, z) ∧ 0 ≤ z ∧ z ≤ 1) := by
  refine calls_by [(0, (2, (Ad E 1))), (1, (0, t))] rfl rfl (Nat.le_of_ble_eq_true rfl) (fun X hX => ?_)
  have hP := hPX12_eventCounts
  refine r_ex hX hP 2 (pc' := 2) (st' := [(2, (Ad E 1)), (2, (Ad E 1))]) (lo' := [(0, (2, (Ad E 1))), (1, (0, t))]) rfl ?_
  refine r_getC hX hP rfl fl_12_86 hS (fun s1 => ?_)
  refine r_ex hX hP 1 (pc' := 6) (st' := [(0, t), (2, (Ad E 24)), (2, (Ad E 1))]) (lo' := [(0, (2, (Ad E 1))), (1, (0, t))]) rfl ?_
  refine r_iald hX hP rfl al_24 s1 (by omega) (by omega) (fun x2 x2e x2a x2b => ?_)
  refine r_ex hX hP 1 (pc' := 8) (st' := [(2, (Ad E 1)), (0, x2), (2, (Ad E 1))]) (lo' := [(0, (2, (Ad E 1))), (1, (0, t))]) rfl ?_
  refine r_getC hX hP rfl fl_12_89 hS (fun s3 => ?_)
  refine r_ex hX hP 1 (pc' := 12) (st' := [(0, t), (2, (Ad E 25)), (0, x2), (2, (Ad E 1))]) (lo' := [(0, (2, (Ad E 1))), (1, (0, t))]) rfl ?_
  refine r_iald hX hP rfl al_25 s3 (by omega) (by omega) (fun x4 x4e x4a x4b => ?_)
  refine r_callV gd hX hP rfl cv_12_499 hS (d' := 0) (mc' := 0) (ms' := 0) (as' := [(0, x2), (0, x4)]) (st := []) (by omega) (by omega) (by omega) rfl rfl (Nat.le_of_ble_eq_true rfl) (c_X12_isKnown E S G x2 x4 hS (by omega) (by omega) (by omega) (by omega)) ?_
  rintro _ _ _ ⟨rfl, rfl, z5, rfl, z5a, z5b⟩
  exact r_retZ hX hP rfl rfl (by omega) (by omega) (by omega) (by omega) ⟨rfl, rfl, z5, rfl, (by omega)⟩
set_option maxRecDepth 100000 in
set_option maxHeartbeats 4000000 in
theorem c_X12_sayCounts (E : En) (S : Sg) (G : Gh) (t : Int) (hS : S (Ad E 1) = 1) (t_a : 0 ≤ t) (t_b : t ≤ 59) : Calls E mX12_sayCounts [(2, (Ad E 1)), (0, t)] S G 1 0 0 (fun r S' G' => S = S' ∧ G = G' ∧ ∃ z : Int, r = some (0, z) ∧ 0 ≤ z ∧ z ≤ 1) := by
  refine calls_by [(0, (2, (Ad E 1))), (1, (0, t))] rfl rfl (Nat.le_of_ble_eq_true rfl) (fun X hX => ?_)
  have hP := hPX12_sayCounts
  refine r_ex hX hP 2 (pc' := 2) (st' := [(2, (Ad E 1)), (2, (Ad E 1))]) (lo' := [(0, (2, (Ad E 1))), (1, (0, t))]) rfl ?_
  refine r_getC hX hP rfl fl_12_140 hS (fun s1 => ?_)
  refine r_ex hX hP 1 (pc' := 6) (st' := [(0, t), (2, (Ad E 42)), (2, (Ad E 1))]) (lo' := [(0, (2, (Ad E 1))), (1, (0, t))]) rfl ?_
  refine r_iald hX hP rfl al_42 s1 (by omega) (by omega) (fun x2 x2e x2a x2b => ?_)
  refine r_ex hX hP 1 (pc' := 8) (st' := [(2, (Ad E 1)), (0, x2), (2, (Ad E 1))]) (lo' := [(0, (2, (Ad E 1))), (1, (0, t))]) rfl ?_
  refine r_getC hX hP rfl fl_12_143 hS (fun s3 => ?_)
  refine r_ex hX hP 1 (pc' := 12) (st' := [(0, t), (2, (Ad E 43)), (0, x2), (2, (Ad E 1))]) (lo' := [(0, (2, (Ad E 1))), (1, (0, t))]) rfl ?_
  refine r_iald hX hP rfl al_43 s3 (by omega) (by omega) (fun x4 x4e x4a x4b => ?_)
  refine r_callV gd hX hP rfl cv_12_499 hS (d' := 0) (mc' := 0) (ms' := 0) (as' := [(0, x2), (0, x4)]) (st := []) (by omega) (by omega) (by omega) rfl rfl (Nat.le_of_ble_eq_true rfl) (c_X12_isKnown E S G x2 x4 hS (by omega) (by omega) (by omega) (by omega)) ?_
  rintro _ _ _ ⟨rfl, rfl, z5, rfl, z5a, z5b⟩
  exact r_retZ hX hP rfl rfl (by omega) (by omega) (by omega) (by omega) ⟨rfl, rfl, z5, rfl, (by omega)⟩
set_option maxRecDepth 100000 in
set_option maxHeartbeats 4000000 in
theorem c_X12_upper (E : En) (S : Sg) (G : Gh) (hS : S (Ad E 1) = 1) : Calls E mX12_upper [(2, (Ad E 1))] S G 0 0 0 (fun r S' G' => S = S' ∧ (∃ G1, hv [1] [] G G1 = G') ∧ ∃ z : Int, r = some (1, z) ∧ (-9223372036854775808) ≤ z ∧ z ≤ 9223372036854775807) := by
  refine calls_by [(0, (2, (Ad E 1)))] rfl rfl (Nat.le_of_ble_eq_true rfl) (fun X hX => ?_)
  have hP := hPX12_upper
  refine r_ex hX hP 2 (pc' := 2) (st' := [(0, 0), (2, (Ad E 1))]) (lo' := [(0, (2, (Ad E 1)))]) rfl ?_
  refine r_putIK hX hP rfl fp_12_304 hS (by omega) (by omega) (fun h1 => ?_)
  refine r_ex hX hP 1 (pc' := 6) (st' := [(2, (Ad E 1))]) (lo' := [(0, (2, (Ad E 1)))]) rfl ?_
  refine r_getL hX hP rfl fl_12_690 hS (fun af2 af2e af2a af2b => ?_)
  exact r_retL hX hP rfl rfl (by omega) (by omega) ⟨rfl, ⟨_, (hq_up (hq_refl _ _ _) rfl).symm⟩, af2, rfl, (by omega)⟩
set_option maxRecDepth 100000 in
set_option maxHeartbeats 4000000 in
theorem c_X12_lower (E : En) (S : Sg) (G : Gh) (hS : S (Ad E 1) = 1) : Calls E mX12_lower [(2, (Ad E 1))] S G 0 0 0 (fun r S' G' => S = S' ∧ (∃ G1, hv [1] [] G G1 = G') ∧ ∃ z : Int, r = some (1, z) ∧ (-9223372036854775808) ≤ z ∧ z ≤ 9223372036854775807) := by
  refine calls_by [(0, (2, (Ad E 1)))] rfl rfl (Nat.le_of_ble_eq_true rfl) (fun X hX => ?_)
  have hP := hPX12_lower
  refine r_ex hX hP 2 (pc' := 2) (st' := [(0, 0), (2, (Ad E 1))]) (lo' := [(0, (2, (Ad E 1)))]) rfl ?_
  refine r_putIK hX hP rfl fp_12_304 hS (by omega) (by omega) (fun h1 => ?_)
  refine r_ex hX hP 1 (pc' := 6) (st' := [(2, (Ad E 1))]) (lo' := [(0, (2, (Ad E 1)))]) rfl ?_
  refine r_getL hX hP rfl fl_12_14 hS (fun uf2 uf2e uf2a uf2b => ?_)
  exact r_retL hX hP rfl rfl (by omega) (by omega) ⟨rfl, ⟨_, (hq_up (hq_refl _ _ _) rfl).symm⟩, uf2, rfl, (by omega)⟩
set_option maxRecDepth 100000 in
set_option maxHeartbeats 4000000 in
theorem c_X12_rate (E : En) (S : Sg) (G : Gh) (p q : Int) (hS : S (Ad E 1) = 1) (p_a : (-2147483648) ≤ p) (p_b : p ≤ 2147483647) (q_a : (-2147483648) ≤ q) (q_b : q ≤ 2147483647) : Calls E mX12_rate [(2, (Ad E 1)), (0, p), (0, q)] S G 2 0 0 (fun r S' G' => S = S' ∧ (∃ G1, hv [0, 1] [49] G G1 = G') ∧ ∃ z : Int, r = some (0, z) ∧ ((z = 1 ∧ 0 ≤ p ∧ p ≤ 19 ∧ 0 ≤ q ∧ q ≤ 100000) ∨ (z = 0 ∧ (p < 0 ∨ 19 < p ∨ q < 0 ∨ 100000 < q)))) := by
  refine calls_by [(0, (2, (Ad E 1))), (1, (0, p)), (2, (0, q))] rfl rfl (Nat.le_of_ble_eq_true rfl) (fun X hX => ?_)
  have hP := hPX12_rate
  refine r_ex hX hP 2 (pc' := 2) (st' := [(0, 0), (2, (Ad E 1))]) (lo' := [(0, (2, (Ad E 1))), (1, (0, p)), (2, (0, q))]) rfl ?_
  refine r_putIK hX hP rfl fp_12_304 hS (by omega) (by omega) (fun h1 => ?_)
  refine r_ex hX hP 2 (pc' := 7) (st' := [(0, 0), (2, (Ad E 1))]) (lo' := [(0, (2, (Ad E 1))), (1, (0, p)), (2, (0, q))]) rfl ?_
  refine r_putIK hX hP rfl fp_12_307 hS (by omega) (by omega) (fun h2 => ?_)
  refine r_ex hX hP 1 (pc' := 11) (st' := [(0, p)]) (lo' := [(0, (2, (Ad E 1))), (1, (0, p)), (2, (0, q))]) rfl ?_
  refine r_callS gd hX hP rfl cs_12_331 (d' := 1) (mc' := 0) (ms' := 0) (as' := [(0, p)]) (st := []) (by omega) (by omega) (by omega) rfl rfl (Nat.le_of_ble_eq_true rfl) (c_X12_isPaper E S (up (up G 1 (Ad E 1) 1 0) 1 (Ad E 1) 0 0) p (by omega) (by omega)) ?_
  rintro _ _ _ ⟨rfl, rfl, z3, rfl, (⟨rfl, f4, f5⟩ | ⟨rfl, f6⟩)⟩
  · skip
    refine r_if_ne hX hP rfl (tgt := 23) rfl (by omega) (by omega) (fun c7 => ?_) (fun c7 => ?_)
    · skip
      refine r_ex hX hP 2 (pc' := 25) (st' := [(0, 0), (0, q)]) (lo' := [(0, (2, (Ad E 1))), (1, (0, p)), (2, (0, q))]) rfl ?_
      refine r_ldcw hX hP rfl (v := 100000) (tbg sg10 218 rfl rfl) ?_
      refine r_callS gd hX hP rfl cs_12_310 (d' := 0) (mc' := 0) (ms' := 0) (as' := [(0, q), (0, 0), (0, 100000)]) (st := []) (by omega) (by omega) (by omega) rfl rfl (Nat.le_of_ble_eq_true rfl) (c_X12_isIn E S (up (up G 1 (Ad E 1) 1 0) 1 (Ad E 1) 0 0) q 0 100000 (by omega) (by omega) (by omega) (by omega) (by omega) (by omega)) ?_
      rintro _ _ _ ⟨rfl, rfl, z8, rfl, (⟨rfl, f9, f10⟩ | ⟨rfl, f11⟩)⟩
      · skip
        refine r_if_ne hX hP rfl (tgt := 40) rfl (by omega) (by omega) (fun c12 => ?_) (fun c12 => ?_)
        · skip
          refine r_ex hX hP 1 (pc' := 41) (st' := [(2, (Ad E 1))]) (lo' := [(0, (2, (Ad E 1))), (1, (0, p)), (2, (0, q))]) rfl ?_
          refine r_getC hX hP rfl fl_12_161 hS (fun s13 => ?_)
          refine r_ex hX hP 2 (pc' := 46) (st' := [(0, q), (0, p), (2, (Ad E 49))]) (lo' := [(0, (2, (Ad E 1))), (1, (0, p)), (2, (0, q))]) rfl ?_
          refine r_iastK hX hP rfl al_49 s13 (by omega) (by omega) (by omega) (by omega) (fun h14 => ?_)
          refine r_ex hX hP 1 (pc' := 48) (st' := [(0, 1)]) (lo' := [(0, (2, (Ad E 1))), (1, (0, p)), (2, (0, q))]) rfl ?_
          exact r_retZ hX hP rfl rfl (by omega) (by omega) (by omega) (by omega) ⟨rfl, ⟨_, (hq_up (hq_up (hq_up (hq_refl _ _ _) rfl) rfl) rfl).symm⟩, 1, rfl, (by omega)⟩
        · skip
          exfalso; omega
      · skip
        refine r_if_ne hX hP rfl (tgt := 40) rfl (by omega) (by omega) (fun c15 => ?_) (fun c15 => ?_)
        · skip
          exfalso; omega
        · skip
          refine r_ex hX hP 2 (pc' := 36) (st' := [(0, 2), (2, (Ad E 1))]) (lo' := [(0, (2, (Ad E 1))), (1, (0, p)), (2, (0, q))]) rfl ?_
          refine r_callV gd hX hP rfl cv_12_321 hS (d' := 0) (mc' := 0) (ms' := 0) (as' := [(0, 2)]) (st := []) (by omega) (by omega) (by omega) rfl rfl (Nat.le_of_ble_eq_true rfl) (c_X12_no E S (up (up G 1 (Ad E 1) 1 0) 1 (Ad E 1) 0 0) 2 hS (by omega) (by omega)) ?_
          rintro _ _ _ ⟨rfl, ⟨G16, rfl⟩, z17, rfl, rfl⟩
          exact r_retZ hX hP rfl rfl (by omega) (by omega) (by omega) (by omega) ⟨rfl, ⟨_, (hq_call (hq_up (hq_up (hq_refl _ _ _) rfl) rfl) rfl).symm⟩, 0, rfl, (by omega)⟩
    · skip
      exfalso; omega
  · skip
    refine r_if_ne hX hP rfl (tgt := 23) rfl (by omega) (by omega) (fun c18 => ?_) (fun c18 => ?_)
    · skip
      exfalso; omega
    · skip
      refine r_ex hX hP 2 (pc' := 19) (st' := [(0, 1), (2, (Ad E 1))]) (lo' := [(0, (2, (Ad E 1))), (1, (0, p)), (2, (0, q))]) rfl ?_
      refine r_callV gd hX hP rfl cv_12_321 hS (d' := 0) (mc' := 0) (ms' := 0) (as' := [(0, 1)]) (st := []) (by omega) (by omega) (by omega) rfl rfl (Nat.le_of_ble_eq_true rfl) (c_X12_no E S (up (up G 1 (Ad E 1) 1 0) 1 (Ad E 1) 0 0) 1 hS (by omega) (by omega)) ?_
      rintro _ _ _ ⟨rfl, ⟨G19, rfl⟩, z20, rfl, rfl⟩
      exact r_retZ hX hP rfl rfl (by omega) (by omega) (by omega) (by omega) ⟨rfl, ⟨_, (hq_call (hq_up (hq_up (hq_refl _ _ _) rfl) rfl) rfl).symm⟩, 0, rfl, (by omega)⟩
set_option maxRecDepth 100000 in
set_option maxHeartbeats 4000000 in
theorem c_X12_name (E : En) (S : Sg) (G : Gh) (p n d k : Int) (hS : S (Ad E 1) = 1) (p_a : (-2147483648) ≤ p) (p_b : p ≤ 2147483647) (n_a : (-2147483648) ≤ n) (n_b : n ≤ 2147483647) (d_a : (-2147483648) ≤ d) (d_b : d ≤ 2147483647) (k_a : (-2147483648) ≤ k) (k_b : k ≤ 2147483647) : Calls E mX12_name [(2, (Ad E 1)), (0, p), (0, n), (0, d), (0, k)] S G 2 0 0 (fun r S' G' => S = S' ∧ (∃ G1, hv [0, 1, 3, 12] [50, 51, 52, 53] G G1 = G') ∧ ∃ z : Int, r = some (0, z) ∧ 0 ≤ z ∧ z ≤ 1) := by
  refine calls_by [(0, (2, (Ad E 1))), (1, (0, p)), (2, (0, n)), (3, (0, d)), (4, (0, k))] rfl rfl (Nat.le_of_ble_eq_true rfl) (fun X hX => ?_)
  have hP := hPX12_name
  refine r_ex hX hP 2 (pc' := 2) (st' := [(0, 0), (2, (Ad E 1))]) (lo' := [(0, (2, (Ad E 1))), (1, (0, p)), (2, (0, n)), (3, (0, d)), (4, (0, k))]) rfl ?_
  refine r_putIK hX hP rfl fp_12_304 hS (by omega) (by omega) (fun h1 => ?_)
  refine r_ex hX hP 2 (pc' := 7) (st' := [(0, 0), (2, (Ad E 1))]) (lo' := [(0, (2, (Ad E 1))), (1, (0, p)), (2, (0, n)), (3, (0, d)), (4, (0, k))]) rfl ?_
  refine r_putIK hX hP rfl fp_12_307 hS (by omega) (by omega) (fun h2 => ?_)
  refine r_ex hX hP 1 (pc' := 11) (st' := [(0, p)]) (lo' := [(0, (2, (Ad E 1))), (1, (0, p)), (2, (0, n)), (3, (0, d)), (4, (0, k))]) rfl ?_
  refine r_callS gd hX hP rfl cs_12_331 (d' := 1) (mc' := 0) (ms' := 0) (as' := [(0, p)]) (st := []) (by omega) (by omega) (by omega) rfl rfl (Nat.le_of_ble_eq_true rfl) (c_X12_isPaper E S (up (up G 1 (Ad E 1) 1 0) 1 (Ad E 1) 0 0) p (by omega) (by omega)) ?_
  rintro _ _ _ ⟨rfl, rfl, z3, rfl, (⟨rfl, f4, f5⟩ | ⟨rfl, f6⟩)⟩
  · skip
    refine r_if_ne hX hP rfl (tgt := 23) rfl (by omega) (by omega) (fun c7 => ?_) (fun c7 => ?_)
    · skip
      refine r_ex hX hP 3 (pc' := 28) (st' := [(0, 9999), (0, 0), (0, n)]) (lo' := [(0, (2, (Ad E 1))), (1, (0, p)), (2, (0, n)), (3, (0, d)), (4, (0, k))]) rfl ?_
      refine r_callS gd hX hP rfl cs_12_310 (d' := 0) (mc' := 0) (ms' := 0) (as' := [(0, n), (0, 0), (0, 9999)]) (st := []) (by omega) (by omega) (by omega) rfl rfl (Nat.le_of_ble_eq_true rfl) (c_X12_isIn E S (up (up G 1 (Ad E 1) 1 0) 1 (Ad E 1) 0 0) n 0 9999 (by omega) (by omega) (by omega) (by omega) (by omega) (by omega)) ?_
      rintro _ _ _ ⟨rfl, rfl, z8, rfl, (⟨rfl, f9, f10⟩ | ⟨rfl, f11⟩)⟩
      · skip
        refine r_if_eq hX hP rfl (tgt := 49) rfl (by omega) (by omega) (fun c12 => ?_) (fun c12 => ?_)
        · skip
          exfalso; omega
        · skip
          refine r_ex hX hP 1 (pc' := 35) (st' := [(0, d)]) (lo' := [(0, (2, (Ad E 1))), (1, (0, p)), (2, (0, n)), (3, (0, d)), (4, (0, k))]) rfl ?_
          refine r_callS gd hX hP rfl cs_12_317 (d' := 1) (mc' := 0) (ms' := 0) (as' := [(0, d)]) (st := []) (by omega) (by omega) (by omega) rfl rfl (Nat.le_of_ble_eq_true rfl) (c_X12_isDay E S (up (up G 1 (Ad E 1) 1 0) 1 (Ad E 1) 0 0) d (by omega) (by omega)) ?_
          rintro _ _ _ ⟨rfl, rfl, z13, rfl, (⟨rfl, f14, f15⟩ | ⟨rfl, f16⟩)⟩
          · skip
            refine r_if_eq hX hP rfl (tgt := 49) rfl (by omega) (by omega) (fun c17 => ?_) (fun c17 => ?_)
            · skip
              exfalso; omega
            · skip
              refine r_ex hX hP 1 (pc' := 43) (st' := [(0, k)]) (lo' := [(0, (2, (Ad E 1))), (1, (0, p)), (2, (0, n)), (3, (0, d)), (4, (0, k))]) rfl ?_
              refine r_callS gd hX hP rfl cs_12_317 (d' := 1) (mc' := 0) (ms' := 0) (as' := [(0, k)]) (st := []) (by omega) (by omega) (by omega) rfl rfl (Nat.le_of_ble_eq_true rfl) (c_X12_isDay E S (up (up G 1 (Ad E 1) 1 0) 1 (Ad E 1) 0 0) k (by omega) (by omega)) ?_
              rintro _ _ _ ⟨rfl, rfl, z18, rfl, (⟨rfl, f19, f20⟩ | ⟨rfl, f21⟩)⟩
              · skip
                refine r_if_ne hX hP rfl (tgt := 55) rfl (by omega) (by omega) (fun c22 => ?_) (fun c22 => ?_)
                · skip
                  refine r_ex hX hP 1 (pc' := 56) (st' := [(2, (Ad E 1))]) (lo' := [(0, (2, (Ad E 1))), (1, (0, p)), (2, (0, n)), (3, (0, d)), (4, (0, k))]) rfl ?_
                  refine r_getI hX hP rfl fl_12_698 hS (fun nf23 nf23e nf23a nf23b => ?_)
                  refine r_ex hX hP 1 (pc' := 61) (st' := [(0, 60), (0, nf23)]) (lo' := [(0, (2, (Ad E 1))), (1, (0, p)), (2, (0, n)), (3, (0, d)), (4, (0, k))]) rfl ?_
                  refine r_ic_ne hX hP rfl (tgt := 70) rfl (by omega) (by omega) (by omega) (by omega) (fun c24 => ?_) (fun c24 => ?_)
                  · skip
                    refine r_ex hX hP 2 (pc' := 73) (st' := [(2, (Ad E 1)), (0, k)]) (lo' := [(0, (2, (Ad E 1))), (1, (0, p)), (2, (0, n)), (3, (0, d)), (4, (0, k))]) rfl ?_
                    refine r_getI hX hP rfl fl_12_339 hS (fun lf25 lf25e lf25a lf25b => ?_)
                    refine r_ic_ge hX hP rfl (tgt := 85) rfl (by omega) (by omega) (by omega) (by omega) (fun c26 => ?_) (fun c26 => ?_)
                    · skip
                      refine r_ex hX hP 1 (pc' := 86) (st' := [(2, (Ad E 1))]) (lo' := [(0, (2, (Ad E 1))), (1, (0, p)), (2, (0, n)), (3, (0, d)), (4, (0, k))]) rfl ?_
                      refine r_getC hX hP rfl fl_12_164 hS (fun s27 => ?_)
                      refine r_ex hX hP 1 (pc' := 90) (st' := [(2, (Ad E 1)), (2, (Ad E 50))]) (lo' := [(0, (2, (Ad E 1))), (1, (0, p)), (2, (0, n)), (3, (0, d)), (4, (0, k))]) rfl ?_
                      refine r_getKI hX hP rfl fl_12_698 hS (x := nf23) nf23e ?_
                      refine r_ex hX hP 1 (pc' := 94) (st' := [(0, p), (0, nf23), (2, (Ad E 50))]) (lo' := [(0, (2, (Ad E 1))), (1, (0, p)), (2, (0, n)), (3, (0, d)), (4, (0, k))]) rfl ?_
                      refine r_iastK hX hP rfl al_50 s27 (by omega) (by omega) (by omega) (by omega) (fun h28 => ?_)
                      refine r_ex hX hP 1 (pc' := 96) (st' := [(2, (Ad E 1))]) (lo' := [(0, (2, (Ad E 1))), (1, (0, p)), (2, (0, n)), (3, (0, d)), (4, (0, k))]) rfl ?_
                      refine r_getC hX hP rfl fl_12_167 hS (fun s29 => ?_)
                      refine r_ex hX hP 1 (pc' := 100) (st' := [(2, (Ad E 1)), (2, (Ad E 51))]) (lo' := [(0, (2, (Ad E 1))), (1, (0, p)), (2, (0, n)), (3, (0, d)), (4, (0, k))]) rfl ?_
                      refine r_getKI hX hP rfl fl_12_698 hS (x := nf23) nf23e ?_
                      refine r_ex hX hP 1 (pc' := 104) (st' := [(0, n), (0, nf23), (2, (Ad E 51))]) (lo' := [(0, (2, (Ad E 1))), (1, (0, p)), (2, (0, n)), (3, (0, d)), (4, (0, k))]) rfl ?_
                      refine r_iastK hX hP rfl al_51 s29 (by omega) (by omega) (by omega) (by omega) (fun h30 => ?_)
                      refine r_ex hX hP 1 (pc' := 106) (st' := [(2, (Ad E 1))]) (lo' := [(0, (2, (Ad E 1))), (1, (0, p)), (2, (0, n)), (3, (0, d)), (4, (0, k))]) rfl ?_
                      refine r_getC hX hP rfl fl_12_170 hS (fun s31 => ?_)
                      refine r_ex hX hP 1 (pc' := 110) (st' := [(2, (Ad E 1)), (2, (Ad E 52))]) (lo' := [(0, (2, (Ad E 1))), (1, (0, p)), (2, (0, n)), (3, (0, d)), (4, (0, k))]) rfl ?_
                      refine r_getKI hX hP rfl fl_12_698 hS (x := nf23) nf23e ?_
                      refine r_ex hX hP 1 (pc' := 114) (st' := [(0, d), (0, nf23), (2, (Ad E 52))]) (lo' := [(0, (2, (Ad E 1))), (1, (0, p)), (2, (0, n)), (3, (0, d)), (4, (0, k))]) rfl ?_
                      refine r_iastK hX hP rfl al_52 s31 (by omega) (by omega) (by omega) (by omega) (fun h32 => ?_)
                      refine r_ex hX hP 1 (pc' := 116) (st' := [(2, (Ad E 1))]) (lo' := [(0, (2, (Ad E 1))), (1, (0, p)), (2, (0, n)), (3, (0, d)), (4, (0, k))]) rfl ?_
                      refine r_getC hX hP rfl fl_12_173 hS (fun s33 => ?_)
                      refine r_ex hX hP 1 (pc' := 120) (st' := [(2, (Ad E 1)), (2, (Ad E 53))]) (lo' := [(0, (2, (Ad E 1))), (1, (0, p)), (2, (0, n)), (3, (0, d)), (4, (0, k))]) rfl ?_
                      refine r_getKI hX hP rfl fl_12_698 hS (x := nf23) nf23e ?_
                      refine r_ex hX hP 1 (pc' := 125) (st' := [(0, k), (0, nf23), (2, (Ad E 53))]) (lo' := [(0, (2, (Ad E 1))), (1, (0, p)), (2, (0, n)), (3, (0, d)), (4, (0, k))]) rfl ?_
                      refine r_iastK hX hP rfl al_53 s33 (by omega) (by omega) (by omega) (by omega) (fun h34 => ?_)
                      refine r_ex hX hP 2 (pc' := 128) (st' := [(2, (Ad E 1)), (2, (Ad E 1))]) (lo' := [(0, (2, (Ad E 1))), (1, (0, p)), (2, (0, n)), (3, (0, d)), (4, (0, k))]) rfl ?_
                      refine r_getKI hX hP rfl fl_12_698 hS (x := nf23) nf23e ?_
                      refine r_ex hX hP 2 (pc' := 133) (st' := [(0, (nf23 + 1)), (2, (Ad E 1))]) (lo' := [(0, (2, (Ad E 1))), (1, (0, p)), (2, (0, n)), (3, (0, d)), (4, (0, k))]) rfl ?_
                      refine r_putIK hX hP rfl fp_12_698 hS (by omega) (by omega) (fun h35 => ?_)
                      refine r_ex hX hP 2 (pc' := 139) (st' := [(0, k), (2, (Ad E 1))]) (lo' := [(0, (2, (Ad E 1))), (1, (0, p)), (2, (0, n)), (3, (0, d)), (4, (0, k))]) rfl ?_
                      refine r_putIK hX hP rfl fp_12_339 hS (by omega) (by omega) (fun h36 => ?_)
                      refine r_ex hX hP 1 (pc' := 143) (st' := [(0, 1)]) (lo' := [(0, (2, (Ad E 1))), (1, (0, p)), (2, (0, n)), (3, (0, d)), (4, (0, k))]) rfl ?_
                      exact r_retZ hX hP rfl rfl (by omega) (by omega) (by omega) (by omega) ⟨rfl, ⟨_, (hq_up (hq_up (hq_up (hq_up (hq_up (hq_up (hq_up (hq_up (hq_refl _ _ _) rfl) rfl) rfl) rfl) rfl) rfl) rfl) rfl).symm⟩, 1, rfl, (by omega)⟩
                    · skip
                      refine r_ex hX hP 2 (pc' := 81) (st' := [(0, 4), (2, (Ad E 1))]) (lo' := [(0, (2, (Ad E 1))), (1, (0, p)), (2, (0, n)), (3, (0, d)), (4, (0, k))]) rfl ?_
                      refine r_callV gd hX hP rfl cv_12_321 hS (d' := 0) (mc' := 0) (ms' := 0) (as' := [(0, 4)]) (st := []) (by omega) (by omega) (by omega) rfl rfl (Nat.le_of_ble_eq_true rfl) (c_X12_no E S (up (up G 1 (Ad E 1) 1 0) 1 (Ad E 1) 0 0) 4 hS (by omega) (by omega)) ?_
                      rintro _ _ _ ⟨rfl, ⟨G37, rfl⟩, z38, rfl, rfl⟩
                      exact r_retZ hX hP rfl rfl (by omega) (by omega) (by omega) (by omega) ⟨rfl, ⟨_, (hq_call (hq_up (hq_up (hq_refl _ _ _) rfl) rfl) rfl).symm⟩, 0, rfl, (by omega)⟩
                  · skip
                    refine r_ex hX hP 2 (pc' := 66) (st' := [(0, 3), (2, (Ad E 1))]) (lo' := [(0, (2, (Ad E 1))), (1, (0, p)), (2, (0, n)), (3, (0, d)), (4, (0, k))]) rfl ?_
                    refine r_callV gd hX hP rfl cv_12_321 hS (d' := 0) (mc' := 0) (ms' := 0) (as' := [(0, 3)]) (st := []) (by omega) (by omega) (by omega) rfl rfl (Nat.le_of_ble_eq_true rfl) (c_X12_no E S (up (up G 1 (Ad E 1) 1 0) 1 (Ad E 1) 0 0) 3 hS (by omega) (by omega)) ?_
                    rintro _ _ _ ⟨rfl, ⟨G39, rfl⟩, z40, rfl, rfl⟩
                    exact r_retZ hX hP rfl rfl (by omega) (by omega) (by omega) (by omega) ⟨rfl, ⟨_, (hq_call (hq_up (hq_up (hq_refl _ _ _) rfl) rfl) rfl).symm⟩, 0, rfl, (by omega)⟩
                · skip
                  exfalso; omega
              · skip
                refine r_if_ne hX hP rfl (tgt := 55) rfl (by omega) (by omega) (fun c41 => ?_) (fun c41 => ?_)
                · skip
                  exfalso; omega
                · skip
                  refine r_ex hX hP 2 (pc' := 51) (st' := [(0, 2), (2, (Ad E 1))]) (lo' := [(0, (2, (Ad E 1))), (1, (0, p)), (2, (0, n)), (3, (0, d)), (4, (0, k))]) rfl ?_
                  refine r_callV gd hX hP rfl cv_12_321 hS (d' := 0) (mc' := 0) (ms' := 0) (as' := [(0, 2)]) (st := []) (by omega) (by omega) (by omega) rfl rfl (Nat.le_of_ble_eq_true rfl) (c_X12_no E S (up (up G 1 (Ad E 1) 1 0) 1 (Ad E 1) 0 0) 2 hS (by omega) (by omega)) ?_
                  rintro _ _ _ ⟨rfl, ⟨G42, rfl⟩, z43, rfl, rfl⟩
                  exact r_retZ hX hP rfl rfl (by omega) (by omega) (by omega) (by omega) ⟨rfl, ⟨_, (hq_call (hq_up (hq_up (hq_refl _ _ _) rfl) rfl) rfl).symm⟩, 0, rfl, (by omega)⟩
          · skip
            refine r_if_eq hX hP rfl (tgt := 49) rfl (by omega) (by omega) (fun c44 => ?_) (fun c44 => ?_)
            · skip
              refine r_ex hX hP 2 (pc' := 51) (st' := [(0, 2), (2, (Ad E 1))]) (lo' := [(0, (2, (Ad E 1))), (1, (0, p)), (2, (0, n)), (3, (0, d)), (4, (0, k))]) rfl ?_
              refine r_callV gd hX hP rfl cv_12_321 hS (d' := 0) (mc' := 0) (ms' := 0) (as' := [(0, 2)]) (st := []) (by omega) (by omega) (by omega) rfl rfl (Nat.le_of_ble_eq_true rfl) (c_X12_no E S (up (up G 1 (Ad E 1) 1 0) 1 (Ad E 1) 0 0) 2 hS (by omega) (by omega)) ?_
              rintro _ _ _ ⟨rfl, ⟨G45, rfl⟩, z46, rfl, rfl⟩
              exact r_retZ hX hP rfl rfl (by omega) (by omega) (by omega) (by omega) ⟨rfl, ⟨_, (hq_call (hq_up (hq_up (hq_refl _ _ _) rfl) rfl) rfl).symm⟩, 0, rfl, (by omega)⟩
            · skip
              exfalso; omega
      · skip
        refine r_if_eq hX hP rfl (tgt := 49) rfl (by omega) (by omega) (fun c47 => ?_) (fun c47 => ?_)
        · skip
          refine r_ex hX hP 2 (pc' := 51) (st' := [(0, 2), (2, (Ad E 1))]) (lo' := [(0, (2, (Ad E 1))), (1, (0, p)), (2, (0, n)), (3, (0, d)), (4, (0, k))]) rfl ?_
          refine r_callV gd hX hP rfl cv_12_321 hS (d' := 0) (mc' := 0) (ms' := 0) (as' := [(0, 2)]) (st := []) (by omega) (by omega) (by omega) rfl rfl (Nat.le_of_ble_eq_true rfl) (c_X12_no E S (up (up G 1 (Ad E 1) 1 0) 1 (Ad E 1) 0 0) 2 hS (by omega) (by omega)) ?_
          rintro _ _ _ ⟨rfl, ⟨G48, rfl⟩, z49, rfl, rfl⟩
          exact r_retZ hX hP rfl rfl (by omega) (by omega) (by omega) (by omega) ⟨rfl, ⟨_, (hq_call (hq_up (hq_up (hq_refl _ _ _) rfl) rfl) rfl).symm⟩, 0, rfl, (by omega)⟩
        · skip
          exfalso; omega
    · skip
      exfalso; omega
  · skip
    refine r_if_ne hX hP rfl (tgt := 23) rfl (by omega) (by omega) (fun c50 => ?_) (fun c50 => ?_)
    · skip
      exfalso; omega
    · skip
      refine r_ex hX hP 2 (pc' := 19) (st' := [(0, 1), (2, (Ad E 1))]) (lo' := [(0, (2, (Ad E 1))), (1, (0, p)), (2, (0, n)), (3, (0, d)), (4, (0, k))]) rfl ?_
      refine r_callV gd hX hP rfl cv_12_321 hS (d' := 0) (mc' := 0) (ms' := 0) (as' := [(0, 1)]) (st := []) (by omega) (by omega) (by omega) rfl rfl (Nat.le_of_ble_eq_true rfl) (c_X12_no E S (up (up G 1 (Ad E 1) 1 0) 1 (Ad E 1) 0 0) 1 hS (by omega) (by omega)) ?_
      rintro _ _ _ ⟨rfl, ⟨G51, rfl⟩, z52, rfl, rfl⟩
      exact r_retZ hX hP rfl rfl (by omega) (by omega) (by omega) (by omega) ⟨rfl, ⟨_, (hq_call (hq_up (hq_up (hq_refl _ _ _) rfl) rfl) rfl).symm⟩, 0, rfl, (by omega)⟩
set_option maxRecDepth 100000 in
set_option maxHeartbeats 4000000 in
theorem c_X12_rivals (E : En) (S : Sg) (G : Gh) (hS : S (Ad E 1) = 1) : Calls E mX12_rivals [(2, (Ad E 1))] S G 1 0 0 (fun r S' G' => S = S' ∧ (∃ G1, hv [0, 1] [] G G1 = G') ∧ ∃ z : Int, r = some (0, z) ∧ (-2147483648) ≤ z ∧ z ≤ 2147483647) := by
  refine calls_by [(0, (2, (Ad E 1)))] rfl rfl (Nat.le_of_ble_eq_true rfl) (fun X hX => ?_)
  have hP := hPX12_rivals
  refine r_ex hX hP 2 (pc' := 2) (st' := [(0, 0), (2, (Ad E 1))]) (lo' := [(0, (2, (Ad E 1)))]) rfl ?_
  refine r_putIK hX hP rfl fp_12_304 hS (by omega) (by omega) (fun h1 => ?_)
  refine r_ex hX hP 2 (pc' := 7) (st' := [(0, 0), (2, (Ad E 1))]) (lo' := [(0, (2, (Ad E 1)))]) rfl ?_
  refine r_putIK hX hP rfl fp_12_307 hS (by omega) (by omega) (fun h2 => ?_)
  refine r_ex hX hP 1 (pc' := 11) (st' := [(2, (Ad E 1))]) (lo' := [(0, (2, (Ad E 1)))]) rfl ?_
  refine r_getI hX hP rfl fl_12_197 hS (fun bf3 bf3e bf3a bf3b => ?_)
  refine r_if_ge hX hP rfl (tgt := 25) rfl (by omega) (by omega) (fun c4 => ?_) (fun c4 => ?_)
  · skip
    refine r_ex hX hP 1 (pc' := 26) (st' := [(2, (Ad E 1))]) (lo' := [(0, (2, (Ad E 1)))]) rfl ?_
    refine r_getI hX hP rfl fl_12_719 hS (fun rf5 rf5e rf5a rf5b => ?_)
    exact r_retI hX hP rfl rfl (by omega) (by omega) ⟨rfl, ⟨_, (hq_up (hq_up (hq_refl _ _ _) rfl) rfl).symm⟩, rf5, rfl, (by omega)⟩
  · skip
    refine r_ex hX hP 2 (pc' := 19) (st' := [(0, 5), (2, (Ad E 1))]) (lo' := [(0, (2, (Ad E 1)))]) rfl ?_
    refine r_callV gd hX hP rfl cv_12_327 hS (d' := 0) (mc' := 0) (ms' := 0) (as' := [(0, 5)]) (st := []) (by omega) (by omega) (by omega) rfl rfl (Nat.le_of_ble_eq_true rfl) (c_X12_refuse E S (up (up G 1 (Ad E 1) 1 0) 1 (Ad E 1) 0 0) 5 hS (by omega) (by omega)) ?_
    rintro _ _ _ ⟨rfl, ⟨G6, rfl⟩, z7, rfl, rfl⟩
    refine r_ex hX hP 1 (pc' := 29) (st' := [(0, (-1))]) (lo' := [(0, (2, (Ad E 1)))]) rfl ?_
    exact r_retI hX hP rfl rfl (by omega) (by omega) ⟨rfl, ⟨_, (hq_call (hq_up (hq_up (hq_refl _ _ _) rfl) rfl) rfl).symm⟩, (-1), rfl, (by omega)⟩
set_option maxRecDepth 100000 in
set_option maxHeartbeats 4000000 in
theorem c_X12_account (E : En) (S : Sg) (G : Gh) (u l d : Int) (hS : S (Ad E 1) = 1) (accounts : Int) (accounts_e : accounts = G 1 (Ad E 1) 6) (u_a : (-2147483648) ≤ u) (u_b : u ≤ 2147483647) (l_a : (-2147483648) ≤ l) (l_b : l ≤ 2147483647) (d_a : (-2147483648) ≤ d) (d_b : d ≤ 2147483647) (mi : MI E G) : Calls E mX12_account [(2, (Ad E 1)), (0, u), (0, l), (0, d)] S G 2 0 0 (fun r S' G' => S = S' ∧ (∃ G1, hv [0, 1, 6] [2, 3, 4] G G1 = G') ∧ ∃ z : Int, r = some (0, z) ∧ (-1) ≤ z ∧ z ≤ 19 ∧ MI E G') := by
  refine calls_by [(0, (2, (Ad E 1))), (1, (0, u)), (2, (0, l)), (3, (0, d))] rfl rfl (Nat.le_of_ble_eq_true rfl) (fun X hX => ?_)
  have hP := hPX12_account
  refine r_peekI hX (tl1 6 rfl (by decide)) hS (fun accounts_o accounts_oe accounts_oa accounts_ob => ?_)
  obtain rfl : accounts = accounts_o := accounts_e.trans accounts_oe.symm
  refine r_ex hX hP 2 (pc' := 2) (st' := [(0, 0), (2, (Ad E 1))]) (lo' := [(0, (2, (Ad E 1))), (1, (0, u)), (2, (0, l)), (3, (0, d))]) rfl ?_
  refine r_putIK hX hP rfl fp_12_304 hS (by omega) (by omega) (fun h1 => ?_)
  refine r_ex hX hP 2 (pc' := 7) (st' := [(0, 0), (2, (Ad E 1))]) (lo' := [(0, (2, (Ad E 1))), (1, (0, u)), (2, (0, l)), (3, (0, d))]) rfl ?_
  refine r_putIK hX hP rfl fp_12_307 hS (by omega) (by omega) (fun h2 => ?_)
  refine r_ex hX hP 2 (pc' := 12) (st' := [(0, (-1)), (0, u)]) (lo' := [(0, (2, (Ad E 1))), (1, (0, u)), (2, (0, l)), (3, (0, d))]) rfl ?_
  refine r_ic_eq hX hP rfl (tgt := 29) rfl (by omega) (by omega) (by omega) (by omega) (fun c3 => ?_) (fun c3 => ?_)
  · skip
    refine r_ex hX hP 3 (pc' := 33) (st' := [(0, 30), (0, 0), (0, l)]) (lo' := [(0, (2, (Ad E 1))), (1, (0, u)), (2, (0, l)), (3, (0, d))]) rfl ?_
    refine r_callS gd hX hP rfl cs_12_310 (d' := 0) (mc' := 0) (ms' := 0) (as' := [(0, l), (0, 0), (0, 30)]) (st := []) (by omega) (by omega) (by omega) rfl rfl (Nat.le_of_ble_eq_true rfl) (c_X12_isIn E S (up (up G 1 (Ad E 1) 1 0) 1 (Ad E 1) 0 0) l 0 30 (by omega) (by omega) (by omega) (by omega) (by omega) (by omega)) ?_
    rintro _ _ _ ⟨rfl, rfl, z4, rfl, (⟨rfl, f5, f6⟩ | ⟨rfl, f7⟩)⟩
    · skip
      refine r_if_eq hX hP rfl (tgt := 49) rfl (by omega) (by omega) (fun c8 => ?_) (fun c8 => ?_)
      · skip
        exfalso; omega
      · skip
        refine r_ex hX hP 3 (pc' := 43) (st' := [(0, 30), (0, 0), (0, d)]) (lo' := [(0, (2, (Ad E 1))), (1, (0, u)), (2, (0, l)), (3, (0, d))]) rfl ?_
        refine r_callS gd hX hP rfl cs_12_310 (d' := 0) (mc' := 0) (ms' := 0) (as' := [(0, d), (0, 0), (0, 30)]) (st := []) (by omega) (by omega) (by omega) rfl rfl (Nat.le_of_ble_eq_true rfl) (c_X12_isIn E S (up (up G 1 (Ad E 1) 1 0) 1 (Ad E 1) 0 0) d 0 30 (by omega) (by omega) (by omega) (by omega) (by omega) (by omega)) ?_
        rintro _ _ _ ⟨rfl, rfl, z9, rfl, (⟨rfl, f10, f11⟩ | ⟨rfl, f12⟩)⟩
        · skip
          refine r_if_ne hX hP rfl (tgt := 55) rfl (by omega) (by omega) (fun c13 => ?_) (fun c13 => ?_)
          · skip
            refine r_ex hX hP 1 (pc' := 56) (st' := [(2, (Ad E 1))]) (lo' := [(0, (2, (Ad E 1))), (1, (0, u)), (2, (0, l)), (3, (0, d))]) rfl ?_
            refine r_getKI hX hP rfl fl_12_314 hS (x := accounts) accounts_e ?_
            refine r_ex hX hP 1 (pc' := 61) (st' := [(0, 20), (0, accounts)]) (lo' := [(0, (2, (Ad E 1))), (1, (0, u)), (2, (0, l)), (3, (0, d))]) rfl ?_
            refine r_ic_ne hX hP rfl (tgt := 70) rfl (by omega) (by omega) (by omega) (by omega) (fun c14 => ?_) (fun c14 => ?_)
            · skip
              refine r_ex hX hP 1 (pc' := 71) (st' := [(2, (Ad E 1))]) (lo' := [(0, (2, (Ad E 1))), (1, (0, u)), (2, (0, l)), (3, (0, d))]) rfl ?_
              refine r_getC hX hP rfl fl_12_18 hS (fun s15 => ?_)
              refine r_ex hX hP 1 (pc' := 75) (st' := [(2, (Ad E 1)), (2, (Ad E 2))]) (lo' := [(0, (2, (Ad E 1))), (1, (0, u)), (2, (0, l)), (3, (0, d))]) rfl ?_
              refine r_getKI hX hP rfl fl_12_314 hS (x := accounts) accounts_e ?_
              refine r_ex hX hP 1 (pc' := 79) (st' := [(0, u), (0, accounts), (2, (Ad E 2))]) (lo' := [(0, (2, (Ad E 1))), (1, (0, u)), (2, (0, l)), (3, (0, d))]) rfl ?_
              refine r_iastK hX hP rfl al_2 s15 (by omega) (by omega) (by omega) (by omega) (fun h16 => ?_)
              refine r_ex hX hP 1 (pc' := 81) (st' := [(2, (Ad E 1))]) (lo' := [(0, (2, (Ad E 1))), (1, (0, u)), (2, (0, l)), (3, (0, d))]) rfl ?_
              refine r_getC hX hP rfl fl_12_22 hS (fun s17 => ?_)
              refine r_ex hX hP 1 (pc' := 85) (st' := [(2, (Ad E 1)), (2, (Ad E 3))]) (lo' := [(0, (2, (Ad E 1))), (1, (0, u)), (2, (0, l)), (3, (0, d))]) rfl ?_
              refine r_getKI hX hP rfl fl_12_314 hS (x := accounts) accounts_e ?_
              refine r_ex hX hP 1 (pc' := 89) (st' := [(0, l), (0, accounts), (2, (Ad E 3))]) (lo' := [(0, (2, (Ad E 1))), (1, (0, u)), (2, (0, l)), (3, (0, d))]) rfl ?_
              refine r_iastK hX hP rfl al_3 s17 (by omega) (by omega) (by omega) (by omega) (fun h18 => ?_)
              refine r_ex hX hP 1 (pc' := 91) (st' := [(2, (Ad E 1))]) (lo' := [(0, (2, (Ad E 1))), (1, (0, u)), (2, (0, l)), (3, (0, d))]) rfl ?_
              refine r_getC hX hP rfl fl_12_25 hS (fun s19 => ?_)
              refine r_ex hX hP 1 (pc' := 95) (st' := [(2, (Ad E 1)), (2, (Ad E 4))]) (lo' := [(0, (2, (Ad E 1))), (1, (0, u)), (2, (0, l)), (3, (0, d))]) rfl ?_
              refine r_getKI hX hP rfl fl_12_314 hS (x := accounts) accounts_e ?_
              refine r_ex hX hP 1 (pc' := 99) (st' := [(0, d), (0, accounts), (2, (Ad E 4))]) (lo' := [(0, (2, (Ad E 1))), (1, (0, u)), (2, (0, l)), (3, (0, d))]) rfl ?_
              refine r_iastK hX hP rfl al_4 s19 (by omega) (by omega) (by omega) (by omega) (fun h20 => ?_)
              refine r_ex hX hP 2 (pc' := 102) (st' := [(2, (Ad E 1)), (2, (Ad E 1))]) (lo' := [(0, (2, (Ad E 1))), (1, (0, u)), (2, (0, l)), (3, (0, d))]) rfl ?_
              refine r_getKI hX hP rfl fl_12_314 hS (x := accounts) accounts_e ?_
              refine r_ex hX hP 2 (pc' := 107) (st' := [(0, (accounts + 1)), (2, (Ad E 1))]) (lo' := [(0, (2, (Ad E 1))), (1, (0, u)), (2, (0, l)), (3, (0, d))]) rfl ?_
              refine r_putIK hX hP rfl fp_12_314 hS (by omega) (by omega) (fun h21 => ?_)
              refine r_ex hX hP 1 (pc' := 111) (st' := [(2, (Ad E 1))]) (lo' := [(0, (2, (Ad E 1))), (1, (0, u)), (2, (0, l)), (3, (0, d))]) rfl ?_
              refine r_getKI hX hP rfl fl_12_314 hS (x := (accounts + 1)) h21 ?_
              refine r_ex hX hP 2 (pc' := 116) (st' := [(0, ((accounts + 1) - 1))]) (lo' := [(0, (2, (Ad E 1))), (1, (0, u)), (2, (0, l)), (3, (0, d))]) rfl ?_
              exact r_retI hX hP rfl rfl (by omega) (by omega) ⟨rfl, ⟨_, (hq_up (hq_up (hq_up (hq_up (hq_up (hq_up (hq_refl _ _ _) rfl) rfl) rfl) rfl) rfl) rfl).symm⟩, ((accounts + 1) - 1), rfl, (by omega), (by omega), (mi_account mi accounts_e (by omega) (up_self (up (up (up (up (up G 1 (Ad E 1) 1 0) 1 (Ad E 1) 0 0) 2 (Ad E 2) accounts u) 3 (Ad E 3) accounts l) 4 (Ad E 4) accounts d) 1 (Ad E 1) 6 (accounts + 1)) rfl rfl rfl rfl rfl (fun i hi => show (up (up (up G 1 (Ad E 1) 1 0) 1 (Ad E 1) 0 0) 2 (Ad E 2) accounts u) 2 (Ad E 2) i = _ from up_ne (fun q => hi q.2.2)) (show (up (up (up G 1 (Ad E 1) 1 0) 1 (Ad E 1) 0 0) 2 (Ad E 2) accounts u) 2 (Ad E 2) accounts = _ from up_self _ _ _ _ _) (fun _ => rfl) (fun _ => rfl) (fun _ => rfl) (fun _ => rfl) (fun _ => rfl) (fun _ => rfl) (fun _ => rfl) (fun _ => rfl) (fun _ => rfl) (fun _ => rfl) (fun _ => rfl) (fun _ => rfl))⟩
            · skip
              refine r_ex hX hP 2 (pc' := 66) (st' := [(0, 3), (2, (Ad E 1))]) (lo' := [(0, (2, (Ad E 1))), (1, (0, u)), (2, (0, l)), (3, (0, d))]) rfl ?_
              refine r_callV gd hX hP rfl cv_12_327 hS (d' := 0) (mc' := 0) (ms' := 0) (as' := [(0, 3)]) (st := []) (by omega) (by omega) (by omega) rfl rfl (Nat.le_of_ble_eq_true rfl) (c_X12_refuse E S (up (up G 1 (Ad E 1) 1 0) 1 (Ad E 1) 0 0) 3 hS (by omega) (by omega)) ?_
              rintro _ _ _ ⟨rfl, ⟨G22, rfl⟩, z23, rfl, rfl⟩
              have mi24 : MI E (hv [0] [] (up (up G 1 (Ad E 1) 1 0) 1 (Ad E 1) 0 0) G22) := mi_keep mi rfl rfl rfl rfl rfl rfl (fun _ => rfl) (fun _ => rfl) (fun _ => rfl) (fun _ => rfl) (fun _ => rfl) (fun _ => rfl) (fun _ => rfl) (fun _ => rfl) (fun _ => rfl) (fun _ => rfl) (fun _ => rfl) (fun _ => rfl) (fun _ => rfl)
              exact r_retI hX hP rfl rfl (by omega) (by omega) ⟨rfl, ⟨_, (hq_call (hq_up (hq_up (hq_refl _ _ _) rfl) rfl) rfl).symm⟩, (-1), rfl, (by omega), (by omega), mi24⟩
          · skip
            exfalso; omega
        · skip
          refine r_if_ne hX hP rfl (tgt := 55) rfl (by omega) (by omega) (fun c25 => ?_) (fun c25 => ?_)
          · skip
            exfalso; omega
          · skip
            refine r_ex hX hP 2 (pc' := 51) (st' := [(0, 2), (2, (Ad E 1))]) (lo' := [(0, (2, (Ad E 1))), (1, (0, u)), (2, (0, l)), (3, (0, d))]) rfl ?_
            refine r_callV gd hX hP rfl cv_12_327 hS (d' := 0) (mc' := 0) (ms' := 0) (as' := [(0, 2)]) (st := []) (by omega) (by omega) (by omega) rfl rfl (Nat.le_of_ble_eq_true rfl) (c_X12_refuse E S (up (up G 1 (Ad E 1) 1 0) 1 (Ad E 1) 0 0) 2 hS (by omega) (by omega)) ?_
            rintro _ _ _ ⟨rfl, ⟨G26, rfl⟩, z27, rfl, rfl⟩
            have mi28 : MI E (hv [0] [] (up (up G 1 (Ad E 1) 1 0) 1 (Ad E 1) 0 0) G26) := mi_keep mi rfl rfl rfl rfl rfl rfl (fun _ => rfl) (fun _ => rfl) (fun _ => rfl) (fun _ => rfl) (fun _ => rfl) (fun _ => rfl) (fun _ => rfl) (fun _ => rfl) (fun _ => rfl) (fun _ => rfl) (fun _ => rfl) (fun _ => rfl) (fun _ => rfl)
            exact r_retI hX hP rfl rfl (by omega) (by omega) ⟨rfl, ⟨_, (hq_call (hq_up (hq_up (hq_refl _ _ _) rfl) rfl) rfl).symm⟩, (-1), rfl, (by omega), (by omega), mi28⟩
    · skip
      refine r_if_eq hX hP rfl (tgt := 49) rfl (by omega) (by omega) (fun c29 => ?_) (fun c29 => ?_)
      · skip
        refine r_ex hX hP 2 (pc' := 51) (st' := [(0, 2), (2, (Ad E 1))]) (lo' := [(0, (2, (Ad E 1))), (1, (0, u)), (2, (0, l)), (3, (0, d))]) rfl ?_
        refine r_callV gd hX hP rfl cv_12_327 hS (d' := 0) (mc' := 0) (ms' := 0) (as' := [(0, 2)]) (st := []) (by omega) (by omega) (by omega) rfl rfl (Nat.le_of_ble_eq_true rfl) (c_X12_refuse E S (up (up G 1 (Ad E 1) 1 0) 1 (Ad E 1) 0 0) 2 hS (by omega) (by omega)) ?_
        rintro _ _ _ ⟨rfl, ⟨G30, rfl⟩, z31, rfl, rfl⟩
        have mi32 : MI E (hv [0] [] (up (up G 1 (Ad E 1) 1 0) 1 (Ad E 1) 0 0) G30) := mi_keep mi rfl rfl rfl rfl rfl rfl (fun _ => rfl) (fun _ => rfl) (fun _ => rfl) (fun _ => rfl) (fun _ => rfl) (fun _ => rfl) (fun _ => rfl) (fun _ => rfl) (fun _ => rfl) (fun _ => rfl) (fun _ => rfl) (fun _ => rfl) (fun _ => rfl)
        exact r_retI hX hP rfl rfl (by omega) (by omega) ⟨rfl, ⟨_, (hq_call (hq_up (hq_up (hq_refl _ _ _) rfl) rfl) rfl).symm⟩, (-1), rfl, (by omega), (by omega), mi32⟩
      · skip
        exfalso; omega
  · skip
    refine r_ex hX hP 2 (pc' := 17) (st' := [(0, u), (2, (Ad E 1))]) (lo' := [(0, (2, (Ad E 1))), (1, (0, u)), (2, (0, l)), (3, (0, d))]) rfl ?_
    refine r_callV gd hX hP rfl cv_12_324 hS (d' := 1) (mc' := 0) (ms' := 0) (as' := [(0, u)]) (st := []) (by omega) (by omega) (by omega) rfl rfl (Nat.le_of_ble_eq_true rfl) (c_X12_isAccount E S (up (up G 1 (Ad E 1) 1 0) 1 (Ad E 1) 0 0) u hS accounts accounts_e (by omega) (by omega)) ?_
    rintro _ _ _ ⟨rfl, rfl, z33, rfl, (⟨rfl, f34, f35⟩ | ⟨rfl, f36⟩)⟩
    · skip
      refine r_if_ne hX hP rfl (tgt := 29) rfl (by omega) (by omega) (fun c37 => ?_) (fun c37 => ?_)
      · skip
        refine r_ex hX hP 3 (pc' := 33) (st' := [(0, 30), (0, 0), (0, l)]) (lo' := [(0, (2, (Ad E 1))), (1, (0, u)), (2, (0, l)), (3, (0, d))]) rfl ?_
        refine r_callS gd hX hP rfl cs_12_310 (d' := 0) (mc' := 0) (ms' := 0) (as' := [(0, l), (0, 0), (0, 30)]) (st := []) (by omega) (by omega) (by omega) rfl rfl (Nat.le_of_ble_eq_true rfl) (c_X12_isIn E S (up (up G 1 (Ad E 1) 1 0) 1 (Ad E 1) 0 0) l 0 30 (by omega) (by omega) (by omega) (by omega) (by omega) (by omega)) ?_
        rintro _ _ _ ⟨rfl, rfl, z38, rfl, (⟨rfl, f39, f40⟩ | ⟨rfl, f41⟩)⟩
        · skip
          refine r_if_eq hX hP rfl (tgt := 49) rfl (by omega) (by omega) (fun c42 => ?_) (fun c42 => ?_)
          · skip
            exfalso; omega
          · skip
            refine r_ex hX hP 3 (pc' := 43) (st' := [(0, 30), (0, 0), (0, d)]) (lo' := [(0, (2, (Ad E 1))), (1, (0, u)), (2, (0, l)), (3, (0, d))]) rfl ?_
            refine r_callS gd hX hP rfl cs_12_310 (d' := 0) (mc' := 0) (ms' := 0) (as' := [(0, d), (0, 0), (0, 30)]) (st := []) (by omega) (by omega) (by omega) rfl rfl (Nat.le_of_ble_eq_true rfl) (c_X12_isIn E S (up (up G 1 (Ad E 1) 1 0) 1 (Ad E 1) 0 0) d 0 30 (by omega) (by omega) (by omega) (by omega) (by omega) (by omega)) ?_
            rintro _ _ _ ⟨rfl, rfl, z43, rfl, (⟨rfl, f44, f45⟩ | ⟨rfl, f46⟩)⟩
            · skip
              refine r_if_ne hX hP rfl (tgt := 55) rfl (by omega) (by omega) (fun c47 => ?_) (fun c47 => ?_)
              · skip
                refine r_ex hX hP 1 (pc' := 56) (st' := [(2, (Ad E 1))]) (lo' := [(0, (2, (Ad E 1))), (1, (0, u)), (2, (0, l)), (3, (0, d))]) rfl ?_
                refine r_getKI hX hP rfl fl_12_314 hS (x := accounts) accounts_e ?_
                refine r_ex hX hP 1 (pc' := 61) (st' := [(0, 20), (0, accounts)]) (lo' := [(0, (2, (Ad E 1))), (1, (0, u)), (2, (0, l)), (3, (0, d))]) rfl ?_
                refine r_ic_ne hX hP rfl (tgt := 70) rfl (by omega) (by omega) (by omega) (by omega) (fun c48 => ?_) (fun c48 => ?_)
                · skip
                  refine r_ex hX hP 1 (pc' := 71) (st' := [(2, (Ad E 1))]) (lo' := [(0, (2, (Ad E 1))), (1, (0, u)), (2, (0, l)), (3, (0, d))]) rfl ?_
                  refine r_getC hX hP rfl fl_12_18 hS (fun s49 => ?_)
                  refine r_ex hX hP 1 (pc' := 75) (st' := [(2, (Ad E 1)), (2, (Ad E 2))]) (lo' := [(0, (2, (Ad E 1))), (1, (0, u)), (2, (0, l)), (3, (0, d))]) rfl ?_
                  refine r_getKI hX hP rfl fl_12_314 hS (x := accounts) accounts_e ?_
                  refine r_ex hX hP 1 (pc' := 79) (st' := [(0, u), (0, accounts), (2, (Ad E 2))]) (lo' := [(0, (2, (Ad E 1))), (1, (0, u)), (2, (0, l)), (3, (0, d))]) rfl ?_
                  refine r_iastK hX hP rfl al_2 s49 (by omega) (by omega) (by omega) (by omega) (fun h50 => ?_)
                  refine r_ex hX hP 1 (pc' := 81) (st' := [(2, (Ad E 1))]) (lo' := [(0, (2, (Ad E 1))), (1, (0, u)), (2, (0, l)), (3, (0, d))]) rfl ?_
                  refine r_getC hX hP rfl fl_12_22 hS (fun s51 => ?_)
                  refine r_ex hX hP 1 (pc' := 85) (st' := [(2, (Ad E 1)), (2, (Ad E 3))]) (lo' := [(0, (2, (Ad E 1))), (1, (0, u)), (2, (0, l)), (3, (0, d))]) rfl ?_
                  refine r_getKI hX hP rfl fl_12_314 hS (x := accounts) accounts_e ?_
                  refine r_ex hX hP 1 (pc' := 89) (st' := [(0, l), (0, accounts), (2, (Ad E 3))]) (lo' := [(0, (2, (Ad E 1))), (1, (0, u)), (2, (0, l)), (3, (0, d))]) rfl ?_
                  refine r_iastK hX hP rfl al_3 s51 (by omega) (by omega) (by omega) (by omega) (fun h52 => ?_)
                  refine r_ex hX hP 1 (pc' := 91) (st' := [(2, (Ad E 1))]) (lo' := [(0, (2, (Ad E 1))), (1, (0, u)), (2, (0, l)), (3, (0, d))]) rfl ?_
                  refine r_getC hX hP rfl fl_12_25 hS (fun s53 => ?_)
                  refine r_ex hX hP 1 (pc' := 95) (st' := [(2, (Ad E 1)), (2, (Ad E 4))]) (lo' := [(0, (2, (Ad E 1))), (1, (0, u)), (2, (0, l)), (3, (0, d))]) rfl ?_
                  refine r_getKI hX hP rfl fl_12_314 hS (x := accounts) accounts_e ?_
                  refine r_ex hX hP 1 (pc' := 99) (st' := [(0, d), (0, accounts), (2, (Ad E 4))]) (lo' := [(0, (2, (Ad E 1))), (1, (0, u)), (2, (0, l)), (3, (0, d))]) rfl ?_
                  refine r_iastK hX hP rfl al_4 s53 (by omega) (by omega) (by omega) (by omega) (fun h54 => ?_)
                  refine r_ex hX hP 2 (pc' := 102) (st' := [(2, (Ad E 1)), (2, (Ad E 1))]) (lo' := [(0, (2, (Ad E 1))), (1, (0, u)), (2, (0, l)), (3, (0, d))]) rfl ?_
                  refine r_getKI hX hP rfl fl_12_314 hS (x := accounts) accounts_e ?_
                  refine r_ex hX hP 2 (pc' := 107) (st' := [(0, (accounts + 1)), (2, (Ad E 1))]) (lo' := [(0, (2, (Ad E 1))), (1, (0, u)), (2, (0, l)), (3, (0, d))]) rfl ?_
                  refine r_putIK hX hP rfl fp_12_314 hS (by omega) (by omega) (fun h55 => ?_)
                  refine r_ex hX hP 1 (pc' := 111) (st' := [(2, (Ad E 1))]) (lo' := [(0, (2, (Ad E 1))), (1, (0, u)), (2, (0, l)), (3, (0, d))]) rfl ?_
                  refine r_getKI hX hP rfl fl_12_314 hS (x := (accounts + 1)) h55 ?_
                  refine r_ex hX hP 2 (pc' := 116) (st' := [(0, ((accounts + 1) - 1))]) (lo' := [(0, (2, (Ad E 1))), (1, (0, u)), (2, (0, l)), (3, (0, d))]) rfl ?_
                  exact r_retI hX hP rfl rfl (by omega) (by omega) ⟨rfl, ⟨_, (hq_up (hq_up (hq_up (hq_up (hq_up (hq_up (hq_refl _ _ _) rfl) rfl) rfl) rfl) rfl) rfl).symm⟩, ((accounts + 1) - 1), rfl, (by omega), (by omega), (mi_account mi accounts_e (by omega) (up_self (up (up (up (up (up G 1 (Ad E 1) 1 0) 1 (Ad E 1) 0 0) 2 (Ad E 2) accounts u) 3 (Ad E 3) accounts l) 4 (Ad E 4) accounts d) 1 (Ad E 1) 6 (accounts + 1)) rfl rfl rfl rfl rfl (fun i hi => show (up (up (up G 1 (Ad E 1) 1 0) 1 (Ad E 1) 0 0) 2 (Ad E 2) accounts u) 2 (Ad E 2) i = _ from up_ne (fun q => hi q.2.2)) (show (up (up (up G 1 (Ad E 1) 1 0) 1 (Ad E 1) 0 0) 2 (Ad E 2) accounts u) 2 (Ad E 2) accounts = _ from up_self _ _ _ _ _) (fun _ => rfl) (fun _ => rfl) (fun _ => rfl) (fun _ => rfl) (fun _ => rfl) (fun _ => rfl) (fun _ => rfl) (fun _ => rfl) (fun _ => rfl) (fun _ => rfl) (fun _ => rfl) (fun _ => rfl))⟩
                · skip
                  refine r_ex hX hP 2 (pc' := 66) (st' := [(0, 3), (2, (Ad E 1))]) (lo' := [(0, (2, (Ad E 1))), (1, (0, u)), (2, (0, l)), (3, (0, d))]) rfl ?_
                  refine r_callV gd hX hP rfl cv_12_327 hS (d' := 0) (mc' := 0) (ms' := 0) (as' := [(0, 3)]) (st := []) (by omega) (by omega) (by omega) rfl rfl (Nat.le_of_ble_eq_true rfl) (c_X12_refuse E S (up (up G 1 (Ad E 1) 1 0) 1 (Ad E 1) 0 0) 3 hS (by omega) (by omega)) ?_
                  rintro _ _ _ ⟨rfl, ⟨G56, rfl⟩, z57, rfl, rfl⟩
                  have mi58 : MI E (hv [0] [] (up (up G 1 (Ad E 1) 1 0) 1 (Ad E 1) 0 0) G56) := mi_keep mi rfl rfl rfl rfl rfl rfl (fun _ => rfl) (fun _ => rfl) (fun _ => rfl) (fun _ => rfl) (fun _ => rfl) (fun _ => rfl) (fun _ => rfl) (fun _ => rfl) (fun _ => rfl) (fun _ => rfl) (fun _ => rfl) (fun _ => rfl) (fun _ => rfl)
                  exact r_retI hX hP rfl rfl (by omega) (by omega) ⟨rfl, ⟨_, (hq_call (hq_up (hq_up (hq_refl _ _ _) rfl) rfl) rfl).symm⟩, (-1), rfl, (by omega), (by omega), mi58⟩
              · skip
                exfalso; omega
            · skip
              refine r_if_ne hX hP rfl (tgt := 55) rfl (by omega) (by omega) (fun c59 => ?_) (fun c59 => ?_)
              · skip
                exfalso; omega
              · skip
                refine r_ex hX hP 2 (pc' := 51) (st' := [(0, 2), (2, (Ad E 1))]) (lo' := [(0, (2, (Ad E 1))), (1, (0, u)), (2, (0, l)), (3, (0, d))]) rfl ?_
                refine r_callV gd hX hP rfl cv_12_327 hS (d' := 0) (mc' := 0) (ms' := 0) (as' := [(0, 2)]) (st := []) (by omega) (by omega) (by omega) rfl rfl (Nat.le_of_ble_eq_true rfl) (c_X12_refuse E S (up (up G 1 (Ad E 1) 1 0) 1 (Ad E 1) 0 0) 2 hS (by omega) (by omega)) ?_
                rintro _ _ _ ⟨rfl, ⟨G60, rfl⟩, z61, rfl, rfl⟩
                have mi62 : MI E (hv [0] [] (up (up G 1 (Ad E 1) 1 0) 1 (Ad E 1) 0 0) G60) := mi_keep mi rfl rfl rfl rfl rfl rfl (fun _ => rfl) (fun _ => rfl) (fun _ => rfl) (fun _ => rfl) (fun _ => rfl) (fun _ => rfl) (fun _ => rfl) (fun _ => rfl) (fun _ => rfl) (fun _ => rfl) (fun _ => rfl) (fun _ => rfl) (fun _ => rfl)
                exact r_retI hX hP rfl rfl (by omega) (by omega) ⟨rfl, ⟨_, (hq_call (hq_up (hq_up (hq_refl _ _ _) rfl) rfl) rfl).symm⟩, (-1), rfl, (by omega), (by omega), mi62⟩
        · skip
          refine r_if_eq hX hP rfl (tgt := 49) rfl (by omega) (by omega) (fun c63 => ?_) (fun c63 => ?_)
          · skip
            refine r_ex hX hP 2 (pc' := 51) (st' := [(0, 2), (2, (Ad E 1))]) (lo' := [(0, (2, (Ad E 1))), (1, (0, u)), (2, (0, l)), (3, (0, d))]) rfl ?_
            refine r_callV gd hX hP rfl cv_12_327 hS (d' := 0) (mc' := 0) (ms' := 0) (as' := [(0, 2)]) (st := []) (by omega) (by omega) (by omega) rfl rfl (Nat.le_of_ble_eq_true rfl) (c_X12_refuse E S (up (up G 1 (Ad E 1) 1 0) 1 (Ad E 1) 0 0) 2 hS (by omega) (by omega)) ?_
            rintro _ _ _ ⟨rfl, ⟨G64, rfl⟩, z65, rfl, rfl⟩
            have mi66 : MI E (hv [0] [] (up (up G 1 (Ad E 1) 1 0) 1 (Ad E 1) 0 0) G64) := mi_keep mi rfl rfl rfl rfl rfl rfl (fun _ => rfl) (fun _ => rfl) (fun _ => rfl) (fun _ => rfl) (fun _ => rfl) (fun _ => rfl) (fun _ => rfl) (fun _ => rfl) (fun _ => rfl) (fun _ => rfl) (fun _ => rfl) (fun _ => rfl) (fun _ => rfl)
            exact r_retI hX hP rfl rfl (by omega) (by omega) ⟨rfl, ⟨_, (hq_call (hq_up (hq_up (hq_refl _ _ _) rfl) rfl) rfl).symm⟩, (-1), rfl, (by omega), (by omega), mi66⟩
          · skip
            exfalso; omega
      · skip
        exfalso; omega
    · skip
      refine r_if_ne hX hP rfl (tgt := 29) rfl (by omega) (by omega) (fun c67 => ?_) (fun c67 => ?_)
      · skip
        exfalso; omega
      · skip
        refine r_ex hX hP 2 (pc' := 25) (st' := [(0, 1), (2, (Ad E 1))]) (lo' := [(0, (2, (Ad E 1))), (1, (0, u)), (2, (0, l)), (3, (0, d))]) rfl ?_
        refine r_callV gd hX hP rfl cv_12_327 hS (d' := 0) (mc' := 0) (ms' := 0) (as' := [(0, 1)]) (st := []) (by omega) (by omega) (by omega) rfl rfl (Nat.le_of_ble_eq_true rfl) (c_X12_refuse E S (up (up G 1 (Ad E 1) 1 0) 1 (Ad E 1) 0 0) 1 hS (by omega) (by omega)) ?_
        rintro _ _ _ ⟨rfl, ⟨G68, rfl⟩, z69, rfl, rfl⟩
        have mi70 : MI E (hv [0] [] (up (up G 1 (Ad E 1) 1 0) 1 (Ad E 1) 0 0) G68) := mi_keep mi rfl rfl rfl rfl rfl rfl (fun _ => rfl) (fun _ => rfl) (fun _ => rfl) (fun _ => rfl) (fun _ => rfl) (fun _ => rfl) (fun _ => rfl) (fun _ => rfl) (fun _ => rfl) (fun _ => rfl) (fun _ => rfl) (fun _ => rfl) (fun _ => rfl)
        exact r_retI hX hP rfl rfl (by omega) (by omega) ⟨rfl, ⟨_, (hq_call (hq_up (hq_up (hq_refl _ _ _) rfl) rfl) rfl).symm⟩, (-1), rfl, (by omega), (by omega), mi70⟩
set_option maxRecDepth 100000 in
set_option maxHeartbeats 4000000 in
theorem c_X12_trade (E : En) (S : Sg) (G : Gh) (f t p sh dl se k : Int) (hS : S (Ad E 1) = 1) (trades : Int) (trades_e : trades = G 1 (Ad E 1) 8) (f_a : (-2147483648) ≤ f) (f_b : f ≤ 2147483647) (t_a : (-2147483648) ≤ t) (t_b : t ≤ 2147483647) (p_a : (-2147483648) ≤ p) (p_b : p ≤ 2147483647) (sh_a : (-2147483648) ≤ sh) (sh_b : sh ≤ 2147483647) (dl_a : (-2147483648) ≤ dl) (dl_b : dl ≤ 2147483647) (se_a : (-2147483648) ≤ se) (se_b : se ≤ 2147483647) (k_a : (-2147483648) ≤ k) (k_b : k ≤ 2147483647) (mi : MI E G) : Calls E mX12_trade [(2, (Ad E 1)), (0, f), (0, t), (0, p), (0, sh), (0, dl), (0, se), (0, k)] S G 2 0 0 (fun r S' G' => S = S' ∧ (∃ G1, hv [0, 1, 3, 8] [11, 12, 13, 14, 15, 16, 17, 18] G G1 = G') ∧ ∃ z : Int, r = some (0, z) ∧ (-2147483648) ≤ z ∧ z ≤ 2147483647 ∧ MI E G') := by
  refine calls_by [(0, (2, (Ad E 1))), (1, (0, f)), (2, (0, t)), (3, (0, p)), (4, (0, sh)), (5, (0, dl)), (6, (0, se)), (7, (0, k))] rfl rfl (Nat.le_of_ble_eq_true rfl) (fun X hX => ?_)
  have hP := hPX12_trade
  refine r_peekI hX (tl1 8 rfl (by decide)) hS (fun trades_o trades_oe trades_oa trades_ob => ?_)
  obtain rfl : trades = trades_o := trades_e.trans trades_oe.symm
  refine r_ex hX hP 2 (pc' := 2) (st' := [(0, 0), (2, (Ad E 1))]) (lo' := [(0, (2, (Ad E 1))), (1, (0, f)), (2, (0, t)), (3, (0, p)), (4, (0, sh)), (5, (0, dl)), (6, (0, se)), (7, (0, k))]) rfl ?_
  refine r_putIK hX hP rfl fp_12_304 hS (by omega) (by omega) (fun h1 => ?_)
  refine r_ex hX hP 2 (pc' := 7) (st' := [(0, 0), (2, (Ad E 1))]) (lo' := [(0, (2, (Ad E 1))), (1, (0, f)), (2, (0, t)), (3, (0, p)), (4, (0, sh)), (5, (0, dl)), (6, (0, se)), (7, (0, k))]) rfl ?_
  refine r_putIK hX hP rfl fp_12_307 hS (by omega) (by omega) (fun h2 => ?_)
  refine r_ex hX hP 2 (pc' := 12) (st' := [(0, f), (2, (Ad E 1))]) (lo' := [(0, (2, (Ad E 1))), (1, (0, f)), (2, (0, t)), (3, (0, p)), (4, (0, sh)), (5, (0, dl)), (6, (0, se)), (7, (0, k))]) rfl ?_
  refine r_peekI hX (tl1 6 rfl (by decide)) hS (fun acp3 acp3e acp3a acp3b => ?_)
  refine r_callV gd hX hP rfl cv_12_324 hS (d' := 1) (mc' := 0) (ms' := 0) (as' := [(0, f)]) (st := []) (by omega) (by omega) (by omega) rfl rfl (Nat.le_of_ble_eq_true rfl) (c_X12_isAccount E S (up (up G 1 (Ad E 1) 1 0) 1 (Ad E 1) 0 0) f hS acp3 acp3e (by omega) (by omega)) ?_
  rintro _ _ _ ⟨rfl, rfl, z4, rfl, (⟨rfl, f5, f6⟩ | ⟨rfl, f7⟩)⟩
  · skip
    refine r_if_eq hX hP rfl (tgt := 38) rfl (by omega) (by omega) (fun c8 => ?_) (fun c8 => ?_)
    · skip
      exfalso; omega
    · skip
      refine r_ex hX hP 2 (pc' := 20) (st' := [(0, t), (2, (Ad E 1))]) (lo' := [(0, (2, (Ad E 1))), (1, (0, f)), (2, (0, t)), (3, (0, p)), (4, (0, sh)), (5, (0, dl)), (6, (0, se)), (7, (0, k))]) rfl ?_
      refine r_callV gd hX hP rfl cv_12_324 hS (d' := 1) (mc' := 0) (ms' := 0) (as' := [(0, t)]) (st := []) (by omega) (by omega) (by omega) rfl rfl (Nat.le_of_ble_eq_true rfl) (c_X12_isAccount E S (up (up G 1 (Ad E 1) 1 0) 1 (Ad E 1) 0 0) t hS acp3 acp3e (by omega) (by omega)) ?_
      rintro _ _ _ ⟨rfl, rfl, z9, rfl, (⟨rfl, f10, f11⟩ | ⟨rfl, f12⟩)⟩
      · skip
        refine r_if_eq hX hP rfl (tgt := 38) rfl (by omega) (by omega) (fun c13 => ?_) (fun c13 => ?_)
        · skip
          exfalso; omega
        · skip
          refine r_ex hX hP 2 (pc' := 28) (st' := [(0, t), (0, f)]) (lo' := [(0, (2, (Ad E 1))), (1, (0, f)), (2, (0, t)), (3, (0, p)), (4, (0, sh)), (5, (0, dl)), (6, (0, se)), (7, (0, k))]) rfl ?_
          refine r_ic_eq hX hP rfl (tgt := 38) rfl (by omega) (by omega) (by omega) (by omega) (fun c14 => ?_) (fun c14 => ?_)
          · skip
            refine r_ex hX hP 2 (pc' := 40) (st' := [(0, 1), (2, (Ad E 1))]) (lo' := [(0, (2, (Ad E 1))), (1, (0, f)), (2, (0, t)), (3, (0, p)), (4, (0, sh)), (5, (0, dl)), (6, (0, se)), (7, (0, k))]) rfl ?_
            refine r_callV gd hX hP rfl cv_12_327 hS (d' := 0) (mc' := 0) (ms' := 0) (as' := [(0, 1)]) (st := []) (by omega) (by omega) (by omega) rfl rfl (Nat.le_of_ble_eq_true rfl) (c_X12_refuse E S (up (up G 1 (Ad E 1) 1 0) 1 (Ad E 1) 0 0) 1 hS (by omega) (by omega)) ?_
            rintro _ _ _ ⟨rfl, ⟨G15, rfl⟩, z16, rfl, rfl⟩
            have mi17 : MI E (hv [0] [] (up (up G 1 (Ad E 1) 1 0) 1 (Ad E 1) 0 0) G15) := mi_keep mi rfl rfl rfl rfl rfl rfl (fun _ => rfl) (fun _ => rfl) (fun _ => rfl) (fun _ => rfl) (fun _ => rfl) (fun _ => rfl) (fun _ => rfl) (fun _ => rfl) (fun _ => rfl) (fun _ => rfl) (fun _ => rfl) (fun _ => rfl) (fun _ => rfl)
            exact r_retI hX hP rfl rfl (by omega) (by omega) ⟨rfl, ⟨_, (hq_call (hq_up (hq_up (hq_refl _ _ _) rfl) rfl) rfl).symm⟩, (-1), rfl, (by omega), (by omega), mi17⟩
          · skip
            refine r_ex hX hP 1 (pc' := 32) (st' := [(0, p)]) (lo' := [(0, (2, (Ad E 1))), (1, (0, f)), (2, (0, t)), (3, (0, p)), (4, (0, sh)), (5, (0, dl)), (6, (0, se)), (7, (0, k))]) rfl ?_
            refine r_callS gd hX hP rfl cs_12_331 (d' := 1) (mc' := 0) (ms' := 0) (as' := [(0, p)]) (st := []) (by omega) (by omega) (by omega) rfl rfl (Nat.le_of_ble_eq_true rfl) (c_X12_isPaper E S (up (up G 1 (Ad E 1) 1 0) 1 (Ad E 1) 0 0) p (by omega) (by omega)) ?_
            rintro _ _ _ ⟨rfl, rfl, z18, rfl, (⟨rfl, f19, f20⟩ | ⟨rfl, f21⟩)⟩
            · skip
              refine r_if_ne hX hP rfl (tgt := 44) rfl (by omega) (by omega) (fun c22 => ?_) (fun c22 => ?_)
              · skip
                refine r_ex hX hP 2 (pc' := 47) (st' := [(0, 1), (0, sh)]) (lo' := [(0, (2, (Ad E 1))), (1, (0, f)), (2, (0, t)), (3, (0, p)), (4, (0, sh)), (5, (0, dl)), (6, (0, se)), (7, (0, k))]) rfl ?_
                refine r_ldcw hX hP rfl (v := 1000000) (tbg sg9 103 rfl rfl) ?_
                refine r_callS gd hX hP rfl cs_12_310 (d' := 0) (mc' := 0) (ms' := 0) (as' := [(0, sh), (0, 1), (0, 1000000)]) (st := []) (by omega) (by omega) (by omega) rfl rfl (Nat.le_of_ble_eq_true rfl) (c_X12_isIn E S (up (up G 1 (Ad E 1) 1 0) 1 (Ad E 1) 0 0) sh 1 1000000 (by omega) (by omega) (by omega) (by omega) (by omega) (by omega)) ?_
                rintro _ _ _ ⟨rfl, rfl, z23, rfl, (⟨rfl, f24, f25⟩ | ⟨rfl, f26⟩)⟩
                · skip
                  refine r_if_eq hX hP rfl (tgt := 87) rfl (by omega) (by omega) (fun c27 => ?_) (fun c27 => ?_)
                  · skip
                    exfalso; omega
                  · skip
                    refine r_ex hX hP 1 (pc' := 58) (st' := [(0, dl)]) (lo' := [(0, (2, (Ad E 1))), (1, (0, f)), (2, (0, t)), (3, (0, p)), (4, (0, sh)), (5, (0, dl)), (6, (0, se)), (7, (0, k))]) rfl ?_
                    refine r_callS gd hX hP rfl cs_12_317 (d' := 1) (mc' := 0) (ms' := 0) (as' := [(0, dl)]) (st := []) (by omega) (by omega) (by omega) rfl rfl (Nat.le_of_ble_eq_true rfl) (c_X12_isDay E S (up (up G 1 (Ad E 1) 1 0) 1 (Ad E 1) 0 0) dl (by omega) (by omega)) ?_
                    rintro _ _ _ ⟨rfl, rfl, z28, rfl, (⟨rfl, f29, f30⟩ | ⟨rfl, f31⟩)⟩
                    · skip
                      refine r_if_eq hX hP rfl (tgt := 87) rfl (by omega) (by omega) (fun c32 => ?_) (fun c32 => ?_)
                      · skip
                        exfalso; omega
                      · skip
                        refine r_ex hX hP 1 (pc' := 66) (st' := [(0, se)]) (lo' := [(0, (2, (Ad E 1))), (1, (0, f)), (2, (0, t)), (3, (0, p)), (4, (0, sh)), (5, (0, dl)), (6, (0, se)), (7, (0, k))]) rfl ?_
                        refine r_callS gd hX hP rfl cs_12_317 (d' := 1) (mc' := 0) (ms' := 0) (as' := [(0, se)]) (st := []) (by omega) (by omega) (by omega) rfl rfl (Nat.le_of_ble_eq_true rfl) (c_X12_isDay E S (up (up G 1 (Ad E 1) 1 0) 1 (Ad E 1) 0 0) se (by omega) (by omega)) ?_
                        rintro _ _ _ ⟨rfl, rfl, z33, rfl, (⟨rfl, f34, f35⟩ | ⟨rfl, f36⟩)⟩
                        · skip
                          refine r_if_eq hX hP rfl (tgt := 87) rfl (by omega) (by omega) (fun c37 => ?_) (fun c37 => ?_)
                          · skip
                            exfalso; omega
                          · skip
                            refine r_ex hX hP 2 (pc' := 76) (st' := [(0, dl), (0, se)]) (lo' := [(0, (2, (Ad E 1))), (1, (0, f)), (2, (0, t)), (3, (0, p)), (4, (0, sh)), (5, (0, dl)), (6, (0, se)), (7, (0, k))]) rfl ?_
                            refine r_ic_lt hX hP rfl (tgt := 87) rfl (by omega) (by omega) (by omega) (by omega) (fun c38 => ?_) (fun c38 => ?_)
                            · skip
                              refine r_ex hX hP 2 (pc' := 89) (st' := [(0, 2), (2, (Ad E 1))]) (lo' := [(0, (2, (Ad E 1))), (1, (0, f)), (2, (0, t)), (3, (0, p)), (4, (0, sh)), (5, (0, dl)), (6, (0, se)), (7, (0, k))]) rfl ?_
                              refine r_callV gd hX hP rfl cv_12_327 hS (d' := 0) (mc' := 0) (ms' := 0) (as' := [(0, 2)]) (st := []) (by omega) (by omega) (by omega) rfl rfl (Nat.le_of_ble_eq_true rfl) (c_X12_refuse E S (up (up G 1 (Ad E 1) 1 0) 1 (Ad E 1) 0 0) 2 hS (by omega) (by omega)) ?_
                              rintro _ _ _ ⟨rfl, ⟨G39, rfl⟩, z40, rfl, rfl⟩
                              have mi41 : MI E (hv [0] [] (up (up G 1 (Ad E 1) 1 0) 1 (Ad E 1) 0 0) G39) := mi_keep mi rfl rfl rfl rfl rfl rfl (fun _ => rfl) (fun _ => rfl) (fun _ => rfl) (fun _ => rfl) (fun _ => rfl) (fun _ => rfl) (fun _ => rfl) (fun _ => rfl) (fun _ => rfl) (fun _ => rfl) (fun _ => rfl) (fun _ => rfl) (fun _ => rfl)
                              exact r_retI hX hP rfl rfl (by omega) (by omega) ⟨rfl, ⟨_, (hq_call (hq_up (hq_up (hq_refl _ _ _) rfl) rfl) rfl).symm⟩, (-1), rfl, (by omega), (by omega), mi41⟩
                            · skip
                              refine r_ex hX hP 1 (pc' := 81) (st' := [(0, k)]) (lo' := [(0, (2, (Ad E 1))), (1, (0, f)), (2, (0, t)), (3, (0, p)), (4, (0, sh)), (5, (0, dl)), (6, (0, se)), (7, (0, k))]) rfl ?_
                              refine r_callS gd hX hP rfl cs_12_317 (d' := 1) (mc' := 0) (ms' := 0) (as' := [(0, k)]) (st := []) (by omega) (by omega) (by omega) rfl rfl (Nat.le_of_ble_eq_true rfl) (c_X12_isDay E S (up (up G 1 (Ad E 1) 1 0) 1 (Ad E 1) 0 0) k (by omega) (by omega)) ?_
                              rintro _ _ _ ⟨rfl, rfl, z42, rfl, (⟨rfl, f43, f44⟩ | ⟨rfl, f45⟩)⟩
                              · skip
                                refine r_if_ne hX hP rfl (tgt := 93) rfl (by omega) (by omega) (fun c46 => ?_) (fun c46 => ?_)
                                · skip
                                  refine r_ex hX hP 1 (pc' := 94) (st' := [(2, (Ad E 1))]) (lo' := [(0, (2, (Ad E 1))), (1, (0, f)), (2, (0, t)), (3, (0, p)), (4, (0, sh)), (5, (0, dl)), (6, (0, se)), (7, (0, k))]) rfl ?_
                                  refine r_getKI hX hP rfl fl_12_342 hS (x := trades) trades_e ?_
                                  refine r_ex hX hP 1 (pc' := 99) (st' := [(0, 40), (0, trades)]) (lo' := [(0, (2, (Ad E 1))), (1, (0, f)), (2, (0, t)), (3, (0, p)), (4, (0, sh)), (5, (0, dl)), (6, (0, se)), (7, (0, k))]) rfl ?_
                                  refine r_ic_ne hX hP rfl (tgt := 108) rfl (by omega) (by omega) (by omega) (by omega) (fun c47 => ?_) (fun c47 => ?_)
                                  · skip
                                    refine r_ex hX hP 2 (pc' := 111) (st' := [(2, (Ad E 1)), (0, k)]) (lo' := [(0, (2, (Ad E 1))), (1, (0, f)), (2, (0, t)), (3, (0, p)), (4, (0, sh)), (5, (0, dl)), (6, (0, se)), (7, (0, k))]) rfl ?_
                                    refine r_getI hX hP rfl fl_12_339 hS (fun lf48 lf48e lf48a lf48b => ?_)
                                    refine r_ic_ge hX hP rfl (tgt := 123) rfl (by omega) (by omega) (by omega) (by omega) (fun c49 => ?_) (fun c49 => ?_)
                                    · skip
                                      refine r_ex hX hP 1 (pc' := 124) (st' := [(2, (Ad E 1))]) (lo' := [(0, (2, (Ad E 1))), (1, (0, f)), (2, (0, t)), (3, (0, p)), (4, (0, sh)), (5, (0, dl)), (6, (0, se)), (7, (0, k))]) rfl ?_
                                      refine r_getC hX hP rfl fl_12_46 hS (fun s50 => ?_)
                                      refine r_ex hX hP 1 (pc' := 128) (st' := [(2, (Ad E 1)), (2, (Ad E 11))]) (lo' := [(0, (2, (Ad E 1))), (1, (0, f)), (2, (0, t)), (3, (0, p)), (4, (0, sh)), (5, (0, dl)), (6, (0, se)), (7, (0, k))]) rfl ?_
                                      refine r_getKI hX hP rfl fl_12_342 hS (x := trades) trades_e ?_
                                      refine r_ex hX hP 1 (pc' := 132) (st' := [(0, f), (0, trades), (2, (Ad E 11))]) (lo' := [(0, (2, (Ad E 1))), (1, (0, f)), (2, (0, t)), (3, (0, p)), (4, (0, sh)), (5, (0, dl)), (6, (0, se)), (7, (0, k))]) rfl ?_
                                      refine r_iastK hX hP rfl al_11 s50 (by omega) (by omega) (by omega) (by omega) (fun h51 => ?_)
                                      refine r_ex hX hP 1 (pc' := 134) (st' := [(2, (Ad E 1))]) (lo' := [(0, (2, (Ad E 1))), (1, (0, f)), (2, (0, t)), (3, (0, p)), (4, (0, sh)), (5, (0, dl)), (6, (0, se)), (7, (0, k))]) rfl ?_
                                      refine r_getC hX hP rfl fl_12_49 hS (fun s52 => ?_)
                                      refine r_ex hX hP 1 (pc' := 138) (st' := [(2, (Ad E 1)), (2, (Ad E 12))]) (lo' := [(0, (2, (Ad E 1))), (1, (0, f)), (2, (0, t)), (3, (0, p)), (4, (0, sh)), (5, (0, dl)), (6, (0, se)), (7, (0, k))]) rfl ?_
                                      refine r_getKI hX hP rfl fl_12_342 hS (x := trades) trades_e ?_
                                      refine r_ex hX hP 1 (pc' := 142) (st' := [(0, t), (0, trades), (2, (Ad E 12))]) (lo' := [(0, (2, (Ad E 1))), (1, (0, f)), (2, (0, t)), (3, (0, p)), (4, (0, sh)), (5, (0, dl)), (6, (0, se)), (7, (0, k))]) rfl ?_
                                      refine r_iastK hX hP rfl al_12 s52 (by omega) (by omega) (by omega) (by omega) (fun h53 => ?_)
                                      refine r_ex hX hP 1 (pc' := 144) (st' := [(2, (Ad E 1))]) (lo' := [(0, (2, (Ad E 1))), (1, (0, f)), (2, (0, t)), (3, (0, p)), (4, (0, sh)), (5, (0, dl)), (6, (0, se)), (7, (0, k))]) rfl ?_
                                      refine r_getC hX hP rfl fl_12_52 hS (fun s54 => ?_)
                                      refine r_ex hX hP 1 (pc' := 148) (st' := [(2, (Ad E 1)), (2, (Ad E 13))]) (lo' := [(0, (2, (Ad E 1))), (1, (0, f)), (2, (0, t)), (3, (0, p)), (4, (0, sh)), (5, (0, dl)), (6, (0, se)), (7, (0, k))]) rfl ?_
                                      refine r_getKI hX hP rfl fl_12_342 hS (x := trades) trades_e ?_
                                      refine r_ex hX hP 1 (pc' := 152) (st' := [(0, p), (0, trades), (2, (Ad E 13))]) (lo' := [(0, (2, (Ad E 1))), (1, (0, f)), (2, (0, t)), (3, (0, p)), (4, (0, sh)), (5, (0, dl)), (6, (0, se)), (7, (0, k))]) rfl ?_
                                      refine r_iastK hX hP rfl al_13 s54 (by omega) (by omega) (by omega) (by omega) (fun h55 => ?_)
                                      refine r_ex hX hP 1 (pc' := 154) (st' := [(2, (Ad E 1))]) (lo' := [(0, (2, (Ad E 1))), (1, (0, f)), (2, (0, t)), (3, (0, p)), (4, (0, sh)), (5, (0, dl)), (6, (0, se)), (7, (0, k))]) rfl ?_
                                      refine r_getC hX hP rfl fl_12_55 hS (fun s56 => ?_)
                                      refine r_ex hX hP 1 (pc' := 158) (st' := [(2, (Ad E 1)), (2, (Ad E 14))]) (lo' := [(0, (2, (Ad E 1))), (1, (0, f)), (2, (0, t)), (3, (0, p)), (4, (0, sh)), (5, (0, dl)), (6, (0, se)), (7, (0, k))]) rfl ?_
                                      refine r_getKI hX hP rfl fl_12_342 hS (x := trades) trades_e ?_
                                      refine r_ex hX hP 1 (pc' := 163) (st' := [(0, sh), (0, trades), (2, (Ad E 14))]) (lo' := [(0, (2, (Ad E 1))), (1, (0, f)), (2, (0, t)), (3, (0, p)), (4, (0, sh)), (5, (0, dl)), (6, (0, se)), (7, (0, k))]) rfl ?_
                                      refine r_iastK hX hP rfl al_14 s56 (by omega) (by omega) (by omega) (by omega) (fun h57 => ?_)
                                      refine r_ex hX hP 1 (pc' := 165) (st' := [(2, (Ad E 1))]) (lo' := [(0, (2, (Ad E 1))), (1, (0, f)), (2, (0, t)), (3, (0, p)), (4, (0, sh)), (5, (0, dl)), (6, (0, se)), (7, (0, k))]) rfl ?_
                                      refine r_getC hX hP rfl fl_12_58 hS (fun s58 => ?_)
                                      refine r_ex hX hP 1 (pc' := 169) (st' := [(2, (Ad E 1)), (2, (Ad E 15))]) (lo' := [(0, (2, (Ad E 1))), (1, (0, f)), (2, (0, t)), (3, (0, p)), (4, (0, sh)), (5, (0, dl)), (6, (0, se)), (7, (0, k))]) rfl ?_
                                      refine r_getKI hX hP rfl fl_12_342 hS (x := trades) trades_e ?_
                                      refine r_ex hX hP 1 (pc' := 174) (st' := [(0, dl), (0, trades), (2, (Ad E 15))]) (lo' := [(0, (2, (Ad E 1))), (1, (0, f)), (2, (0, t)), (3, (0, p)), (4, (0, sh)), (5, (0, dl)), (6, (0, se)), (7, (0, k))]) rfl ?_
                                      refine r_iastK hX hP rfl al_15 s58 (by omega) (by omega) (by omega) (by omega) (fun h59 => ?_)
                                      refine r_ex hX hP 1 (pc' := 176) (st' := [(2, (Ad E 1))]) (lo' := [(0, (2, (Ad E 1))), (1, (0, f)), (2, (0, t)), (3, (0, p)), (4, (0, sh)), (5, (0, dl)), (6, (0, se)), (7, (0, k))]) rfl ?_
                                      refine r_getC hX hP rfl fl_12_61 hS (fun s60 => ?_)
                                      refine r_ex hX hP 1 (pc' := 180) (st' := [(2, (Ad E 1)), (2, (Ad E 16))]) (lo' := [(0, (2, (Ad E 1))), (1, (0, f)), (2, (0, t)), (3, (0, p)), (4, (0, sh)), (5, (0, dl)), (6, (0, se)), (7, (0, k))]) rfl ?_
                                      refine r_getKI hX hP rfl fl_12_342 hS (x := trades) trades_e ?_
                                      refine r_ex hX hP 1 (pc' := 185) (st' := [(0, se), (0, trades), (2, (Ad E 16))]) (lo' := [(0, (2, (Ad E 1))), (1, (0, f)), (2, (0, t)), (3, (0, p)), (4, (0, sh)), (5, (0, dl)), (6, (0, se)), (7, (0, k))]) rfl ?_
                                      refine r_iastK hX hP rfl al_16 s60 (by omega) (by omega) (by omega) (by omega) (fun h61 => ?_)
                                      refine r_ex hX hP 1 (pc' := 187) (st' := [(2, (Ad E 1))]) (lo' := [(0, (2, (Ad E 1))), (1, (0, f)), (2, (0, t)), (3, (0, p)), (4, (0, sh)), (5, (0, dl)), (6, (0, se)), (7, (0, k))]) rfl ?_
                                      refine r_getC hX hP rfl fl_12_64 hS (fun s62 => ?_)
                                      refine r_ex hX hP 1 (pc' := 191) (st' := [(2, (Ad E 1)), (2, (Ad E 17))]) (lo' := [(0, (2, (Ad E 1))), (1, (0, f)), (2, (0, t)), (3, (0, p)), (4, (0, sh)), (5, (0, dl)), (6, (0, se)), (7, (0, k))]) rfl ?_
                                      refine r_getKI hX hP rfl fl_12_342 hS (x := trades) trades_e ?_
                                      refine r_ex hX hP 1 (pc' := 196) (st' := [(0, k), (0, trades), (2, (Ad E 17))]) (lo' := [(0, (2, (Ad E 1))), (1, (0, f)), (2, (0, t)), (3, (0, p)), (4, (0, sh)), (5, (0, dl)), (6, (0, se)), (7, (0, k))]) rfl ?_
                                      refine r_iastK hX hP rfl al_17 s62 (by omega) (by omega) (by omega) (by omega) (fun h63 => ?_)
                                      refine r_ex hX hP 1 (pc' := 198) (st' := [(2, (Ad E 1))]) (lo' := [(0, (2, (Ad E 1))), (1, (0, f)), (2, (0, t)), (3, (0, p)), (4, (0, sh)), (5, (0, dl)), (6, (0, se)), (7, (0, k))]) rfl ?_
                                      refine r_getC hX hP rfl fl_12_67 hS (fun s64 => ?_)
                                      refine r_ex hX hP 1 (pc' := 202) (st' := [(2, (Ad E 1)), (2, (Ad E 18))]) (lo' := [(0, (2, (Ad E 1))), (1, (0, f)), (2, (0, t)), (3, (0, p)), (4, (0, sh)), (5, (0, dl)), (6, (0, se)), (7, (0, k))]) rfl ?_
                                      refine r_getKI hX hP rfl fl_12_342 hS (x := trades) trades_e ?_
                                      refine r_ldcw hX hP rfl (v := 1000000000) (tbg sg9 109 rfl rfl) ?_
                                      refine r_iastK hX hP rfl al_18 s64 (by omega) (by omega) (by omega) (by omega) (fun h65 => ?_)
                                      refine r_ex hX hP 2 (pc' := 211) (st' := [(2, (Ad E 1)), (2, (Ad E 1))]) (lo' := [(0, (2, (Ad E 1))), (1, (0, f)), (2, (0, t)), (3, (0, p)), (4, (0, sh)), (5, (0, dl)), (6, (0, se)), (7, (0, k))]) rfl ?_
                                      refine r_getKI hX hP rfl fl_12_342 hS (x := trades) trades_e ?_
                                      refine r_ex hX hP 2 (pc' := 216) (st' := [(0, (trades + 1)), (2, (Ad E 1))]) (lo' := [(0, (2, (Ad E 1))), (1, (0, f)), (2, (0, t)), (3, (0, p)), (4, (0, sh)), (5, (0, dl)), (6, (0, se)), (7, (0, k))]) rfl ?_
                                      refine r_putIK hX hP rfl fp_12_342 hS (by omega) (by omega) (fun h66 => ?_)
                                      refine r_ex hX hP 2 (pc' := 222) (st' := [(0, k), (2, (Ad E 1))]) (lo' := [(0, (2, (Ad E 1))), (1, (0, f)), (2, (0, t)), (3, (0, p)), (4, (0, sh)), (5, (0, dl)), (6, (0, se)), (7, (0, k))]) rfl ?_
                                      refine r_putIK hX hP rfl fp_12_339 hS (by omega) (by omega) (fun h67 => ?_)
                                      refine r_ex hX hP 1 (pc' := 226) (st' := [(2, (Ad E 1))]) (lo' := [(0, (2, (Ad E 1))), (1, (0, f)), (2, (0, t)), (3, (0, p)), (4, (0, sh)), (5, (0, dl)), (6, (0, se)), (7, (0, k))]) rfl ?_
                                      refine r_getKI hX hP rfl fl_12_342 hS (x := (trades + 1)) h66 ?_
                                      refine r_ex hX hP 2 (pc' := 231) (st' := [(0, ((trades + 1) - 1))]) (lo' := [(0, (2, (Ad E 1))), (1, (0, f)), (2, (0, t)), (3, (0, p)), (4, (0, sh)), (5, (0, dl)), (6, (0, se)), (7, (0, k))]) rfl ?_
                                      exact r_retI hX hP rfl rfl (by omega) (by omega) ⟨rfl, ⟨_, (hq_up (hq_up (hq_up (hq_up (hq_up (hq_up (hq_up (hq_up (hq_up (hq_up (hq_up (hq_up (hq_refl _ _ _) rfl) rfl) rfl) rfl) rfl) rfl) rfl) rfl) rfl) rfl) rfl) rfl).symm⟩, ((trades + 1) - 1), rfl, (by omega), (by omega), (mi_trade mi trades_e (by omega) rfl (up_self (up (up (up (up (up (up (up (up (up (up G 1 (Ad E 1) 1 0) 1 (Ad E 1) 0 0) 11 (Ad E 11) trades f) 12 (Ad E 12) trades t) 13 (Ad E 13) trades p) 14 (Ad E 14) trades sh) 15 (Ad E 15) trades dl) 16 (Ad E 16) trades se) 17 (Ad E 17) trades k) 18 (Ad E 18) trades 1000000000) 1 (Ad E 1) 8 (trades + 1)) rfl rfl rfl rfl (fun _ => rfl) (fun i hi => show (up (up (up (up (up (up G 1 (Ad E 1) 1 0) 1 (Ad E 1) 0 0) 11 (Ad E 11) trades f) 12 (Ad E 12) trades t) 13 (Ad E 13) trades p) 14 (Ad E 14) trades sh) 14 (Ad E 14) i = _ from up_ne (fun q => hi q.2.2)) (show (up (up (up (up (up (up G 1 (Ad E 1) 1 0) 1 (Ad E 1) 0 0) 11 (Ad E 11) trades f) 12 (Ad E 12) trades t) 13 (Ad E 13) trades p) 14 (Ad E 14) trades sh) 14 (Ad E 14) trades = _ from up_self _ _ _ _ _) (fun _ => rfl) (fun _ => rfl) (fun _ => rfl) (fun _ => rfl) (fun _ => rfl) (fun _ => rfl) (fun _ => rfl) (fun _ => rfl) (fun _ => rfl) (fun _ => rfl) (fun _ => rfl))⟩
                                    · skip
                                      refine r_ex hX hP 2 (pc' := 119) (st' := [(0, 4), (2, (Ad E 1))]) (lo' := [(0, (2, (Ad E 1))), (1, (0, f)), (2, (0, t)), (3, (0, p)), (4, (0, sh)), (5, (0, dl)), (6, (0, se)), (7, (0, k))]) rfl ?_
                                      refine r_callV gd hX hP rfl cv_12_327 hS (d' := 0) (mc' := 0) (ms' := 0) (as' := [(0, 4)]) (st := []) (by omega) (by omega) (by omega) rfl rfl (Nat.le_of_ble_eq_true rfl) (c_X12_refuse E S (up (up G 1 (Ad E 1) 1 0) 1 (Ad E 1) 0 0) 4 hS (by omega) (by omega)) ?_
                                      rintro _ _ _ ⟨rfl, ⟨G68, rfl⟩, z69, rfl, rfl⟩
                                      have mi70 : MI E (hv [0] [] (up (up G 1 (Ad E 1) 1 0) 1 (Ad E 1) 0 0) G68) := mi_keep mi rfl rfl rfl rfl rfl rfl (fun _ => rfl) (fun _ => rfl) (fun _ => rfl) (fun _ => rfl) (fun _ => rfl) (fun _ => rfl) (fun _ => rfl) (fun _ => rfl) (fun _ => rfl) (fun _ => rfl) (fun _ => rfl) (fun _ => rfl) (fun _ => rfl)
                                      exact r_retI hX hP rfl rfl (by omega) (by omega) ⟨rfl, ⟨_, (hq_call (hq_up (hq_up (hq_refl _ _ _) rfl) rfl) rfl).symm⟩, (-1), rfl, (by omega), (by omega), mi70⟩
                                  · skip
                                    refine r_ex hX hP 2 (pc' := 104) (st' := [(0, 3), (2, (Ad E 1))]) (lo' := [(0, (2, (Ad E 1))), (1, (0, f)), (2, (0, t)), (3, (0, p)), (4, (0, sh)), (5, (0, dl)), (6, (0, se)), (7, (0, k))]) rfl ?_
                                    refine r_callV gd hX hP rfl cv_12_327 hS (d' := 0) (mc' := 0) (ms' := 0) (as' := [(0, 3)]) (st := []) (by omega) (by omega) (by omega) rfl rfl (Nat.le_of_ble_eq_true rfl) (c_X12_refuse E S (up (up G 1 (Ad E 1) 1 0) 1 (Ad E 1) 0 0) 3 hS (by omega) (by omega)) ?_
                                    rintro _ _ _ ⟨rfl, ⟨G71, rfl⟩, z72, rfl, rfl⟩
                                    have mi73 : MI E (hv [0] [] (up (up G 1 (Ad E 1) 1 0) 1 (Ad E 1) 0 0) G71) := mi_keep mi rfl rfl rfl rfl rfl rfl (fun _ => rfl) (fun _ => rfl) (fun _ => rfl) (fun _ => rfl) (fun _ => rfl) (fun _ => rfl) (fun _ => rfl) (fun _ => rfl) (fun _ => rfl) (fun _ => rfl) (fun _ => rfl) (fun _ => rfl) (fun _ => rfl)
                                    exact r_retI hX hP rfl rfl (by omega) (by omega) ⟨rfl, ⟨_, (hq_call (hq_up (hq_up (hq_refl _ _ _) rfl) rfl) rfl).symm⟩, (-1), rfl, (by omega), (by omega), mi73⟩
                                · skip
                                  exfalso; omega
                              · skip
                                refine r_if_ne hX hP rfl (tgt := 93) rfl (by omega) (by omega) (fun c74 => ?_) (fun c74 => ?_)
                                · skip
                                  exfalso; omega
                                · skip
                                  refine r_ex hX hP 2 (pc' := 89) (st' := [(0, 2), (2, (Ad E 1))]) (lo' := [(0, (2, (Ad E 1))), (1, (0, f)), (2, (0, t)), (3, (0, p)), (4, (0, sh)), (5, (0, dl)), (6, (0, se)), (7, (0, k))]) rfl ?_
                                  refine r_callV gd hX hP rfl cv_12_327 hS (d' := 0) (mc' := 0) (ms' := 0) (as' := [(0, 2)]) (st := []) (by omega) (by omega) (by omega) rfl rfl (Nat.le_of_ble_eq_true rfl) (c_X12_refuse E S (up (up G 1 (Ad E 1) 1 0) 1 (Ad E 1) 0 0) 2 hS (by omega) (by omega)) ?_
                                  rintro _ _ _ ⟨rfl, ⟨G75, rfl⟩, z76, rfl, rfl⟩
                                  have mi77 : MI E (hv [0] [] (up (up G 1 (Ad E 1) 1 0) 1 (Ad E 1) 0 0) G75) := mi_keep mi rfl rfl rfl rfl rfl rfl (fun _ => rfl) (fun _ => rfl) (fun _ => rfl) (fun _ => rfl) (fun _ => rfl) (fun _ => rfl) (fun _ => rfl) (fun _ => rfl) (fun _ => rfl) (fun _ => rfl) (fun _ => rfl) (fun _ => rfl) (fun _ => rfl)
                                  exact r_retI hX hP rfl rfl (by omega) (by omega) ⟨rfl, ⟨_, (hq_call (hq_up (hq_up (hq_refl _ _ _) rfl) rfl) rfl).symm⟩, (-1), rfl, (by omega), (by omega), mi77⟩
                        · skip
                          refine r_if_eq hX hP rfl (tgt := 87) rfl (by omega) (by omega) (fun c78 => ?_) (fun c78 => ?_)
                          · skip
                            refine r_ex hX hP 2 (pc' := 89) (st' := [(0, 2), (2, (Ad E 1))]) (lo' := [(0, (2, (Ad E 1))), (1, (0, f)), (2, (0, t)), (3, (0, p)), (4, (0, sh)), (5, (0, dl)), (6, (0, se)), (7, (0, k))]) rfl ?_
                            refine r_callV gd hX hP rfl cv_12_327 hS (d' := 0) (mc' := 0) (ms' := 0) (as' := [(0, 2)]) (st := []) (by omega) (by omega) (by omega) rfl rfl (Nat.le_of_ble_eq_true rfl) (c_X12_refuse E S (up (up G 1 (Ad E 1) 1 0) 1 (Ad E 1) 0 0) 2 hS (by omega) (by omega)) ?_
                            rintro _ _ _ ⟨rfl, ⟨G79, rfl⟩, z80, rfl, rfl⟩
                            have mi81 : MI E (hv [0] [] (up (up G 1 (Ad E 1) 1 0) 1 (Ad E 1) 0 0) G79) := mi_keep mi rfl rfl rfl rfl rfl rfl (fun _ => rfl) (fun _ => rfl) (fun _ => rfl) (fun _ => rfl) (fun _ => rfl) (fun _ => rfl) (fun _ => rfl) (fun _ => rfl) (fun _ => rfl) (fun _ => rfl) (fun _ => rfl) (fun _ => rfl) (fun _ => rfl)
                            exact r_retI hX hP rfl rfl (by omega) (by omega) ⟨rfl, ⟨_, (hq_call (hq_up (hq_up (hq_refl _ _ _) rfl) rfl) rfl).symm⟩, (-1), rfl, (by omega), (by omega), mi81⟩
                          · skip
                            exfalso; omega
                    · skip
                      refine r_if_eq hX hP rfl (tgt := 87) rfl (by omega) (by omega) (fun c82 => ?_) (fun c82 => ?_)
                      · skip
                        refine r_ex hX hP 2 (pc' := 89) (st' := [(0, 2), (2, (Ad E 1))]) (lo' := [(0, (2, (Ad E 1))), (1, (0, f)), (2, (0, t)), (3, (0, p)), (4, (0, sh)), (5, (0, dl)), (6, (0, se)), (7, (0, k))]) rfl ?_
                        refine r_callV gd hX hP rfl cv_12_327 hS (d' := 0) (mc' := 0) (ms' := 0) (as' := [(0, 2)]) (st := []) (by omega) (by omega) (by omega) rfl rfl (Nat.le_of_ble_eq_true rfl) (c_X12_refuse E S (up (up G 1 (Ad E 1) 1 0) 1 (Ad E 1) 0 0) 2 hS (by omega) (by omega)) ?_
                        rintro _ _ _ ⟨rfl, ⟨G83, rfl⟩, z84, rfl, rfl⟩
                        have mi85 : MI E (hv [0] [] (up (up G 1 (Ad E 1) 1 0) 1 (Ad E 1) 0 0) G83) := mi_keep mi rfl rfl rfl rfl rfl rfl (fun _ => rfl) (fun _ => rfl) (fun _ => rfl) (fun _ => rfl) (fun _ => rfl) (fun _ => rfl) (fun _ => rfl) (fun _ => rfl) (fun _ => rfl) (fun _ => rfl) (fun _ => rfl) (fun _ => rfl) (fun _ => rfl)
                        exact r_retI hX hP rfl rfl (by omega) (by omega) ⟨rfl, ⟨_, (hq_call (hq_up (hq_up (hq_refl _ _ _) rfl) rfl) rfl).symm⟩, (-1), rfl, (by omega), (by omega), mi85⟩
                      · skip
                        exfalso; omega
                · skip
                  refine r_if_eq hX hP rfl (tgt := 87) rfl (by omega) (by omega) (fun c86 => ?_) (fun c86 => ?_)
                  · skip
                    refine r_ex hX hP 2 (pc' := 89) (st' := [(0, 2), (2, (Ad E 1))]) (lo' := [(0, (2, (Ad E 1))), (1, (0, f)), (2, (0, t)), (3, (0, p)), (4, (0, sh)), (5, (0, dl)), (6, (0, se)), (7, (0, k))]) rfl ?_
                    refine r_callV gd hX hP rfl cv_12_327 hS (d' := 0) (mc' := 0) (ms' := 0) (as' := [(0, 2)]) (st := []) (by omega) (by omega) (by omega) rfl rfl (Nat.le_of_ble_eq_true rfl) (c_X12_refuse E S (up (up G 1 (Ad E 1) 1 0) 1 (Ad E 1) 0 0) 2 hS (by omega) (by omega)) ?_
                    rintro _ _ _ ⟨rfl, ⟨G87, rfl⟩, z88, rfl, rfl⟩
                    have mi89 : MI E (hv [0] [] (up (up G 1 (Ad E 1) 1 0) 1 (Ad E 1) 0 0) G87) := mi_keep mi rfl rfl rfl rfl rfl rfl (fun _ => rfl) (fun _ => rfl) (fun _ => rfl) (fun _ => rfl) (fun _ => rfl) (fun _ => rfl) (fun _ => rfl) (fun _ => rfl) (fun _ => rfl) (fun _ => rfl) (fun _ => rfl) (fun _ => rfl) (fun _ => rfl)
                    exact r_retI hX hP rfl rfl (by omega) (by omega) ⟨rfl, ⟨_, (hq_call (hq_up (hq_up (hq_refl _ _ _) rfl) rfl) rfl).symm⟩, (-1), rfl, (by omega), (by omega), mi89⟩
                  · skip
                    exfalso; omega
              · skip
                exfalso; omega
            · skip
              refine r_if_ne hX hP rfl (tgt := 44) rfl (by omega) (by omega) (fun c90 => ?_) (fun c90 => ?_)
              · skip
                exfalso; omega
              · skip
                refine r_ex hX hP 2 (pc' := 40) (st' := [(0, 1), (2, (Ad E 1))]) (lo' := [(0, (2, (Ad E 1))), (1, (0, f)), (2, (0, t)), (3, (0, p)), (4, (0, sh)), (5, (0, dl)), (6, (0, se)), (7, (0, k))]) rfl ?_
                refine r_callV gd hX hP rfl cv_12_327 hS (d' := 0) (mc' := 0) (ms' := 0) (as' := [(0, 1)]) (st := []) (by omega) (by omega) (by omega) rfl rfl (Nat.le_of_ble_eq_true rfl) (c_X12_refuse E S (up (up G 1 (Ad E 1) 1 0) 1 (Ad E 1) 0 0) 1 hS (by omega) (by omega)) ?_
                rintro _ _ _ ⟨rfl, ⟨G91, rfl⟩, z92, rfl, rfl⟩
                have mi93 : MI E (hv [0] [] (up (up G 1 (Ad E 1) 1 0) 1 (Ad E 1) 0 0) G91) := mi_keep mi rfl rfl rfl rfl rfl rfl (fun _ => rfl) (fun _ => rfl) (fun _ => rfl) (fun _ => rfl) (fun _ => rfl) (fun _ => rfl) (fun _ => rfl) (fun _ => rfl) (fun _ => rfl) (fun _ => rfl) (fun _ => rfl) (fun _ => rfl) (fun _ => rfl)
                exact r_retI hX hP rfl rfl (by omega) (by omega) ⟨rfl, ⟨_, (hq_call (hq_up (hq_up (hq_refl _ _ _) rfl) rfl) rfl).symm⟩, (-1), rfl, (by omega), (by omega), mi93⟩
      · skip
        refine r_if_eq hX hP rfl (tgt := 38) rfl (by omega) (by omega) (fun c94 => ?_) (fun c94 => ?_)
        · skip
          refine r_ex hX hP 2 (pc' := 40) (st' := [(0, 1), (2, (Ad E 1))]) (lo' := [(0, (2, (Ad E 1))), (1, (0, f)), (2, (0, t)), (3, (0, p)), (4, (0, sh)), (5, (0, dl)), (6, (0, se)), (7, (0, k))]) rfl ?_
          refine r_callV gd hX hP rfl cv_12_327 hS (d' := 0) (mc' := 0) (ms' := 0) (as' := [(0, 1)]) (st := []) (by omega) (by omega) (by omega) rfl rfl (Nat.le_of_ble_eq_true rfl) (c_X12_refuse E S (up (up G 1 (Ad E 1) 1 0) 1 (Ad E 1) 0 0) 1 hS (by omega) (by omega)) ?_
          rintro _ _ _ ⟨rfl, ⟨G95, rfl⟩, z96, rfl, rfl⟩
          have mi97 : MI E (hv [0] [] (up (up G 1 (Ad E 1) 1 0) 1 (Ad E 1) 0 0) G95) := mi_keep mi rfl rfl rfl rfl rfl rfl (fun _ => rfl) (fun _ => rfl) (fun _ => rfl) (fun _ => rfl) (fun _ => rfl) (fun _ => rfl) (fun _ => rfl) (fun _ => rfl) (fun _ => rfl) (fun _ => rfl) (fun _ => rfl) (fun _ => rfl) (fun _ => rfl)
          exact r_retI hX hP rfl rfl (by omega) (by omega) ⟨rfl, ⟨_, (hq_call (hq_up (hq_up (hq_refl _ _ _) rfl) rfl) rfl).symm⟩, (-1), rfl, (by omega), (by omega), mi97⟩
        · skip
          exfalso; omega
  · skip
    refine r_if_eq hX hP rfl (tgt := 38) rfl (by omega) (by omega) (fun c98 => ?_) (fun c98 => ?_)
    · skip
      refine r_ex hX hP 2 (pc' := 40) (st' := [(0, 1), (2, (Ad E 1))]) (lo' := [(0, (2, (Ad E 1))), (1, (0, f)), (2, (0, t)), (3, (0, p)), (4, (0, sh)), (5, (0, dl)), (6, (0, se)), (7, (0, k))]) rfl ?_
      refine r_callV gd hX hP rfl cv_12_327 hS (d' := 0) (mc' := 0) (ms' := 0) (as' := [(0, 1)]) (st := []) (by omega) (by omega) (by omega) rfl rfl (Nat.le_of_ble_eq_true rfl) (c_X12_refuse E S (up (up G 1 (Ad E 1) 1 0) 1 (Ad E 1) 0 0) 1 hS (by omega) (by omega)) ?_
      rintro _ _ _ ⟨rfl, ⟨G99, rfl⟩, z100, rfl, rfl⟩
      have mi101 : MI E (hv [0] [] (up (up G 1 (Ad E 1) 1 0) 1 (Ad E 1) 0 0) G99) := mi_keep mi rfl rfl rfl rfl rfl rfl (fun _ => rfl) (fun _ => rfl) (fun _ => rfl) (fun _ => rfl) (fun _ => rfl) (fun _ => rfl) (fun _ => rfl) (fun _ => rfl) (fun _ => rfl) (fun _ => rfl) (fun _ => rfl) (fun _ => rfl) (fun _ => rfl)
      exact r_retI hX hP rfl rfl (by omega) (by omega) ⟨rfl, ⟨_, (hq_call (hq_up (hq_up (hq_refl _ _ _) rfl) rfl) rfl).symm⟩, (-1), rfl, (by omega), (by omega), mi101⟩
    · skip
      exfalso; omega
set_option maxRecDepth 100000 in
set_option maxHeartbeats 4000000 in
theorem c_X12_choose (E : En) (S : Sg) (G : Gh) (e a ch d k : Int) (hS : S (Ad E 1) = 1) (says : Int) (says_e : says = G 1 (Ad E 1) 10) (accounts : Int) (accounts_e : accounts = G 1 (Ad E 1) 6) (e_a : (-2147483648) ≤ e) (e_b : e ≤ 2147483647) (a_a : (-2147483648) ≤ a) (a_b : a ≤ 2147483647) (ch_a : (-2147483648) ≤ ch) (ch_b : ch ≤ 2147483647) (d_a : (-2147483648) ≤ d) (d_b : d ≤ 2147483647) (k_a : (-2147483648) ≤ k) (k_b : k ≤ 2147483647) (mi : MI E G) : Calls E mX12_choose [(2, (Ad E 1)), (0, e), (0, a), (0, ch), (0, d), (0, k)] S G 2 0 0 (fun r S' G' => S = S' ∧ (∃ G1, hv [0, 1, 3, 10] [38, 39, 40, 41, 42, 43] G G1 = G') ∧ ∃ z : Int, r = some (0, z) ∧ (-2147483648) ≤ z ∧ z ≤ 2147483647 ∧ MI E G') := by
  refine calls_by [(0, (2, (Ad E 1))), (1, (0, e)), (2, (0, a)), (3, (0, ch)), (4, (0, d)), (5, (0, k))] rfl rfl (Nat.le_of_ble_eq_true rfl) (fun X hX => ?_)
  have hP := hPX12_choose
  refine r_peekI hX (tl1 10 rfl (by decide)) hS (fun says_o says_oe says_oa says_ob => ?_)
  obtain rfl : says = says_o := says_e.trans says_oe.symm
  refine r_peekI hX (tl1 6 rfl (by decide)) hS (fun accounts_o accounts_oe accounts_oa accounts_ob => ?_)
  obtain rfl : accounts = accounts_o := accounts_e.trans accounts_oe.symm
  refine r_ex hX hP 2 (pc' := 2) (st' := [(0, 0), (2, (Ad E 1))]) (lo' := [(0, (2, (Ad E 1))), (1, (0, e)), (2, (0, a)), (3, (0, ch)), (4, (0, d)), (5, (0, k))]) rfl ?_
  refine r_putIK hX hP rfl fp_12_304 hS (by omega) (by omega) (fun h1 => ?_)
  refine r_ex hX hP 2 (pc' := 7) (st' := [(0, 0), (2, (Ad E 1))]) (lo' := [(0, (2, (Ad E 1))), (1, (0, e)), (2, (0, a)), (3, (0, ch)), (4, (0, d)), (5, (0, k))]) rfl ?_
  refine r_putIK hX hP rfl fp_12_307 hS (by omega) (by omega) (fun h2 => ?_)
  refine r_ex hX hP 2 (pc' := 12) (st' := [(0, e), (2, (Ad E 1))]) (lo' := [(0, (2, (Ad E 1))), (1, (0, e)), (2, (0, a)), (3, (0, ch)), (4, (0, d)), (5, (0, k))]) rfl ?_
  refine r_peekI hX (tl1 9 rfl (by decide)) hS (fun evp3 evp3e evp3a evp3b => ?_)
  refine r_callV gd hX hP rfl cv_12_493 hS (d' := 1) (mc' := 0) (ms' := 0) (as' := [(0, e)]) (st := []) (by omega) (by omega) (by omega) rfl rfl (Nat.le_of_ble_eq_true rfl) (c_X12_isEvent E S (up (up G 1 (Ad E 1) 1 0) 1 (Ad E 1) 0 0) e hS evp3 evp3e (by omega) (by omega)) ?_
  rintro _ _ _ ⟨rfl, rfl, z4, rfl, (⟨rfl, f5, f6⟩ | ⟨rfl, f7⟩)⟩
  · skip
    refine r_if_eq hX hP rfl (tgt := 42) rfl (by omega) (by omega) (fun c8 => ?_) (fun c8 => ?_)
    · skip
      exfalso; omega
    · skip
      refine r_ex hX hP 2 (pc' := 20) (st' := [(0, a), (2, (Ad E 1))]) (lo' := [(0, (2, (Ad E 1))), (1, (0, e)), (2, (0, a)), (3, (0, ch)), (4, (0, d)), (5, (0, k))]) rfl ?_
      refine r_callV gd hX hP rfl cv_12_324 hS (d' := 1) (mc' := 0) (ms' := 0) (as' := [(0, a)]) (st := []) (by omega) (by omega) (by omega) rfl rfl (Nat.le_of_ble_eq_true rfl) (c_X12_isAccount E S (up (up G 1 (Ad E 1) 1 0) 1 (Ad E 1) 0 0) a hS accounts accounts_e (by omega) (by omega)) ?_
      rintro _ _ _ ⟨rfl, rfl, z9, rfl, (⟨rfl, f10, f11⟩ | ⟨rfl, f12⟩)⟩
      · skip
        refine r_if_eq hX hP rfl (tgt := 42) rfl (by omega) (by omega) (fun c13 => ?_) (fun c13 => ?_)
        · skip
          exfalso; omega
        · skip
          refine r_ex hX hP 3 (pc' := 29) (st' := [(2, (Ad E 1)), (0, 0), (0, ch)]) (lo' := [(0, (2, (Ad E 1))), (1, (0, e)), (2, (0, a)), (3, (0, ch)), (4, (0, d)), (5, (0, k))]) rfl ?_
          refine r_getC hX hP rfl fl_12_95 hS (fun s14 => ?_)
          refine r_ex hX hP 1 (pc' := 33) (st' := [(0, e), (2, (Ad E 27)), (0, 0), (0, ch)]) (lo' := [(0, (2, (Ad E 1))), (1, (0, e)), (2, (0, a)), (3, (0, ch)), (4, (0, d)), (5, (0, k))]) rfl ?_
          refine r_iald hX hP rfl al_27 s14 (by omega) (by omega) (fun x15 x15e x15a x15b => ?_)
          refine r_ex hX hP 2 (pc' := 36) (st' := [(0, (x15 - 1)), (0, 0), (0, ch)]) (lo' := [(0, (2, (Ad E 1))), (1, (0, e)), (2, (0, a)), (3, (0, ch)), (4, (0, d)), (5, (0, k))]) rfl ?_
          refine r_callS gd hX hP rfl cs_12_310 (d' := 0) (mc' := 0) (ms' := 0) (as' := [(0, ch), (0, 0), (0, (x15 - 1))]) (st := []) (by omega) (by omega) (by omega) rfl rfl (Nat.le_of_ble_eq_true rfl) (c_X12_isIn E S (up (up G 1 (Ad E 1) 1 0) 1 (Ad E 1) 0 0) ch 0 (x15 - 1) (by omega) (by omega) (by omega) (by omega) (by omega) (by omega)) ?_
          rintro _ _ _ ⟨rfl, rfl, z16, rfl, (⟨rfl, f17, f18⟩ | ⟨rfl, f19⟩)⟩
          · skip
            refine r_if_ne hX hP rfl (tgt := 48) rfl (by omega) (by omega) (fun c20 => ?_) (fun c20 => ?_)
            · skip
              refine r_ex hX hP 1 (pc' := 50) (st' := [(0, d)]) (lo' := [(0, (2, (Ad E 1))), (1, (0, e)), (2, (0, a)), (3, (0, ch)), (4, (0, d)), (5, (0, k))]) rfl ?_
              refine r_callS gd hX hP rfl cs_12_317 (d' := 1) (mc' := 0) (ms' := 0) (as' := [(0, d)]) (st := []) (by omega) (by omega) (by omega) rfl rfl (Nat.le_of_ble_eq_true rfl) (c_X12_isDay E S (up (up G 1 (Ad E 1) 1 0) 1 (Ad E 1) 0 0) d (by omega) (by omega)) ?_
              rintro _ _ _ ⟨rfl, rfl, z21, rfl, (⟨rfl, f22, f23⟩ | ⟨rfl, f24⟩)⟩
              · skip
                refine r_if_eq hX hP rfl (tgt := 64) rfl (by omega) (by omega) (fun c25 => ?_) (fun c25 => ?_)
                · skip
                  exfalso; omega
                · skip
                  refine r_ex hX hP 1 (pc' := 58) (st' := [(0, k)]) (lo' := [(0, (2, (Ad E 1))), (1, (0, e)), (2, (0, a)), (3, (0, ch)), (4, (0, d)), (5, (0, k))]) rfl ?_
                  refine r_callS gd hX hP rfl cs_12_317 (d' := 1) (mc' := 0) (ms' := 0) (as' := [(0, k)]) (st := []) (by omega) (by omega) (by omega) rfl rfl (Nat.le_of_ble_eq_true rfl) (c_X12_isDay E S (up (up G 1 (Ad E 1) 1 0) 1 (Ad E 1) 0 0) k (by omega) (by omega)) ?_
                  rintro _ _ _ ⟨rfl, rfl, z26, rfl, (⟨rfl, f27, f28⟩ | ⟨rfl, f29⟩)⟩
                  · skip
                    refine r_if_ne hX hP rfl (tgt := 70) rfl (by omega) (by omega) (fun c30 => ?_) (fun c30 => ?_)
                    · skip
                      refine r_ex hX hP 1 (pc' := 71) (st' := [(2, (Ad E 1))]) (lo' := [(0, (2, (Ad E 1))), (1, (0, e)), (2, (0, a)), (3, (0, ch)), (4, (0, d)), (5, (0, k))]) rfl ?_
                      refine r_getKI hX hP rfl fl_12_496 hS (x := says) says_e ?_
                      refine r_ex hX hP 1 (pc' := 76) (st' := [(0, 60), (0, says)]) (lo' := [(0, (2, (Ad E 1))), (1, (0, e)), (2, (0, a)), (3, (0, ch)), (4, (0, d)), (5, (0, k))]) rfl ?_
                      refine r_ic_ne hX hP rfl (tgt := 85) rfl (by omega) (by omega) (by omega) (by omega) (fun c31 => ?_) (fun c31 => ?_)
                      · skip
                        refine r_ex hX hP 2 (pc' := 88) (st' := [(2, (Ad E 1)), (0, k)]) (lo' := [(0, (2, (Ad E 1))), (1, (0, e)), (2, (0, a)), (3, (0, ch)), (4, (0, d)), (5, (0, k))]) rfl ?_
                        refine r_getI hX hP rfl fl_12_339 hS (fun lf32 lf32e lf32a lf32b => ?_)
                        refine r_ic_ge hX hP rfl (tgt := 100) rfl (by omega) (by omega) (by omega) (by omega) (fun c33 => ?_) (fun c33 => ?_)
                        · skip
                          refine r_ex hX hP 1 (pc' := 101) (st' := [(2, (Ad E 1))]) (lo' := [(0, (2, (Ad E 1))), (1, (0, e)), (2, (0, a)), (3, (0, ch)), (4, (0, d)), (5, (0, k))]) rfl ?_
                          refine r_getC hX hP rfl fl_12_128 hS (fun s34 => ?_)
                          refine r_ex hX hP 1 (pc' := 105) (st' := [(2, (Ad E 1)), (2, (Ad E 38))]) (lo' := [(0, (2, (Ad E 1))), (1, (0, e)), (2, (0, a)), (3, (0, ch)), (4, (0, d)), (5, (0, k))]) rfl ?_
                          refine r_getKI hX hP rfl fl_12_496 hS (x := says) says_e ?_
                          refine r_ex hX hP 1 (pc' := 109) (st' := [(0, e), (0, says), (2, (Ad E 38))]) (lo' := [(0, (2, (Ad E 1))), (1, (0, e)), (2, (0, a)), (3, (0, ch)), (4, (0, d)), (5, (0, k))]) rfl ?_
                          refine r_iastK hX hP rfl al_38 s34 (by omega) (by omega) (by omega) (by omega) (fun h35 => ?_)
                          refine r_ex hX hP 1 (pc' := 111) (st' := [(2, (Ad E 1))]) (lo' := [(0, (2, (Ad E 1))), (1, (0, e)), (2, (0, a)), (3, (0, ch)), (4, (0, d)), (5, (0, k))]) rfl ?_
                          refine r_getC hX hP rfl fl_12_131 hS (fun s36 => ?_)
                          refine r_ex hX hP 1 (pc' := 115) (st' := [(2, (Ad E 1)), (2, (Ad E 39))]) (lo' := [(0, (2, (Ad E 1))), (1, (0, e)), (2, (0, a)), (3, (0, ch)), (4, (0, d)), (5, (0, k))]) rfl ?_
                          refine r_getKI hX hP rfl fl_12_496 hS (x := says) says_e ?_
                          refine r_ex hX hP 1 (pc' := 119) (st' := [(0, a), (0, says), (2, (Ad E 39))]) (lo' := [(0, (2, (Ad E 1))), (1, (0, e)), (2, (0, a)), (3, (0, ch)), (4, (0, d)), (5, (0, k))]) rfl ?_
                          refine r_iastK hX hP rfl al_39 s36 (by omega) (by omega) (by omega) (by omega) (fun h37 => ?_)
                          refine r_ex hX hP 1 (pc' := 121) (st' := [(2, (Ad E 1))]) (lo' := [(0, (2, (Ad E 1))), (1, (0, e)), (2, (0, a)), (3, (0, ch)), (4, (0, d)), (5, (0, k))]) rfl ?_
                          refine r_getC hX hP rfl fl_12_134 hS (fun s38 => ?_)
                          refine r_ex hX hP 1 (pc' := 125) (st' := [(2, (Ad E 1)), (2, (Ad E 40))]) (lo' := [(0, (2, (Ad E 1))), (1, (0, e)), (2, (0, a)), (3, (0, ch)), (4, (0, d)), (5, (0, k))]) rfl ?_
                          refine r_getKI hX hP rfl fl_12_496 hS (x := says) says_e ?_
                          refine r_ex hX hP 1 (pc' := 129) (st' := [(0, ch), (0, says), (2, (Ad E 40))]) (lo' := [(0, (2, (Ad E 1))), (1, (0, e)), (2, (0, a)), (3, (0, ch)), (4, (0, d)), (5, (0, k))]) rfl ?_
                          refine r_iastK hX hP rfl al_40 s38 (by omega) (by omega) (by omega) (by omega) (fun h39 => ?_)
                          refine r_ex hX hP 1 (pc' := 131) (st' := [(2, (Ad E 1))]) (lo' := [(0, (2, (Ad E 1))), (1, (0, e)), (2, (0, a)), (3, (0, ch)), (4, (0, d)), (5, (0, k))]) rfl ?_
                          refine r_getC hX hP rfl fl_12_137 hS (fun s40 => ?_)
                          refine r_ex hX hP 1 (pc' := 135) (st' := [(2, (Ad E 1)), (2, (Ad E 41))]) (lo' := [(0, (2, (Ad E 1))), (1, (0, e)), (2, (0, a)), (3, (0, ch)), (4, (0, d)), (5, (0, k))]) rfl ?_
                          refine r_getKI hX hP rfl fl_12_496 hS (x := says) says_e ?_
                          refine r_ex hX hP 1 (pc' := 140) (st' := [(0, d), (0, says), (2, (Ad E 41))]) (lo' := [(0, (2, (Ad E 1))), (1, (0, e)), (2, (0, a)), (3, (0, ch)), (4, (0, d)), (5, (0, k))]) rfl ?_
                          refine r_iastK hX hP rfl al_41 s40 (by omega) (by omega) (by omega) (by omega) (fun h41 => ?_)
                          refine r_ex hX hP 1 (pc' := 142) (st' := [(2, (Ad E 1))]) (lo' := [(0, (2, (Ad E 1))), (1, (0, e)), (2, (0, a)), (3, (0, ch)), (4, (0, d)), (5, (0, k))]) rfl ?_
                          refine r_getC hX hP rfl fl_12_140 hS (fun s42 => ?_)
                          refine r_ex hX hP 1 (pc' := 146) (st' := [(2, (Ad E 1)), (2, (Ad E 42))]) (lo' := [(0, (2, (Ad E 1))), (1, (0, e)), (2, (0, a)), (3, (0, ch)), (4, (0, d)), (5, (0, k))]) rfl ?_
                          refine r_getKI hX hP rfl fl_12_496 hS (x := says) says_e ?_
                          refine r_ex hX hP 1 (pc' := 151) (st' := [(0, k), (0, says), (2, (Ad E 42))]) (lo' := [(0, (2, (Ad E 1))), (1, (0, e)), (2, (0, a)), (3, (0, ch)), (4, (0, d)), (5, (0, k))]) rfl ?_
                          refine r_iastK hX hP rfl al_42 s42 (by omega) (by omega) (by omega) (by omega) (fun h43 => ?_)
                          refine r_ex hX hP 1 (pc' := 153) (st' := [(2, (Ad E 1))]) (lo' := [(0, (2, (Ad E 1))), (1, (0, e)), (2, (0, a)), (3, (0, ch)), (4, (0, d)), (5, (0, k))]) rfl ?_
                          refine r_getC hX hP rfl fl_12_143 hS (fun s44 => ?_)
                          refine r_ex hX hP 1 (pc' := 157) (st' := [(2, (Ad E 1)), (2, (Ad E 43))]) (lo' := [(0, (2, (Ad E 1))), (1, (0, e)), (2, (0, a)), (3, (0, ch)), (4, (0, d)), (5, (0, k))]) rfl ?_
                          refine r_getKI hX hP rfl fl_12_496 hS (x := says) says_e ?_
                          refine r_ldcw hX hP rfl (v := 1000000000) (tbg sg9 109 rfl rfl) ?_
                          refine r_iastK hX hP rfl al_43 s44 (by omega) (by omega) (by omega) (by omega) (fun h45 => ?_)
                          refine r_ex hX hP 2 (pc' := 166) (st' := [(2, (Ad E 1)), (2, (Ad E 1))]) (lo' := [(0, (2, (Ad E 1))), (1, (0, e)), (2, (0, a)), (3, (0, ch)), (4, (0, d)), (5, (0, k))]) rfl ?_
                          refine r_getKI hX hP rfl fl_12_496 hS (x := says) says_e ?_
                          refine r_ex hX hP 2 (pc' := 171) (st' := [(0, (says + 1)), (2, (Ad E 1))]) (lo' := [(0, (2, (Ad E 1))), (1, (0, e)), (2, (0, a)), (3, (0, ch)), (4, (0, d)), (5, (0, k))]) rfl ?_
                          refine r_putIK hX hP rfl fp_12_496 hS (by omega) (by omega) (fun h46 => ?_)
                          refine r_ex hX hP 2 (pc' := 177) (st' := [(0, k), (2, (Ad E 1))]) (lo' := [(0, (2, (Ad E 1))), (1, (0, e)), (2, (0, a)), (3, (0, ch)), (4, (0, d)), (5, (0, k))]) rfl ?_
                          refine r_putIK hX hP rfl fp_12_339 hS (by omega) (by omega) (fun h47 => ?_)
                          refine r_ex hX hP 1 (pc' := 181) (st' := [(2, (Ad E 1))]) (lo' := [(0, (2, (Ad E 1))), (1, (0, e)), (2, (0, a)), (3, (0, ch)), (4, (0, d)), (5, (0, k))]) rfl ?_
                          refine r_getKI hX hP rfl fl_12_496 hS (x := (says + 1)) h46 ?_
                          refine r_ex hX hP 2 (pc' := 186) (st' := [(0, ((says + 1) - 1))]) (lo' := [(0, (2, (Ad E 1))), (1, (0, e)), (2, (0, a)), (3, (0, ch)), (4, (0, d)), (5, (0, k))]) rfl ?_
                          exact r_retI hX hP rfl rfl (by omega) (by omega) ⟨rfl, ⟨_, (hq_up (hq_up (hq_up (hq_up (hq_up (hq_up (hq_up (hq_up (hq_up (hq_up (hq_refl _ _ _) rfl) rfl) rfl) rfl) rfl) rfl) rfl) rfl) rfl) rfl).symm⟩, ((says + 1) - 1), rfl, (by omega), (by omega), (mi_choose mi says_e (by omega) rfl rfl rfl (up_self (up (up (up (up (up (up (up (up G 1 (Ad E 1) 1 0) 1 (Ad E 1) 0 0) 38 (Ad E 38) says e) 39 (Ad E 39) says a) 40 (Ad E 40) says ch) 41 (Ad E 41) says d) 42 (Ad E 42) says k) 43 (Ad E 43) says 1000000000) 1 (Ad E 1) 10 (says + 1)) rfl rfl (fun _ => rfl) (fun _ => rfl) (fun _ => rfl) (fun _ => rfl) (fun i hi => show (up (up (up (up G 1 (Ad E 1) 1 0) 1 (Ad E 1) 0 0) 38 (Ad E 38) says e) 39 (Ad E 39) says a) 39 (Ad E 39) i = _ from up_ne (fun q => hi q.2.2)) (show (up (up (up (up G 1 (Ad E 1) 1 0) 1 (Ad E 1) 0 0) 38 (Ad E 38) says e) 39 (Ad E 39) says a) 39 (Ad E 39) says = _ from up_self _ _ _ _ _) (fun _ => rfl) (fun _ => rfl) (fun _ => rfl) (fun _ => rfl) (fun _ => rfl) (fun _ => rfl) (fun _ => rfl) (fun _ => rfl))⟩
                        · skip
                          refine r_ex hX hP 2 (pc' := 96) (st' := [(0, 4), (2, (Ad E 1))]) (lo' := [(0, (2, (Ad E 1))), (1, (0, e)), (2, (0, a)), (3, (0, ch)), (4, (0, d)), (5, (0, k))]) rfl ?_
                          refine r_callV gd hX hP rfl cv_12_327 hS (d' := 0) (mc' := 0) (ms' := 0) (as' := [(0, 4)]) (st := []) (by omega) (by omega) (by omega) rfl rfl (Nat.le_of_ble_eq_true rfl) (c_X12_refuse E S (up (up G 1 (Ad E 1) 1 0) 1 (Ad E 1) 0 0) 4 hS (by omega) (by omega)) ?_
                          rintro _ _ _ ⟨rfl, ⟨G48, rfl⟩, z49, rfl, rfl⟩
                          have mi50 : MI E (hv [0] [] (up (up G 1 (Ad E 1) 1 0) 1 (Ad E 1) 0 0) G48) := mi_keep mi rfl rfl rfl rfl rfl rfl (fun _ => rfl) (fun _ => rfl) (fun _ => rfl) (fun _ => rfl) (fun _ => rfl) (fun _ => rfl) (fun _ => rfl) (fun _ => rfl) (fun _ => rfl) (fun _ => rfl) (fun _ => rfl) (fun _ => rfl) (fun _ => rfl)
                          exact r_retI hX hP rfl rfl (by omega) (by omega) ⟨rfl, ⟨_, (hq_call (hq_up (hq_up (hq_refl _ _ _) rfl) rfl) rfl).symm⟩, (-1), rfl, (by omega), (by omega), mi50⟩
                      · skip
                        refine r_ex hX hP 2 (pc' := 81) (st' := [(0, 3), (2, (Ad E 1))]) (lo' := [(0, (2, (Ad E 1))), (1, (0, e)), (2, (0, a)), (3, (0, ch)), (4, (0, d)), (5, (0, k))]) rfl ?_
                        refine r_callV gd hX hP rfl cv_12_327 hS (d' := 0) (mc' := 0) (ms' := 0) (as' := [(0, 3)]) (st := []) (by omega) (by omega) (by omega) rfl rfl (Nat.le_of_ble_eq_true rfl) (c_X12_refuse E S (up (up G 1 (Ad E 1) 1 0) 1 (Ad E 1) 0 0) 3 hS (by omega) (by omega)) ?_
                        rintro _ _ _ ⟨rfl, ⟨G51, rfl⟩, z52, rfl, rfl⟩
                        have mi53 : MI E (hv [0] [] (up (up G 1 (Ad E 1) 1 0) 1 (Ad E 1) 0 0) G51) := mi_keep mi rfl rfl rfl rfl rfl rfl (fun _ => rfl) (fun _ => rfl) (fun _ => rfl) (fun _ => rfl) (fun _ => rfl) (fun _ => rfl) (fun _ => rfl) (fun _ => rfl) (fun _ => rfl) (fun _ => rfl) (fun _ => rfl) (fun _ => rfl) (fun _ => rfl)
                        exact r_retI hX hP rfl rfl (by omega) (by omega) ⟨rfl, ⟨_, (hq_call (hq_up (hq_up (hq_refl _ _ _) rfl) rfl) rfl).symm⟩, (-1), rfl, (by omega), (by omega), mi53⟩
                    · skip
                      exfalso; omega
                  · skip
                    refine r_if_ne hX hP rfl (tgt := 70) rfl (by omega) (by omega) (fun c54 => ?_) (fun c54 => ?_)
                    · skip
                      exfalso; omega
                    · skip
                      refine r_ex hX hP 2 (pc' := 66) (st' := [(0, 2), (2, (Ad E 1))]) (lo' := [(0, (2, (Ad E 1))), (1, (0, e)), (2, (0, a)), (3, (0, ch)), (4, (0, d)), (5, (0, k))]) rfl ?_
                      refine r_callV gd hX hP rfl cv_12_327 hS (d' := 0) (mc' := 0) (ms' := 0) (as' := [(0, 2)]) (st := []) (by omega) (by omega) (by omega) rfl rfl (Nat.le_of_ble_eq_true rfl) (c_X12_refuse E S (up (up G 1 (Ad E 1) 1 0) 1 (Ad E 1) 0 0) 2 hS (by omega) (by omega)) ?_
                      rintro _ _ _ ⟨rfl, ⟨G55, rfl⟩, z56, rfl, rfl⟩
                      have mi57 : MI E (hv [0] [] (up (up G 1 (Ad E 1) 1 0) 1 (Ad E 1) 0 0) G55) := mi_keep mi rfl rfl rfl rfl rfl rfl (fun _ => rfl) (fun _ => rfl) (fun _ => rfl) (fun _ => rfl) (fun _ => rfl) (fun _ => rfl) (fun _ => rfl) (fun _ => rfl) (fun _ => rfl) (fun _ => rfl) (fun _ => rfl) (fun _ => rfl) (fun _ => rfl)
                      exact r_retI hX hP rfl rfl (by omega) (by omega) ⟨rfl, ⟨_, (hq_call (hq_up (hq_up (hq_refl _ _ _) rfl) rfl) rfl).symm⟩, (-1), rfl, (by omega), (by omega), mi57⟩
              · skip
                refine r_if_eq hX hP rfl (tgt := 64) rfl (by omega) (by omega) (fun c58 => ?_) (fun c58 => ?_)
                · skip
                  refine r_ex hX hP 2 (pc' := 66) (st' := [(0, 2), (2, (Ad E 1))]) (lo' := [(0, (2, (Ad E 1))), (1, (0, e)), (2, (0, a)), (3, (0, ch)), (4, (0, d)), (5, (0, k))]) rfl ?_
                  refine r_callV gd hX hP rfl cv_12_327 hS (d' := 0) (mc' := 0) (ms' := 0) (as' := [(0, 2)]) (st := []) (by omega) (by omega) (by omega) rfl rfl (Nat.le_of_ble_eq_true rfl) (c_X12_refuse E S (up (up G 1 (Ad E 1) 1 0) 1 (Ad E 1) 0 0) 2 hS (by omega) (by omega)) ?_
                  rintro _ _ _ ⟨rfl, ⟨G59, rfl⟩, z60, rfl, rfl⟩
                  have mi61 : MI E (hv [0] [] (up (up G 1 (Ad E 1) 1 0) 1 (Ad E 1) 0 0) G59) := mi_keep mi rfl rfl rfl rfl rfl rfl (fun _ => rfl) (fun _ => rfl) (fun _ => rfl) (fun _ => rfl) (fun _ => rfl) (fun _ => rfl) (fun _ => rfl) (fun _ => rfl) (fun _ => rfl) (fun _ => rfl) (fun _ => rfl) (fun _ => rfl) (fun _ => rfl)
                  exact r_retI hX hP rfl rfl (by omega) (by omega) ⟨rfl, ⟨_, (hq_call (hq_up (hq_up (hq_refl _ _ _) rfl) rfl) rfl).symm⟩, (-1), rfl, (by omega), (by omega), mi61⟩
                · skip
                  exfalso; omega
            · skip
              exfalso; omega
          · skip
            refine r_if_ne hX hP rfl (tgt := 48) rfl (by omega) (by omega) (fun c62 => ?_) (fun c62 => ?_)
            · skip
              exfalso; omega
            · skip
              refine r_ex hX hP 2 (pc' := 44) (st' := [(0, 1), (2, (Ad E 1))]) (lo' := [(0, (2, (Ad E 1))), (1, (0, e)), (2, (0, a)), (3, (0, ch)), (4, (0, d)), (5, (0, k))]) rfl ?_
              refine r_callV gd hX hP rfl cv_12_327 hS (d' := 0) (mc' := 0) (ms' := 0) (as' := [(0, 1)]) (st := []) (by omega) (by omega) (by omega) rfl rfl (Nat.le_of_ble_eq_true rfl) (c_X12_refuse E S (up (up G 1 (Ad E 1) 1 0) 1 (Ad E 1) 0 0) 1 hS (by omega) (by omega)) ?_
              rintro _ _ _ ⟨rfl, ⟨G63, rfl⟩, z64, rfl, rfl⟩
              have mi65 : MI E (hv [0] [] (up (up G 1 (Ad E 1) 1 0) 1 (Ad E 1) 0 0) G63) := mi_keep mi rfl rfl rfl rfl rfl rfl (fun _ => rfl) (fun _ => rfl) (fun _ => rfl) (fun _ => rfl) (fun _ => rfl) (fun _ => rfl) (fun _ => rfl) (fun _ => rfl) (fun _ => rfl) (fun _ => rfl) (fun _ => rfl) (fun _ => rfl) (fun _ => rfl)
              exact r_retI hX hP rfl rfl (by omega) (by omega) ⟨rfl, ⟨_, (hq_call (hq_up (hq_up (hq_refl _ _ _) rfl) rfl) rfl).symm⟩, (-1), rfl, (by omega), (by omega), mi65⟩
      · skip
        refine r_if_eq hX hP rfl (tgt := 42) rfl (by omega) (by omega) (fun c66 => ?_) (fun c66 => ?_)
        · skip
          refine r_ex hX hP 2 (pc' := 44) (st' := [(0, 1), (2, (Ad E 1))]) (lo' := [(0, (2, (Ad E 1))), (1, (0, e)), (2, (0, a)), (3, (0, ch)), (4, (0, d)), (5, (0, k))]) rfl ?_
          refine r_callV gd hX hP rfl cv_12_327 hS (d' := 0) (mc' := 0) (ms' := 0) (as' := [(0, 1)]) (st := []) (by omega) (by omega) (by omega) rfl rfl (Nat.le_of_ble_eq_true rfl) (c_X12_refuse E S (up (up G 1 (Ad E 1) 1 0) 1 (Ad E 1) 0 0) 1 hS (by omega) (by omega)) ?_
          rintro _ _ _ ⟨rfl, ⟨G67, rfl⟩, z68, rfl, rfl⟩
          have mi69 : MI E (hv [0] [] (up (up G 1 (Ad E 1) 1 0) 1 (Ad E 1) 0 0) G67) := mi_keep mi rfl rfl rfl rfl rfl rfl (fun _ => rfl) (fun _ => rfl) (fun _ => rfl) (fun _ => rfl) (fun _ => rfl) (fun _ => rfl) (fun _ => rfl) (fun _ => rfl) (fun _ => rfl) (fun _ => rfl) (fun _ => rfl) (fun _ => rfl) (fun _ => rfl)
          exact r_retI hX hP rfl rfl (by omega) (by omega) ⟨rfl, ⟨_, (hq_call (hq_up (hq_up (hq_refl _ _ _) rfl) rfl) rfl).symm⟩, (-1), rfl, (by omega), (by omega), mi69⟩
        · skip
          exfalso; omega
  · skip
    refine r_if_eq hX hP rfl (tgt := 42) rfl (by omega) (by omega) (fun c70 => ?_) (fun c70 => ?_)
    · skip
      refine r_ex hX hP 2 (pc' := 44) (st' := [(0, 1), (2, (Ad E 1))]) (lo' := [(0, (2, (Ad E 1))), (1, (0, e)), (2, (0, a)), (3, (0, ch)), (4, (0, d)), (5, (0, k))]) rfl ?_
      refine r_callV gd hX hP rfl cv_12_327 hS (d' := 0) (mc' := 0) (ms' := 0) (as' := [(0, 1)]) (st := []) (by omega) (by omega) (by omega) rfl rfl (Nat.le_of_ble_eq_true rfl) (c_X12_refuse E S (up (up G 1 (Ad E 1) 1 0) 1 (Ad E 1) 0 0) 1 hS (by omega) (by omega)) ?_
      rintro _ _ _ ⟨rfl, ⟨G71, rfl⟩, z72, rfl, rfl⟩
      have mi73 : MI E (hv [0] [] (up (up G 1 (Ad E 1) 1 0) 1 (Ad E 1) 0 0) G71) := mi_keep mi rfl rfl rfl rfl rfl rfl (fun _ => rfl) (fun _ => rfl) (fun _ => rfl) (fun _ => rfl) (fun _ => rfl) (fun _ => rfl) (fun _ => rfl) (fun _ => rfl) (fun _ => rfl) (fun _ => rfl) (fun _ => rfl) (fun _ => rfl) (fun _ => rfl)
      exact r_retI hX hP rfl rfl (by omega) (by omega) ⟨rfl, ⟨_, (hq_call (hq_up (hq_up (hq_refl _ _ _) rfl) rfl) rfl).symm⟩, (-1), rfl, (by omega), (by omega), mi73⟩
    · skip
      exfalso; omega
set_option maxRecDepth 100000 in
set_option maxHeartbeats 4000000 in
theorem c_X12_option (E : En) (S : Sg) (G : Gh) (p d s n k : Int) (hS : S (Ad E 1) = 1) (options : Int) (options_e : options = G 1 (Ad E 1) 11) (p_a : (-2147483648) ≤ p) (p_b : p ≤ 2147483647) (d_a : (-2147483648) ≤ d) (d_b : d ≤ 2147483647) (s_a : (-2147483648) ≤ s) (s_b : s ≤ 2147483647) (n_a : (-2147483648) ≤ n) (n_b : n ≤ 2147483647) (k_a : (-2147483648) ≤ k) (k_b : k ≤ 2147483647) (mi : MI E G) : Calls E mX12_option [(2, (Ad E 1)), (0, p), (0, d), (0, s), (0, n), (0, k)] S G 2 0 0 (fun r S' G' => S = S' ∧ (∃ G1, hv [0, 1, 3, 11] [44, 45, 46, 47, 48] G G1 = G') ∧ ∃ z : Int, r = some (0, z) ∧ (-2147483648) ≤ z ∧ z ≤ 2147483647 ∧ MI E G') := by
  refine calls_by [(0, (2, (Ad E 1))), (1, (0, p)), (2, (0, d)), (3, (0, s)), (4, (0, n)), (5, (0, k))] rfl rfl (Nat.le_of_ble_eq_true rfl) (fun X hX => ?_)
  have hP := hPX12_option
  refine r_peekI hX (tl1 11 rfl (by decide)) hS (fun options_o options_oe options_oa options_ob => ?_)
  obtain rfl : options = options_o := options_e.trans options_oe.symm
  refine r_ex hX hP 2 (pc' := 2) (st' := [(0, 0), (2, (Ad E 1))]) (lo' := [(0, (2, (Ad E 1))), (1, (0, p)), (2, (0, d)), (3, (0, s)), (4, (0, n)), (5, (0, k))]) rfl ?_
  refine r_putIK hX hP rfl fp_12_304 hS (by omega) (by omega) (fun h1 => ?_)
  refine r_ex hX hP 2 (pc' := 7) (st' := [(0, 0), (2, (Ad E 1))]) (lo' := [(0, (2, (Ad E 1))), (1, (0, p)), (2, (0, d)), (3, (0, s)), (4, (0, n)), (5, (0, k))]) rfl ?_
  refine r_putIK hX hP rfl fp_12_307 hS (by omega) (by omega) (fun h2 => ?_)
  refine r_ex hX hP 1 (pc' := 11) (st' := [(0, p)]) (lo' := [(0, (2, (Ad E 1))), (1, (0, p)), (2, (0, d)), (3, (0, s)), (4, (0, n)), (5, (0, k))]) rfl ?_
  refine r_callS gd hX hP rfl cs_12_331 (d' := 1) (mc' := 0) (ms' := 0) (as' := [(0, p)]) (st := []) (by omega) (by omega) (by omega) rfl rfl (Nat.le_of_ble_eq_true rfl) (c_X12_isPaper E S (up (up G 1 (Ad E 1) 1 0) 1 (Ad E 1) 0 0) p (by omega) (by omega)) ?_
  rintro _ _ _ ⟨rfl, rfl, z3, rfl, (⟨rfl, f4, f5⟩ | ⟨rfl, f6⟩)⟩
  · skip
    refine r_if_ne hX hP rfl (tgt := 23) rfl (by omega) (by omega) (fun c7 => ?_) (fun c7 => ?_)
    · skip
      refine r_ex hX hP 1 (pc' := 24) (st' := [(0, d)]) (lo' := [(0, (2, (Ad E 1))), (1, (0, p)), (2, (0, d)), (3, (0, s)), (4, (0, n)), (5, (0, k))]) rfl ?_
      refine r_callS gd hX hP rfl cs_12_317 (d' := 1) (mc' := 0) (ms' := 0) (as' := [(0, d)]) (st := []) (by omega) (by omega) (by omega) rfl rfl (Nat.le_of_ble_eq_true rfl) (c_X12_isDay E S (up (up G 1 (Ad E 1) 1 0) 1 (Ad E 1) 0 0) d (by omega) (by omega)) ?_
      rintro _ _ _ ⟨rfl, rfl, z8, rfl, (⟨rfl, f9, f10⟩ | ⟨rfl, f11⟩)⟩
      · skip
        refine r_if_eq hX hP rfl (tgt := 61) rfl (by omega) (by omega) (fun c12 => ?_) (fun c12 => ?_)
        · skip
          exfalso; omega
        · skip
          refine r_ex hX hP 2 (pc' := 32) (st' := [(0, 1), (0, s)]) (lo' := [(0, (2, (Ad E 1))), (1, (0, p)), (2, (0, d)), (3, (0, s)), (4, (0, n)), (5, (0, k))]) rfl ?_
          refine r_ldcw hX hP rfl (v := 1000000) (tbg sg9 103 rfl rfl) ?_
          refine r_callS gd hX hP rfl cs_12_310 (d' := 0) (mc' := 0) (ms' := 0) (as' := [(0, s), (0, 1), (0, 1000000)]) (st := []) (by omega) (by omega) (by omega) rfl rfl (Nat.le_of_ble_eq_true rfl) (c_X12_isIn E S (up (up G 1 (Ad E 1) 1 0) 1 (Ad E 1) 0 0) s 1 1000000 (by omega) (by omega) (by omega) (by omega) (by omega) (by omega)) ?_
          rintro _ _ _ ⟨rfl, rfl, z13, rfl, (⟨rfl, f14, f15⟩ | ⟨rfl, f16⟩)⟩
          · skip
            refine r_if_eq hX hP rfl (tgt := 61) rfl (by omega) (by omega) (fun c17 => ?_) (fun c17 => ?_)
            · skip
              exfalso; omega
            · skip
              refine r_ex hX hP 3 (pc' := 47) (st' := [(0, 10000), (0, 1), (0, n)]) (lo' := [(0, (2, (Ad E 1))), (1, (0, p)), (2, (0, d)), (3, (0, s)), (4, (0, n)), (5, (0, k))]) rfl ?_
              refine r_callS gd hX hP rfl cs_12_310 (d' := 0) (mc' := 0) (ms' := 0) (as' := [(0, n), (0, 1), (0, 10000)]) (st := []) (by omega) (by omega) (by omega) rfl rfl (Nat.le_of_ble_eq_true rfl) (c_X12_isIn E S (up (up G 1 (Ad E 1) 1 0) 1 (Ad E 1) 0 0) n 1 10000 (by omega) (by omega) (by omega) (by omega) (by omega) (by omega)) ?_
              rintro _ _ _ ⟨rfl, rfl, z18, rfl, (⟨rfl, f19, f20⟩ | ⟨rfl, f21⟩)⟩
              · skip
                refine r_if_eq hX hP rfl (tgt := 61) rfl (by omega) (by omega) (fun c22 => ?_) (fun c22 => ?_)
                · skip
                  exfalso; omega
                · skip
                  refine r_ex hX hP 1 (pc' := 55) (st' := [(0, k)]) (lo' := [(0, (2, (Ad E 1))), (1, (0, p)), (2, (0, d)), (3, (0, s)), (4, (0, n)), (5, (0, k))]) rfl ?_
                  refine r_callS gd hX hP rfl cs_12_317 (d' := 1) (mc' := 0) (ms' := 0) (as' := [(0, k)]) (st := []) (by omega) (by omega) (by omega) rfl rfl (Nat.le_of_ble_eq_true rfl) (c_X12_isDay E S (up (up G 1 (Ad E 1) 1 0) 1 (Ad E 1) 0 0) k (by omega) (by omega)) ?_
                  rintro _ _ _ ⟨rfl, rfl, z23, rfl, (⟨rfl, f24, f25⟩ | ⟨rfl, f26⟩)⟩
                  · skip
                    refine r_if_ne hX hP rfl (tgt := 67) rfl (by omega) (by omega) (fun c27 => ?_) (fun c27 => ?_)
                    · skip
                      refine r_ex hX hP 1 (pc' := 68) (st' := [(2, (Ad E 1))]) (lo' := [(0, (2, (Ad E 1))), (1, (0, p)), (2, (0, d)), (3, (0, s)), (4, (0, n)), (5, (0, k))]) rfl ?_
                      refine r_getKI hX hP rfl fl_12_628 hS (x := options) options_e ?_
                      refine r_ex hX hP 1 (pc' := 73) (st' := [(0, 10), (0, options)]) (lo' := [(0, (2, (Ad E 1))), (1, (0, p)), (2, (0, d)), (3, (0, s)), (4, (0, n)), (5, (0, k))]) rfl ?_
                      refine r_ic_ne hX hP rfl (tgt := 82) rfl (by omega) (by omega) (by omega) (by omega) (fun c28 => ?_) (fun c28 => ?_)
                      · skip
                        refine r_ex hX hP 2 (pc' := 85) (st' := [(2, (Ad E 1)), (0, k)]) (lo' := [(0, (2, (Ad E 1))), (1, (0, p)), (2, (0, d)), (3, (0, s)), (4, (0, n)), (5, (0, k))]) rfl ?_
                        refine r_getI hX hP rfl fl_12_339 hS (fun lf29 lf29e lf29a lf29b => ?_)
                        refine r_ic_ge hX hP rfl (tgt := 97) rfl (by omega) (by omega) (by omega) (by omega) (fun c30 => ?_) (fun c30 => ?_)
                        · skip
                          refine r_ex hX hP 1 (pc' := 98) (st' := [(2, (Ad E 1))]) (lo' := [(0, (2, (Ad E 1))), (1, (0, p)), (2, (0, d)), (3, (0, s)), (4, (0, n)), (5, (0, k))]) rfl ?_
                          refine r_getC hX hP rfl fl_12_146 hS (fun s31 => ?_)
                          refine r_ex hX hP 1 (pc' := 102) (st' := [(2, (Ad E 1)), (2, (Ad E 44))]) (lo' := [(0, (2, (Ad E 1))), (1, (0, p)), (2, (0, d)), (3, (0, s)), (4, (0, n)), (5, (0, k))]) rfl ?_
                          refine r_getKI hX hP rfl fl_12_628 hS (x := options) options_e ?_
                          refine r_ex hX hP 1 (pc' := 106) (st' := [(0, p), (0, options), (2, (Ad E 44))]) (lo' := [(0, (2, (Ad E 1))), (1, (0, p)), (2, (0, d)), (3, (0, s)), (4, (0, n)), (5, (0, k))]) rfl ?_
                          refine r_iastK hX hP rfl al_44 s31 (by omega) (by omega) (by omega) (by omega) (fun h32 => ?_)
                          refine r_ex hX hP 1 (pc' := 108) (st' := [(2, (Ad E 1))]) (lo' := [(0, (2, (Ad E 1))), (1, (0, p)), (2, (0, d)), (3, (0, s)), (4, (0, n)), (5, (0, k))]) rfl ?_
                          refine r_getC hX hP rfl fl_12_149 hS (fun s33 => ?_)
                          refine r_ex hX hP 1 (pc' := 112) (st' := [(2, (Ad E 1)), (2, (Ad E 45))]) (lo' := [(0, (2, (Ad E 1))), (1, (0, p)), (2, (0, d)), (3, (0, s)), (4, (0, n)), (5, (0, k))]) rfl ?_
                          refine r_getKI hX hP rfl fl_12_628 hS (x := options) options_e ?_
                          refine r_ex hX hP 1 (pc' := 116) (st' := [(0, d), (0, options), (2, (Ad E 45))]) (lo' := [(0, (2, (Ad E 1))), (1, (0, p)), (2, (0, d)), (3, (0, s)), (4, (0, n)), (5, (0, k))]) rfl ?_
                          refine r_iastK hX hP rfl al_45 s33 (by omega) (by omega) (by omega) (by omega) (fun h34 => ?_)
                          refine r_ex hX hP 1 (pc' := 118) (st' := [(2, (Ad E 1))]) (lo' := [(0, (2, (Ad E 1))), (1, (0, p)), (2, (0, d)), (3, (0, s)), (4, (0, n)), (5, (0, k))]) rfl ?_
                          refine r_getC hX hP rfl fl_12_152 hS (fun s35 => ?_)
                          refine r_ex hX hP 1 (pc' := 122) (st' := [(2, (Ad E 1)), (2, (Ad E 46))]) (lo' := [(0, (2, (Ad E 1))), (1, (0, p)), (2, (0, d)), (3, (0, s)), (4, (0, n)), (5, (0, k))]) rfl ?_
                          refine r_getKI hX hP rfl fl_12_628 hS (x := options) options_e ?_
                          refine r_ex hX hP 1 (pc' := 126) (st' := [(0, s), (0, options), (2, (Ad E 46))]) (lo' := [(0, (2, (Ad E 1))), (1, (0, p)), (2, (0, d)), (3, (0, s)), (4, (0, n)), (5, (0, k))]) rfl ?_
                          refine r_iastK hX hP rfl al_46 s35 (by omega) (by omega) (by omega) (by omega) (fun h36 => ?_)
                          refine r_ex hX hP 1 (pc' := 128) (st' := [(2, (Ad E 1))]) (lo' := [(0, (2, (Ad E 1))), (1, (0, p)), (2, (0, d)), (3, (0, s)), (4, (0, n)), (5, (0, k))]) rfl ?_
                          refine r_getC hX hP rfl fl_12_155 hS (fun s37 => ?_)
                          refine r_ex hX hP 1 (pc' := 132) (st' := [(2, (Ad E 1)), (2, (Ad E 47))]) (lo' := [(0, (2, (Ad E 1))), (1, (0, p)), (2, (0, d)), (3, (0, s)), (4, (0, n)), (5, (0, k))]) rfl ?_
                          refine r_getKI hX hP rfl fl_12_628 hS (x := options) options_e ?_
                          refine r_ex hX hP 1 (pc' := 137) (st' := [(0, n), (0, options), (2, (Ad E 47))]) (lo' := [(0, (2, (Ad E 1))), (1, (0, p)), (2, (0, d)), (3, (0, s)), (4, (0, n)), (5, (0, k))]) rfl ?_
                          refine r_iastK hX hP rfl al_47 s37 (by omega) (by omega) (by omega) (by omega) (fun h38 => ?_)
                          refine r_ex hX hP 1 (pc' := 139) (st' := [(2, (Ad E 1))]) (lo' := [(0, (2, (Ad E 1))), (1, (0, p)), (2, (0, d)), (3, (0, s)), (4, (0, n)), (5, (0, k))]) rfl ?_
                          refine r_getC hX hP rfl fl_12_158 hS (fun s39 => ?_)
                          refine r_ex hX hP 1 (pc' := 143) (st' := [(2, (Ad E 1)), (2, (Ad E 48))]) (lo' := [(0, (2, (Ad E 1))), (1, (0, p)), (2, (0, d)), (3, (0, s)), (4, (0, n)), (5, (0, k))]) rfl ?_
                          refine r_getKI hX hP rfl fl_12_628 hS (x := options) options_e ?_
                          refine r_ex hX hP 1 (pc' := 148) (st' := [(0, k), (0, options), (2, (Ad E 48))]) (lo' := [(0, (2, (Ad E 1))), (1, (0, p)), (2, (0, d)), (3, (0, s)), (4, (0, n)), (5, (0, k))]) rfl ?_
                          refine r_iastK hX hP rfl al_48 s39 (by omega) (by omega) (by omega) (by omega) (fun h40 => ?_)
                          refine r_ex hX hP 2 (pc' := 151) (st' := [(2, (Ad E 1)), (2, (Ad E 1))]) (lo' := [(0, (2, (Ad E 1))), (1, (0, p)), (2, (0, d)), (3, (0, s)), (4, (0, n)), (5, (0, k))]) rfl ?_
                          refine r_getKI hX hP rfl fl_12_628 hS (x := options) options_e ?_
                          refine r_ex hX hP 2 (pc' := 156) (st' := [(0, (options + 1)), (2, (Ad E 1))]) (lo' := [(0, (2, (Ad E 1))), (1, (0, p)), (2, (0, d)), (3, (0, s)), (4, (0, n)), (5, (0, k))]) rfl ?_
                          refine r_putIK hX hP rfl fp_12_628 hS (by omega) (by omega) (fun h41 => ?_)
                          refine r_ex hX hP 2 (pc' := 162) (st' := [(0, k), (2, (Ad E 1))]) (lo' := [(0, (2, (Ad E 1))), (1, (0, p)), (2, (0, d)), (3, (0, s)), (4, (0, n)), (5, (0, k))]) rfl ?_
                          refine r_putIK hX hP rfl fp_12_339 hS (by omega) (by omega) (fun h42 => ?_)
                          refine r_ex hX hP 1 (pc' := 166) (st' := [(2, (Ad E 1))]) (lo' := [(0, (2, (Ad E 1))), (1, (0, p)), (2, (0, d)), (3, (0, s)), (4, (0, n)), (5, (0, k))]) rfl ?_
                          refine r_getKI hX hP rfl fl_12_628 hS (x := (options + 1)) h41 ?_
                          refine r_ex hX hP 2 (pc' := 171) (st' := [(0, ((options + 1) - 1))]) (lo' := [(0, (2, (Ad E 1))), (1, (0, p)), (2, (0, d)), (3, (0, s)), (4, (0, n)), (5, (0, k))]) rfl ?_
                          exact r_retI hX hP rfl rfl (by omega) (by omega) ⟨rfl, ⟨_, (hq_up (hq_up (hq_up (hq_up (hq_up (hq_up (hq_up (hq_up (hq_up (hq_refl _ _ _) rfl) rfl) rfl) rfl) rfl) rfl) rfl) rfl) rfl).symm⟩, ((options + 1) - 1), rfl, (by omega), (by omega), (mi_option mi options_e (by omega) (by omega) rfl rfl rfl rfl (up_self (up (up (up (up (up (up (up G 1 (Ad E 1) 1 0) 1 (Ad E 1) 0 0) 44 (Ad E 44) options p) 45 (Ad E 45) options d) 46 (Ad E 46) options s) 47 (Ad E 47) options n) 48 (Ad E 48) options k) 1 (Ad E 1) 11 (options + 1)) rfl (fun _ => rfl) (fun _ => rfl) (fun _ => rfl) (fun _ => rfl) (fun _ => rfl) (fun i hi => show (up (up (up (up (up G 1 (Ad E 1) 1 0) 1 (Ad E 1) 0 0) 44 (Ad E 44) options p) 45 (Ad E 45) options d) 46 (Ad E 46) options s) 46 (Ad E 46) i = _ from up_ne (fun q => hi q.2.2)) (show (up (up (up (up (up G 1 (Ad E 1) 1 0) 1 (Ad E 1) 0 0) 44 (Ad E 44) options p) 45 (Ad E 45) options d) 46 (Ad E 46) options s) 46 (Ad E 46) options = _ from up_self _ _ _ _ _) (fun i hi => show (up (up (up (up (up (up G 1 (Ad E 1) 1 0) 1 (Ad E 1) 0 0) 44 (Ad E 44) options p) 45 (Ad E 45) options d) 46 (Ad E 46) options s) 47 (Ad E 47) options n) 47 (Ad E 47) i = _ from up_ne (fun q => hi q.2.2)) (show (up (up (up (up (up (up G 1 (Ad E 1) 1 0) 1 (Ad E 1) 0 0) 44 (Ad E 44) options p) 45 (Ad E 45) options d) 46 (Ad E 46) options s) 47 (Ad E 47) options n) 47 (Ad E 47) options = _ from up_self _ _ _ _ _) (fun _ => rfl) (fun _ => rfl) (fun _ => rfl) (fun _ => rfl) (fun _ => rfl) (fun _ => rfl))⟩
                        · skip
                          refine r_ex hX hP 2 (pc' := 93) (st' := [(0, 4), (2, (Ad E 1))]) (lo' := [(0, (2, (Ad E 1))), (1, (0, p)), (2, (0, d)), (3, (0, s)), (4, (0, n)), (5, (0, k))]) rfl ?_
                          refine r_callV gd hX hP rfl cv_12_327 hS (d' := 0) (mc' := 0) (ms' := 0) (as' := [(0, 4)]) (st := []) (by omega) (by omega) (by omega) rfl rfl (Nat.le_of_ble_eq_true rfl) (c_X12_refuse E S (up (up G 1 (Ad E 1) 1 0) 1 (Ad E 1) 0 0) 4 hS (by omega) (by omega)) ?_
                          rintro _ _ _ ⟨rfl, ⟨G43, rfl⟩, z44, rfl, rfl⟩
                          have mi45 : MI E (hv [0] [] (up (up G 1 (Ad E 1) 1 0) 1 (Ad E 1) 0 0) G43) := mi_keep mi rfl rfl rfl rfl rfl rfl (fun _ => rfl) (fun _ => rfl) (fun _ => rfl) (fun _ => rfl) (fun _ => rfl) (fun _ => rfl) (fun _ => rfl) (fun _ => rfl) (fun _ => rfl) (fun _ => rfl) (fun _ => rfl) (fun _ => rfl) (fun _ => rfl)
                          exact r_retI hX hP rfl rfl (by omega) (by omega) ⟨rfl, ⟨_, (hq_call (hq_up (hq_up (hq_refl _ _ _) rfl) rfl) rfl).symm⟩, (-1), rfl, (by omega), (by omega), mi45⟩
                      · skip
                        refine r_ex hX hP 2 (pc' := 78) (st' := [(0, 3), (2, (Ad E 1))]) (lo' := [(0, (2, (Ad E 1))), (1, (0, p)), (2, (0, d)), (3, (0, s)), (4, (0, n)), (5, (0, k))]) rfl ?_
                        refine r_callV gd hX hP rfl cv_12_327 hS (d' := 0) (mc' := 0) (ms' := 0) (as' := [(0, 3)]) (st := []) (by omega) (by omega) (by omega) rfl rfl (Nat.le_of_ble_eq_true rfl) (c_X12_refuse E S (up (up G 1 (Ad E 1) 1 0) 1 (Ad E 1) 0 0) 3 hS (by omega) (by omega)) ?_
                        rintro _ _ _ ⟨rfl, ⟨G46, rfl⟩, z47, rfl, rfl⟩
                        have mi48 : MI E (hv [0] [] (up (up G 1 (Ad E 1) 1 0) 1 (Ad E 1) 0 0) G46) := mi_keep mi rfl rfl rfl rfl rfl rfl (fun _ => rfl) (fun _ => rfl) (fun _ => rfl) (fun _ => rfl) (fun _ => rfl) (fun _ => rfl) (fun _ => rfl) (fun _ => rfl) (fun _ => rfl) (fun _ => rfl) (fun _ => rfl) (fun _ => rfl) (fun _ => rfl)
                        exact r_retI hX hP rfl rfl (by omega) (by omega) ⟨rfl, ⟨_, (hq_call (hq_up (hq_up (hq_refl _ _ _) rfl) rfl) rfl).symm⟩, (-1), rfl, (by omega), (by omega), mi48⟩
                    · skip
                      exfalso; omega
                  · skip
                    refine r_if_ne hX hP rfl (tgt := 67) rfl (by omega) (by omega) (fun c49 => ?_) (fun c49 => ?_)
                    · skip
                      exfalso; omega
                    · skip
                      refine r_ex hX hP 2 (pc' := 63) (st' := [(0, 2), (2, (Ad E 1))]) (lo' := [(0, (2, (Ad E 1))), (1, (0, p)), (2, (0, d)), (3, (0, s)), (4, (0, n)), (5, (0, k))]) rfl ?_
                      refine r_callV gd hX hP rfl cv_12_327 hS (d' := 0) (mc' := 0) (ms' := 0) (as' := [(0, 2)]) (st := []) (by omega) (by omega) (by omega) rfl rfl (Nat.le_of_ble_eq_true rfl) (c_X12_refuse E S (up (up G 1 (Ad E 1) 1 0) 1 (Ad E 1) 0 0) 2 hS (by omega) (by omega)) ?_
                      rintro _ _ _ ⟨rfl, ⟨G50, rfl⟩, z51, rfl, rfl⟩
                      have mi52 : MI E (hv [0] [] (up (up G 1 (Ad E 1) 1 0) 1 (Ad E 1) 0 0) G50) := mi_keep mi rfl rfl rfl rfl rfl rfl (fun _ => rfl) (fun _ => rfl) (fun _ => rfl) (fun _ => rfl) (fun _ => rfl) (fun _ => rfl) (fun _ => rfl) (fun _ => rfl) (fun _ => rfl) (fun _ => rfl) (fun _ => rfl) (fun _ => rfl) (fun _ => rfl)
                      exact r_retI hX hP rfl rfl (by omega) (by omega) ⟨rfl, ⟨_, (hq_call (hq_up (hq_up (hq_refl _ _ _) rfl) rfl) rfl).symm⟩, (-1), rfl, (by omega), (by omega), mi52⟩
              · skip
                refine r_if_eq hX hP rfl (tgt := 61) rfl (by omega) (by omega) (fun c53 => ?_) (fun c53 => ?_)
                · skip
                  refine r_ex hX hP 2 (pc' := 63) (st' := [(0, 2), (2, (Ad E 1))]) (lo' := [(0, (2, (Ad E 1))), (1, (0, p)), (2, (0, d)), (3, (0, s)), (4, (0, n)), (5, (0, k))]) rfl ?_
                  refine r_callV gd hX hP rfl cv_12_327 hS (d' := 0) (mc' := 0) (ms' := 0) (as' := [(0, 2)]) (st := []) (by omega) (by omega) (by omega) rfl rfl (Nat.le_of_ble_eq_true rfl) (c_X12_refuse E S (up (up G 1 (Ad E 1) 1 0) 1 (Ad E 1) 0 0) 2 hS (by omega) (by omega)) ?_
                  rintro _ _ _ ⟨rfl, ⟨G54, rfl⟩, z55, rfl, rfl⟩
                  have mi56 : MI E (hv [0] [] (up (up G 1 (Ad E 1) 1 0) 1 (Ad E 1) 0 0) G54) := mi_keep mi rfl rfl rfl rfl rfl rfl (fun _ => rfl) (fun _ => rfl) (fun _ => rfl) (fun _ => rfl) (fun _ => rfl) (fun _ => rfl) (fun _ => rfl) (fun _ => rfl) (fun _ => rfl) (fun _ => rfl) (fun _ => rfl) (fun _ => rfl) (fun _ => rfl)
                  exact r_retI hX hP rfl rfl (by omega) (by omega) ⟨rfl, ⟨_, (hq_call (hq_up (hq_up (hq_refl _ _ _) rfl) rfl) rfl).symm⟩, (-1), rfl, (by omega), (by omega), mi56⟩
                · skip
                  exfalso; omega
          · skip
            refine r_if_eq hX hP rfl (tgt := 61) rfl (by omega) (by omega) (fun c57 => ?_) (fun c57 => ?_)
            · skip
              refine r_ex hX hP 2 (pc' := 63) (st' := [(0, 2), (2, (Ad E 1))]) (lo' := [(0, (2, (Ad E 1))), (1, (0, p)), (2, (0, d)), (3, (0, s)), (4, (0, n)), (5, (0, k))]) rfl ?_
              refine r_callV gd hX hP rfl cv_12_327 hS (d' := 0) (mc' := 0) (ms' := 0) (as' := [(0, 2)]) (st := []) (by omega) (by omega) (by omega) rfl rfl (Nat.le_of_ble_eq_true rfl) (c_X12_refuse E S (up (up G 1 (Ad E 1) 1 0) 1 (Ad E 1) 0 0) 2 hS (by omega) (by omega)) ?_
              rintro _ _ _ ⟨rfl, ⟨G58, rfl⟩, z59, rfl, rfl⟩
              have mi60 : MI E (hv [0] [] (up (up G 1 (Ad E 1) 1 0) 1 (Ad E 1) 0 0) G58) := mi_keep mi rfl rfl rfl rfl rfl rfl (fun _ => rfl) (fun _ => rfl) (fun _ => rfl) (fun _ => rfl) (fun _ => rfl) (fun _ => rfl) (fun _ => rfl) (fun _ => rfl) (fun _ => rfl) (fun _ => rfl) (fun _ => rfl) (fun _ => rfl) (fun _ => rfl)
              exact r_retI hX hP rfl rfl (by omega) (by omega) ⟨rfl, ⟨_, (hq_call (hq_up (hq_up (hq_refl _ _ _) rfl) rfl) rfl).symm⟩, (-1), rfl, (by omega), (by omega), mi60⟩
            · skip
              exfalso; omega
      · skip
        refine r_if_eq hX hP rfl (tgt := 61) rfl (by omega) (by omega) (fun c61 => ?_) (fun c61 => ?_)
        · skip
          refine r_ex hX hP 2 (pc' := 63) (st' := [(0, 2), (2, (Ad E 1))]) (lo' := [(0, (2, (Ad E 1))), (1, (0, p)), (2, (0, d)), (3, (0, s)), (4, (0, n)), (5, (0, k))]) rfl ?_
          refine r_callV gd hX hP rfl cv_12_327 hS (d' := 0) (mc' := 0) (ms' := 0) (as' := [(0, 2)]) (st := []) (by omega) (by omega) (by omega) rfl rfl (Nat.le_of_ble_eq_true rfl) (c_X12_refuse E S (up (up G 1 (Ad E 1) 1 0) 1 (Ad E 1) 0 0) 2 hS (by omega) (by omega)) ?_
          rintro _ _ _ ⟨rfl, ⟨G62, rfl⟩, z63, rfl, rfl⟩
          have mi64 : MI E (hv [0] [] (up (up G 1 (Ad E 1) 1 0) 1 (Ad E 1) 0 0) G62) := mi_keep mi rfl rfl rfl rfl rfl rfl (fun _ => rfl) (fun _ => rfl) (fun _ => rfl) (fun _ => rfl) (fun _ => rfl) (fun _ => rfl) (fun _ => rfl) (fun _ => rfl) (fun _ => rfl) (fun _ => rfl) (fun _ => rfl) (fun _ => rfl) (fun _ => rfl)
          exact r_retI hX hP rfl rfl (by omega) (by omega) ⟨rfl, ⟨_, (hq_call (hq_up (hq_up (hq_refl _ _ _) rfl) rfl) rfl).symm⟩, (-1), rfl, (by omega), (by omega), mi64⟩
        · skip
          exfalso; omega
    · skip
      exfalso; omega
  · skip
    refine r_if_ne hX hP rfl (tgt := 23) rfl (by omega) (by omega) (fun c65 => ?_) (fun c65 => ?_)
    · skip
      exfalso; omega
    · skip
      refine r_ex hX hP 2 (pc' := 19) (st' := [(0, 1), (2, (Ad E 1))]) (lo' := [(0, (2, (Ad E 1))), (1, (0, p)), (2, (0, d)), (3, (0, s)), (4, (0, n)), (5, (0, k))]) rfl ?_
      refine r_callV gd hX hP rfl cv_12_327 hS (d' := 0) (mc' := 0) (ms' := 0) (as' := [(0, 1)]) (st := []) (by omega) (by omega) (by omega) rfl rfl (Nat.le_of_ble_eq_true rfl) (c_X12_refuse E S (up (up G 1 (Ad E 1) 1 0) 1 (Ad E 1) 0 0) 1 hS (by omega) (by omega)) ?_
      rintro _ _ _ ⟨rfl, ⟨G66, rfl⟩, z67, rfl, rfl⟩
      have mi68 : MI E (hv [0] [] (up (up G 1 (Ad E 1) 1 0) 1 (Ad E 1) 0 0) G66) := mi_keep mi rfl rfl rfl rfl rfl rfl (fun _ => rfl) (fun _ => rfl) (fun _ => rfl) (fun _ => rfl) (fun _ => rfl) (fun _ => rfl) (fun _ => rfl) (fun _ => rfl) (fun _ => rfl) (fun _ => rfl) (fun _ => rfl) (fun _ => rfl) (fun _ => rfl)
      exact r_retI hX hP rfl rfl (by omega) (by omega) ⟨rfl, ⟨_, (hq_call (hq_up (hq_up (hq_refl _ _ _) rfl) rfl) rfl).symm⟩, (-1), rfl, (by omega), (by omega), mi68⟩
