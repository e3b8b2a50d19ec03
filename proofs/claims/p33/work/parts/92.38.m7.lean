def RA (E : En) (S : Sg) (dA : Nat) (w : Int) : Prop := ∀ (G : Gh) (ch : Int) (hS : S (Ad E 1) = 1) (newMany : Int) (newMany_e : newMany = G 1 (Ad E 1) 88) (ch_a : -1 ≤ ch) (ch_b : ch ≤ 2), Calls E mX12_readAll [(2, Ad E 1), (0, w), (0, ch)] S G dA 0 0 (fun r S' G' => S = S' ∧ (∃ G1, hv [80, 81, 82, 83, 84, 85, 86, 87, 88, 89, 90, 91, 92] [62, 63, 64, 65, 66, 67, 68, 69, 70, 71] G G1 = G') ∧ r = none ∧ ∃ bad' : Int, bad' = G' 1 (Ad E 1) 80 ∧ ∃ n' : Int, n' = G' 1 (Ad E 1) 88 ∧ newMany ≤ n' ∧ FRZ E G G' newMany (-1) ∧ (1 ≤ bad' ∨ NI E G' newMany n' n'))
set_option maxRecDepth 100000 in
set_option maxHeartbeats 4000000 in
theorem c_X12_signB (E : En) (S : Sg) (G : Gh) (c : Int) (hS : S (Ad E 1) = 1) (bad : Int) (bad_e : bad = G 1 (Ad E 1) 80) (c_a : 0 ≤ c) (c_b : c ≤ 255) : Calls E mX12_sign [(2, (Ad E 1)), (0, c)] S G 2 0 0 (fun r S' G' => S = S' ∧ (∃ G1, hv [80, 81, 82, 83, 84, 85, 86, 87] [] G G1 = G') ∧ r = none ∧ ∃ bad' : Int, bad' = G' 1 (Ad E 1) 80 ∧ (1 ≤ bad → 1 ≤ bad')) := by
  refine calls_by [(0, (2, (Ad E 1))), (1, (0, c))] rfl rfl (Nat.le_of_ble_eq_true rfl) (fun X hX => ?_)
  have hP := hPX12_sign
  refine r_peekI hX (tl1 80 rfl (by decide)) hS (fun bad_o bad_oe bad_oa bad_ob => ?_)
  obtain rfl : bad = bad_o := bad_e.trans bad_oe.symm
  refine r_ex hX hP 1 (pc' := 1) (st' := [(2, (Ad E 1))]) (lo' := [(0, (2, (Ad E 1))), (1, (0, c))]) rfl ?_
  refine r_getKI hX hP rfl fl_12_382 hS (x := bad) bad_e ?_
  refine r_if_le hX hP rfl (tgt := 8) rfl (by omega) (by omega) (fun c1 => ?_) (fun c1 => ?_)
  · skip
    refine r_ex hX hP 2 (pc' := 10) (st' := [(0, c), (2, (Ad E 1))]) (lo' := [(0, (2, (Ad E 1))), (1, (0, c))]) rfl ?_
    refine r_callV gd hX hP rfl cv_12_392 hS (d' := 0) (mc' := 0) (ms' := 0) (as' := [(0, c)]) (st := []) (by omega) (by omega) (by omega) rfl rfl (Nat.le_of_ble_eq_true rfl) (c_X12_isSign E S G c hS (by omega) (by omega)) ?_
    rintro _ _ _ ⟨rfl, rfl, z2, rfl, z2a, z2b⟩
    refine r_if_ne hX hP rfl (tgt := 23) rfl (by omega) (by omega) (fun c3 => ?_) (fun c3 => ?_)
    · skip
      refine r_ex hX hP 1 (pc' := 24) (st' := [(2, (Ad E 1))]) (lo' := [(0, (2, (Ad E 1))), (1, (0, c))]) rfl ?_
      refine r_callV gd hX hP rfl cv_12_398 hS (d' := 1) (mc' := 0) (ms' := 0) (as' := []) (st := []) (by omega) (by omega) (by omega) rfl rfl (Nat.le_of_ble_eq_true rfl) (c_X12_next E S G  hS) ?_
      rintro _ _ _ ⟨rfl, ⟨G4, rfl⟩, rfl, -⟩
      exact r_retV hX hP rfl rfl (by omega) (by omega) ⟨rfl, ⟨_, (hq_call (hq_refl _ _ _) rfl).symm⟩, rfl, bad, bad_e, (by omega)⟩
    · skip
      refine r_ex hX hP 1 (pc' := 17) (st' := [(2, (Ad E 1))]) (lo' := [(0, (2, (Ad E 1))), (1, (0, c))]) rfl ?_
      refine r_callV gd hX hP rfl cv_12_395 hS (d' := 1) (mc' := 0) (ms' := 0) (as' := []) (st := []) (by omega) (by omega) (by omega) rfl rfl (Nat.le_of_ble_eq_true rfl) (c_X12_wrong E S G  hS) ?_
      rintro _ _ _ ⟨rfl, ⟨G5, rfl⟩, rfl, bah6, bah6e, f7⟩
      refine r_peekI hX (tl1 80 rfl (by decide)) hS (fun o8 o8e o8a o8b => ?_)
      obtain rfl : bah6 = o8 := bah6e.trans o8e.symm
      refine r_ex hX hP 1 (pc' := 27) (st' := []) (lo' := [(0, (2, (Ad E 1))), (1, (0, c))]) rfl ?_
      exact r_retV hX hP rfl rfl (by omega) (by omega) ⟨rfl, ⟨_, (hq_call (hq_refl _ _ _) rfl).symm⟩, rfl, bah6, bah6e, (by omega)⟩
  · skip
    exact r_retV hX hP rfl rfl (by omega) (by omega) ⟨rfl, ⟨_, (hq_refl _ _ _).symm⟩, rfl, bad, bad_e, (by omega)⟩
set_option maxRecDepth 100000 in
set_option maxHeartbeats 4000000 in
theorem c_X12_wordIsB (E : En) (S : Sg) (G : Gh) (w : Int) (hS : S (Ad E 1) = 1) (bad : Int) (bad_e : bad = G 1 (Ad E 1) 80) (w_a : (-9223372036854775808) ≤ w) (w_b : w ≤ 9223372036854775807) : Calls E mX12_wordIs [(2, (Ad E 1)), (1, w)] S G 2 0 0 (fun r S' G' => S = S' ∧ (∃ G1, hv [80, 81, 82, 83, 84, 85, 86, 87] [] G G1 = G') ∧ r = none ∧ ∃ bad' : Int, bad' = G' 1 (Ad E 1) 80 ∧ (1 ≤ bad → 1 ≤ bad')) := by
  refine calls_by [(0, (2, (Ad E 1))), (1, (1, w))] rfl rfl (Nat.le_of_ble_eq_true rfl) (fun X hX => ?_)
  have hP := hPX12_wordIs
  refine r_peekI hX (tl1 80 rfl (by decide)) hS (fun bad_o bad_oe bad_oa bad_ob => ?_)
  obtain rfl : bad = bad_o := bad_e.trans bad_oe.symm
  refine r_ex hX hP 1 (pc' := 1) (st' := [(2, (Ad E 1))]) (lo' := [(0, (2, (Ad E 1))), (1, (1, w))]) rfl ?_
  refine r_getKI hX hP rfl fl_12_382 hS (x := bad) bad_e ?_
  refine r_if_le hX hP rfl (tgt := 8) rfl (by omega) (by omega) (fun c1 => ?_) (fun c1 => ?_)
  · skip
    refine r_ex hX hP 2 (pc' := 10) (st' := [(1, w), (2, (Ad E 1))]) (lo' := [(0, (2, (Ad E 1))), (1, (1, w))]) rfl ?_
    refine r_callV gd hX hP rfl cv_12_401 hS (d' := 0) (mc' := 0) (ms' := 0) (as' := [(1, w)]) (st := []) (by omega) (by omega) (by omega) rfl rfl (Nat.le_of_ble_eq_true rfl) (c_X12_isWord E S G w hS (by omega) (by omega)) ?_
    rintro _ _ _ ⟨rfl, rfl, z2, rfl, z2a, z2b⟩
    refine r_if_ne hX hP rfl (tgt := 23) rfl (by omega) (by omega) (fun c3 => ?_) (fun c3 => ?_)
    · skip
      refine r_ex hX hP 1 (pc' := 24) (st' := [(2, (Ad E 1))]) (lo' := [(0, (2, (Ad E 1))), (1, (1, w))]) rfl ?_
      refine r_callV gd hX hP rfl cv_12_398 hS (d' := 1) (mc' := 0) (ms' := 0) (as' := []) (st := []) (by omega) (by omega) (by omega) rfl rfl (Nat.le_of_ble_eq_true rfl) (c_X12_next E S G  hS) ?_
      rintro _ _ _ ⟨rfl, ⟨G4, rfl⟩, rfl, -⟩
      exact r_retV hX hP rfl rfl (by omega) (by omega) ⟨rfl, ⟨_, (hq_call (hq_refl _ _ _) rfl).symm⟩, rfl, bad, bad_e, (by omega)⟩
    · skip
      refine r_ex hX hP 1 (pc' := 17) (st' := [(2, (Ad E 1))]) (lo' := [(0, (2, (Ad E 1))), (1, (1, w))]) rfl ?_
      refine r_callV gd hX hP rfl cv_12_395 hS (d' := 1) (mc' := 0) (ms' := 0) (as' := []) (st := []) (by omega) (by omega) (by omega) rfl rfl (Nat.le_of_ble_eq_true rfl) (c_X12_wrong E S G  hS) ?_
      rintro _ _ _ ⟨rfl, ⟨G5, rfl⟩, rfl, bah6, bah6e, f7⟩
      refine r_peekI hX (tl1 80 rfl (by decide)) hS (fun o8 o8e o8a o8b => ?_)
      obtain rfl : bah6 = o8 := bah6e.trans o8e.symm
      refine r_ex hX hP 1 (pc' := 27) (st' := []) (lo' := [(0, (2, (Ad E 1))), (1, (1, w))]) rfl ?_
      exact r_retV hX hP rfl rfl (by omega) (by omega) ⟨rfl, ⟨_, (hq_call (hq_refl _ _ _) rfl).symm⟩, rfl, bah6, bah6e, (by omega)⟩
  · skip
    exact r_retV hX hP rfl rfl (by omega) (by omega) ⟨rfl, ⟨_, (hq_refl _ _ _).symm⟩, rfl, bad, bad_e, (by omega)⟩
set_option maxRecDepth 100000 in
set_option maxHeartbeats 4000000 in
theorem c_X12_countB (E : En) (S : Sg) (G : Gh) (low top : Int) (hS : S (Ad E 1) = 1) (bad : Int) (bad_e : bad = G 1 (Ad E 1) 80) (low_a : (-2147483648) ≤ low) (low_b : low ≤ 2147483647) (top_a : (-2147483648) ≤ top) (top_b : top ≤ 2147483647) : Calls E mX12_count [(2, (Ad E 1)), (0, low), (0, top)] S G 2 0 0 (fun r S' G' => S = S' ∧ (∃ G1, hv [80, 81, 82, 83, 84, 85, 86, 87] [] G G1 = G') ∧ ∃ z : Int, r = some (0, z) ∧ ∃ bad' : Int, bad' = G' 1 (Ad E 1) 80 ∧ ((z = 0 ∧ 1 ≤ bad') ∨ (low ≤ z ∧ z ≤ top ∧ bad' = 0 ∧ bad = 0))) := by
  refine calls_by [(0, (2, (Ad E 1))), (1, (0, low)), (2, (0, top))] rfl rfl (Nat.le_of_ble_eq_true rfl) (fun X hX => ?_)
  have hP := hPX12_count
  refine r_peekI hX (tl1 80 rfl (by decide)) hS (fun bad_o bad_oe bad_oa bad_ob => ?_)
  obtain rfl : bad = bad_o := bad_e.trans bad_oe.symm
  refine r_ex hX hP 1 (pc' := 1) (st' := [(2, (Ad E 1))]) (lo' := [(0, (2, (Ad E 1))), (1, (0, low)), (2, (0, top))]) rfl ?_
  refine r_getKI hX hP rfl fl_12_382 hS (x := bad) bad_e ?_
  refine r_if_le hX hP rfl (tgt := 9) rfl (by omega) (by omega) (fun c1 => ?_) (fun c1 => ?_)
  · skip
    refine r_ex hX hP 1 (pc' := 10) (st' := [(2, (Ad E 1))]) (lo' := [(0, (2, (Ad E 1))), (1, (0, low)), (2, (0, top))]) rfl ?_
    refine r_getI hX hP rfl fl_12_358 hS (fun sf2 sf2e sf2a sf2b => ?_)
    refine r_ex hX hP 1 (pc' := 14) (st' := [(0, 2), (0, sf2)]) (lo' := [(0, (2, (Ad E 1))), (1, (0, low)), (2, (0, top))]) rfl ?_
    refine r_ic_eq hX hP rfl (tgt := 23) rfl (by omega) (by omega) (by omega) (by omega) (fun c3 => ?_) (fun c3 => ?_)
    · skip
      refine r_ex hX hP 1 (pc' := 24) (st' := [(2, (Ad E 1))]) (lo' := [(0, (2, (Ad E 1))), (1, (0, low)), (2, (0, top))]) rfl ?_
      refine r_getI hX hP rfl fl_12_379 hS (fun nf4 nf4e nf4a nf4b => ?_)
      refine r_ex hX hP 2 (pc' := 29) (st' := [(0, top), (0, low), (0, nf4)]) (lo' := [(0, (2, (Ad E 1))), (1, (0, low)), (2, (0, top))]) rfl ?_
      refine r_callS gd hX hP rfl cs_12_310 (d' := 0) (mc' := 0) (ms' := 0) (as' := [(0, nf4), (0, low), (0, top)]) (st := []) (by omega) (by omega) (by omega) rfl rfl (Nat.le_of_ble_eq_true rfl) (c_X12_isIn E S G nf4 low top (by omega) (by omega) (by omega) (by omega) (by omega) (by omega)) ?_
      rintro _ _ _ ⟨rfl, rfl, z5, rfl, (⟨rfl, f6, f7⟩ | ⟨rfl, f8⟩)⟩
      · skip
        refine r_if_ne hX hP rfl (tgt := 46) rfl (by omega) (by omega) (fun c9 => ?_) (fun c9 => ?_)
        · skip
          refine r_ex hX hP 1 (pc' := 47) (st' := [(2, (Ad E 1))]) (lo' := [(0, (2, (Ad E 1))), (1, (0, low)), (2, (0, top))]) rfl ?_
          refine r_getKI hX hP rfl fl_12_379 hS (x := nf4) nf4e ?_
          refine r_ex hX hP 2 (pc' := 52) (st' := [(2, (Ad E 1))]) (lo' := [(0, (2, (Ad E 1))), (1, (0, low)), (2, (0, top)), (3, (0, nf4))]) rfl ?_
          refine r_callV gd hX hP rfl cv_12_398 hS (d' := 1) (mc' := 0) (ms' := 0) (as' := []) (st := []) (by omega) (by omega) (by omega) rfl rfl (Nat.le_of_ble_eq_true rfl) (c_X12_next E S G  hS) ?_
          rintro _ _ _ ⟨rfl, ⟨G10, rfl⟩, rfl, -⟩
          refine r_ex hX hP 1 (pc' := 56) (st' := [(0, nf4)]) (lo' := [(0, (2, (Ad E 1))), (1, (0, low)), (2, (0, top)), (3, (0, nf4))]) rfl ?_
          exact r_retI hX hP rfl rfl (by omega) (by omega) ⟨rfl, ⟨_, (hq_call (hq_refl _ _ _) rfl).symm⟩, nf4, rfl, bad, bad_e, (by omega)⟩
        · skip
          exfalso; omega
      · skip
        refine r_if_ne hX hP rfl (tgt := 46) rfl (by omega) (by omega) (fun c11 => ?_) (fun c11 => ?_)
        · skip
          exfalso; omega
        · skip
          refine r_ex hX hP 3 (pc' := 38) (st' := [(2, (Ad E 1)), (0, 4), (2, (Ad E 1))]) (lo' := [(0, (2, (Ad E 1))), (1, (0, low)), (2, (0, top))]) rfl ?_
          refine r_getI hX hP rfl fl_12_352 hS (fun af12 af12e af12a af12b => ?_)
          refine r_callV gd hX hP rfl cv_12_388 hS (d' := 0) (mc' := 0) (ms' := 0) (as' := [(0, 4), (0, af12)]) (st := []) (by omega) (by omega) (by omega) rfl rfl (Nat.le_of_ble_eq_true rfl) (c_X12_fail E S G 4 af12 hS (by omega) (by omega) (by omega) (by omega)) ?_
          rintro _ _ _ ⟨rfl, ⟨G13, rfl⟩, rfl, bah14, bah14e, f15⟩
          refine r_peekI hX (tl1 80 rfl (by decide)) hS (fun o16 o16e o16a o16b => ?_)
          obtain rfl : bah14 = o16 := bah14e.trans o16e.symm
          refine r_ex hX hP 1 (pc' := 45) (st' := [(0, 0)]) (lo' := [(0, (2, (Ad E 1))), (1, (0, low)), (2, (0, top))]) rfl ?_
          exact r_retI hX hP rfl rfl (by omega) (by omega) ⟨rfl, ⟨_, (hq_call (hq_refl _ _ _) rfl).symm⟩, 0, rfl, bah14, bah14e, (by omega)⟩
    · skip
      refine r_ex hX hP 1 (pc' := 18) (st' := [(2, (Ad E 1))]) (lo' := [(0, (2, (Ad E 1))), (1, (0, low)), (2, (0, top))]) rfl ?_
      refine r_callV gd hX hP rfl cv_12_395 hS (d' := 1) (mc' := 0) (ms' := 0) (as' := []) (st := []) (by omega) (by omega) (by omega) rfl rfl (Nat.le_of_ble_eq_true rfl) (c_X12_wrong E S G  hS) ?_
      rintro _ _ _ ⟨rfl, ⟨G17, rfl⟩, rfl, bah18, bah18e, f19⟩
      refine r_peekI hX (tl1 80 rfl (by decide)) hS (fun o20 o20e o20a o20b => ?_)
      obtain rfl : bah18 = o20 := bah18e.trans o20e.symm
      refine r_ex hX hP 1 (pc' := 22) (st' := [(0, 0)]) (lo' := [(0, (2, (Ad E 1))), (1, (0, low)), (2, (0, top))]) rfl ?_
      exact r_retI hX hP rfl rfl (by omega) (by omega) ⟨rfl, ⟨_, (hq_call (hq_refl _ _ _) rfl).symm⟩, 0, rfl, bah18, bah18e, (by omega)⟩
  · skip
    refine r_ex hX hP 1 (pc' := 8) (st' := [(0, 0)]) (lo' := [(0, (2, (Ad E 1))), (1, (0, low)), (2, (0, top))]) rfl ?_
    exact r_retI hX hP rfl rfl (by omega) (by omega) ⟨rfl, ⟨_, (hq_refl _ _ _).symm⟩, 0, rfl, bad, bad_e, (by omega)⟩
set_option maxRecDepth 100000 in
set_option maxHeartbeats 4000000 in
theorem c_X12_readPlain (E : En) (S : Sg) (G : Gh) (k c ch : Int) (hS : S (Ad E 1) = 1) (two_c : Int) (two_c_e : two_c = G 65 (Ad E 65) c) (k_a : 0 ≤ k) (k_b : k ≤ 9) (c_a : 0 ≤ c) (c_b : c ≤ 29) (ch_a : (-1) ≤ ch) (ch_b : ch ≤ 2) (pre0 : (k = 9 → 0 ≤ ch)) (pre1 : k ≠ 6) (pre2 : k ≠ 7) (pre3 : 1 ≤ two_c) : Calls E mX12_readPlain [(2, (Ad E 1)), (0, k), (0, c), (0, ch)] S G 3 0 0 (fun r S' G' => S = S' ∧ (∃ G1, hv [80, 81, 82, 83, 84, 85, 86, 87, 90] [64, 65, 66, 70, 71] G G1 = G') ∧ r = none ∧ ∃ bad' : Int, bad' = G' 1 (Ad E 1) 80 ∧ ∃ o' : Int, o' = G' 64 (Ad E 64) c ∧ ∃ t' : Int, t' = G' 65 (Ad E 65) c ∧ (1 ≤ bad' ∨ (1 ≤ t' ∧ (k ≤ 1 → 1 ≤ o' ∧ o' ≤ 1000))) ∧ FRZ E G G' 1000 c) := by
  refine calls_by [(0, (2, (Ad E 1))), (1, (0, k)), (2, (0, c)), (3, (0, ch))] rfl rfl (Nat.le_of_ble_eq_true rfl) (fun X hX => ?_)
  have hP := hPX12_readPlain
  refine r_labC hX (tl1 96 rfl (by decide)) hS (fun s1 => ?_)
  refine r_apeekI hX al_65 s1 (i := c) (by omega) (by omega) (fun two_c_o two_c_oe two_c_oa two_c_ob => ?_)
  obtain rfl : two_c = two_c_o := two_c_e.trans two_c_oe.symm
  refine r_ex hX hP 1 (pc' := 1) (st' := [(0, k)]) (lo' := [(0, (2, (Ad E 1))), (1, (0, k)), (2, (0, c)), (3, (0, ch))]) rfl ?_
  refine r_if_eq hX hP rfl (tgt := 19) rfl (by omega) (by omega) (fun c2 => ?_) (fun c2 => ?_)
  · skip
    refine r_ex hX hP 1 (pc' := 20) (st' := [(2, (Ad E 1))]) (lo' := [(0, (2, (Ad E 1))), (1, (0, k)), (2, (0, c)), (3, (0, ch))]) rfl ?_
    refine r_getC hX hP rfl fl_12_217 hS (fun s3 => ?_)
    refine r_ex hX hP 3 (pc' := 26) (st' := [(0, 2), (0, k), (0, c), (2, (Ad E 64))]) (lo' := [(0, (2, (Ad E 1))), (1, (0, k)), (2, (0, c)), (3, (0, ch))]) rfl ?_
    refine r_ic_ge hX hP rfl (tgt := 40) rfl (by omega) (by omega) (by omega) (by omega) (fun c4 => ?_) (fun c4 => ?_)
    · skip
      exfalso; omega
    · skip
      refine r_ex hX hP 3 (pc' := 34) (st' := [(0, 1000), (0, 1), (2, (Ad E 1)), (0, c), (2, (Ad E 64))]) (lo' := [(0, (2, (Ad E 1))), (1, (0, k)), (2, (0, c)), (3, (0, ch))]) rfl ?_
      refine r_peekI hX (tl1 80 rfl (by decide)) hS (fun bap5 bap5e bap5a bap5b => ?_)
      refine r_callV gd hX hP rfl cv_12_461 hS (d' := 2) (mc' := 0) (ms' := 0) (as' := [(0, 1), (0, 1000)]) (st := [(0, c), (2, (Ad E 64))]) (by omega) (by omega) (by omega) rfl rfl (Nat.le_of_ble_eq_true rfl) (c_X12_countB E S G 1 1000 hS bap5 bap5e (by omega) (by omega) (by omega) (by omega)) ?_
      rintro _ _ _ ⟨rfl, ⟨G6, rfl⟩, z7, rfl, bah8, bah8e, (⟨rfl, f9⟩ | ⟨f10, f11, f12, f13⟩)⟩
      · skip
        refine r_peekI hX (tl1 80 rfl (by decide)) hS (fun o14 o14e o14a o14b => ?_)
        obtain rfl : bah8 = o14 := bah8e.trans o14e.symm
        refine r_ex hX hP 1 (pc' := 48) (st' := [(0, 0), (0, c), (2, (Ad E 64))]) (lo' := [(0, (2, (Ad E 1))), (1, (0, k)), (2, (0, c)), (3, (0, ch))]) rfl ?_
        refine r_iastK hX hP rfl al_64 s3 (by omega) (by omega) (by omega) (by omega) (fun h15 => ?_)
        refine r_ex hX hP 1 (pc' := 50) (st' := [(0, k)]) (lo' := [(0, (2, (Ad E 1))), (1, (0, k)), (2, (0, c)), (3, (0, ch))]) rfl ?_
        refine r_if_ne hX hP rfl (tgt := 81) rfl (by omega) (by omega) (fun c16 => ?_) (fun c16 => ?_)
        · skip
          exfalso; omega
        · skip
          refine r_ex hX hP 7 (pc' := 62) (st' := [(0, 0), (0, 0), (0, 0), (0, 0), (0, 102), (0, 111), (2, (Ad E 1))]) (lo' := [(0, (2, (Ad E 1))), (1, (0, k)), (2, (0, c)), (3, (0, ch))]) rfl ?_
          refine r_callS gd hX hP rfl cs_12_405 (d' := 0) (mc' := 0) (ms' := 0) (as' := [(0, 111), (0, 102), (0, 0), (0, 0), (0, 0), (0, 0)]) (st := [(2, (Ad E 1))]) (by omega) (by omega) (by omega) rfl rfl (Nat.le_of_ble_eq_true rfl) (c_X12_spelled E S (up (hv [80, 81, 82, 83, 84, 85, 86, 87] [] G G6) 64 (Ad E 64) c 0) 111 102 0 0 0 0 (by omega) (by omega) (by omega) (by omega) (by omega) (by omega) (by omega) (by omega) (by omega) (by omega) (by omega) (by omega)) ?_
          rintro _ _ _ ⟨rfl, rfl, z17, rfl, z17a, z17b⟩
          refine r_callV gd hX hP rfl cv_12_466 hS (d' := 2) (mc' := 0) (ms' := 0) (as' := [(1, z17)]) (st := []) (by omega) (by omega) (by omega) rfl rfl (Nat.le_of_ble_eq_true rfl) (c_X12_wordIsB E S (up (hv [80, 81, 82, 83, 84, 85, 86, 87] [] G G6) 64 (Ad E 64) c 0) z17 hS bah8 bah8e (by omega) (by omega)) ?_
          rintro _ _ _ ⟨rfl, ⟨G18, rfl⟩, rfl, bah19, bah19e, f20⟩
          refine r_peekI hX (tl1 80 rfl (by decide)) hS (fun o21 o21e o21a o21b => ?_)
          obtain rfl : bah19 = o21 := bah19e.trans o21e.symm
          refine r_ex hX hP 1 (pc' := 69) (st' := [(2, (Ad E 1))]) (lo' := [(0, (2, (Ad E 1))), (1, (0, k)), (2, (0, c)), (3, (0, ch))]) rfl ?_
          refine r_getC hX hP rfl fl_12_223 hS (fun s22 => ?_)
          refine r_ex hX hP 4 (pc' := 77) (st' := [(0, 19), (0, 0), (2, (Ad E 1)), (0, c), (2, (Ad E 66))]) (lo' := [(0, (2, (Ad E 1))), (1, (0, k)), (2, (0, c)), (3, (0, ch))]) rfl ?_
          refine r_callV gd hX hP rfl cv_12_461 hS (d' := 2) (mc' := 0) (ms' := 0) (as' := [(0, 0), (0, 19)]) (st := [(0, c), (2, (Ad E 66))]) (by omega) (by omega) (by omega) rfl rfl (Nat.le_of_ble_eq_true rfl) (c_X12_countB E S (hv [80, 81, 82, 83, 84, 85, 86, 87] [] (up (hv [80, 81, 82, 83, 84, 85, 86, 87] [] G G6) 64 (Ad E 64) c 0) G18) 0 19 hS bah19 bah19e (by omega) (by omega) (by omega) (by omega)) ?_
          rintro _ _ _ ⟨rfl, ⟨G23, rfl⟩, z24, rfl, bah25, bah25e, (⟨rfl, f26⟩ | ⟨f27, f28, f29, f30⟩)⟩
          · skip
            refine r_peekI hX (tl1 80 rfl (by decide)) hS (fun o31 o31e o31a o31b => ?_)
            obtain rfl : bah25 = o31 := bah25e.trans o31e.symm
            refine r_iastK hX hP rfl al_66 s22 (by omega) (by omega) (by omega) (by omega) (fun h32 => ?_)
            refine r_ex hX hP 7 (pc' := 91) (st' := [(0, 0), (0, 0), (0, 0), (0, 114), (0, 111), (0, 102), (2, (Ad E 1))]) (lo' := [(0, (2, (Ad E 1))), (1, (0, k)), (2, (0, c)), (3, (0, ch))]) rfl ?_
            refine r_callS gd hX hP rfl cs_12_405 (d' := 0) (mc' := 0) (ms' := 0) (as' := [(0, 102), (0, 111), (0, 114), (0, 0), (0, 0), (0, 0)]) (st := [(2, (Ad E 1))]) (by omega) (by omega) (by omega) rfl rfl (Nat.le_of_ble_eq_true rfl) (c_X12_spelled E S (up (hv [80, 81, 82, 83, 84, 85, 86, 87] [] (hv [80, 81, 82, 83, 84, 85, 86, 87] [] (up (hv [80, 81, 82, 83, 84, 85, 86, 87] [] G G6) 64 (Ad E 64) c 0) G18) G23) 66 (Ad E 66) c 0) 102 111 114 0 0 0 (by omega) (by omega) (by omega) (by omega) (by omega) (by omega) (by omega) (by omega) (by omega) (by omega) (by omega) (by omega)) ?_
            rintro _ _ _ ⟨rfl, rfl, z33, rfl, z33a, z33b⟩
            refine r_callV gd hX hP rfl cv_12_466 hS (d' := 2) (mc' := 0) (ms' := 0) (as' := [(1, z33)]) (st := []) (by omega) (by omega) (by omega) rfl rfl (Nat.le_of_ble_eq_true rfl) (c_X12_wordIsB E S (up (hv [80, 81, 82, 83, 84, 85, 86, 87] [] (hv [80, 81, 82, 83, 84, 85, 86, 87] [] (up (hv [80, 81, 82, 83, 84, 85, 86, 87] [] G G6) 64 (Ad E 64) c 0) G18) G23) 66 (Ad E 66) c 0) z33 hS bah25 bah25e (by omega) (by omega)) ?_
            rintro _ _ _ ⟨rfl, ⟨G34, rfl⟩, rfl, bah35, bah35e, f36⟩
            refine r_peekI hX (tl1 80 rfl (by decide)) hS (fun o37 o37e o37a o37b => ?_)
            obtain rfl : bah35 = o37 := bah35e.trans o37e.symm
            refine r_ex hX hP 1 (pc' := 98) (st' := [(2, (Ad E 1))]) (lo' := [(0, (2, (Ad E 1))), (1, (0, k)), (2, (0, c)), (3, (0, ch))]) rfl ?_
            refine r_getC hX hP rfl fl_12_220 hS (fun _ => ?_)
            refine r_ex hX hP 3 (pc' := 104) (st' := [(0, 1), (0, k), (0, c), (2, (Ad E 65))]) (lo' := [(0, (2, (Ad E 1))), (1, (0, k)), (2, (0, c)), (3, (0, ch))]) rfl ?_
            refine r_ic_ne hX hP rfl (tgt := 127) rfl (by omega) (by omega) (by omega) (by omega) (fun c38 => ?_) (fun c38 => ?_)
            · skip
              refine r_ex hX hP 3 (pc' := 132) (st' := [(0, 1000), (0, 1), (2, (Ad E 1)), (0, c), (2, (Ad E 65))]) (lo' := [(0, (2, (Ad E 1))), (1, (0, k)), (2, (0, c)), (3, (0, ch))]) rfl ?_
              refine r_callV gd hX hP rfl cv_12_461 hS (d' := 2) (mc' := 0) (ms' := 0) (as' := [(0, 1), (0, 1000)]) (st := [(0, c), (2, (Ad E 65))]) (by omega) (by omega) (by omega) rfl rfl (Nat.le_of_ble_eq_true rfl) (c_X12_countB E S (hv [80, 81, 82, 83, 84, 85, 86, 87] [] (up (hv [80, 81, 82, 83, 84, 85, 86, 87] [] (hv [80, 81, 82, 83, 84, 85, 86, 87] [] (up (hv [80, 81, 82, 83, 84, 85, 86, 87] [] G G6) 64 (Ad E 64) c 0) G18) G23) 66 (Ad E 66) c 0) G34) 1 1000 hS bah35 bah35e (by omega) (by omega) (by omega) (by omega)) ?_
              rintro _ _ _ ⟨rfl, ⟨G39, rfl⟩, z40, rfl, bah41, bah41e, (⟨rfl, f42⟩ | ⟨f43, f44, f45, f46⟩)⟩
              · skip
                refine r_peekI hX (tl1 80 rfl (by decide)) hS (fun o47 o47e o47a o47b => ?_)
                obtain rfl : bah41 = o47 := bah41e.trans o47e.symm
                refine r_iastK hX hP rfl al_65 s1 (by omega) (by omega) (by omega) (by omega) (fun h48 => ?_)
                refine r_ex hX hP 1 (pc' := 453) (st' := []) (lo' := [(0, (2, (Ad E 1))), (1, (0, k)), (2, (0, c)), (3, (0, ch))]) rfl ?_
                exact r_retV hX hP rfl rfl (by omega) (by omega) ⟨rfl, ⟨_, (hq_up (hq_call (hq_call (hq_up (hq_call (hq_call (hq_up (hq_call (hq_refl _ _ _) rfl) rfl) rfl) rfl) rfl) rfl) rfl) rfl).symm⟩, rfl, bah41, bah41e, 0, h15, 0, h48, (by omega), (fun i h0 hi hx => ⟨rfl, ((show (up (hv [80, 81, 82, 83, 84, 85, 86, 87] [] G G6) 64 (Ad E 64) c 0) 64 (Ad E 64) i = _ from up_ne (fun q => absurd q.2.2 (by omega))).trans rfl), ((show (up (hv [80, 81, 82, 83, 84, 85, 86, 87] [] (hv [80, 81, 82, 83, 84, 85, 86, 87] [] (up (hv [80, 81, 82, 83, 84, 85, 86, 87] [] (hv [80, 81, 82, 83, 84, 85, 86, 87] [] (up (hv [80, 81, 82, 83, 84, 85, 86, 87] [] G G6) 64 (Ad E 64) c 0) G18) G23) 66 (Ad E 66) c 0) G34) G39) 65 (Ad E 65) c 0) 65 (Ad E 65) i = _ from up_ne (fun q => absurd q.2.2 (by omega))).trans rfl), ((show (up (hv [80, 81, 82, 83, 84, 85, 86, 87] [] (hv [80, 81, 82, 83, 84, 85, 86, 87] [] (up (hv [80, 81, 82, 83, 84, 85, 86, 87] [] G G6) 64 (Ad E 64) c 0) G18) G23) 66 (Ad E 66) c 0) 66 (Ad E 66) i = _ from up_ne (fun q => absurd q.2.2 (by omega))).trans rfl), rfl, rfl⟩)⟩
              · skip
                refine r_peekI hX (tl1 80 rfl (by decide)) hS (fun o49 o49e o49a o49b => ?_)
                obtain rfl : bah41 = o49 := bah41e.trans o49e.symm
                refine r_iastK hX hP rfl al_65 s1 (by omega) (by omega) (by omega) (by omega) (fun h50 => ?_)
                refine r_ex hX hP 1 (pc' := 453) (st' := []) (lo' := [(0, (2, (Ad E 1))), (1, (0, k)), (2, (0, c)), (3, (0, ch))]) rfl ?_
                exact r_retV hX hP rfl rfl (by omega) (by omega) ⟨rfl, ⟨_, (hq_up (hq_call (hq_call (hq_up (hq_call (hq_call (hq_up (hq_call (hq_refl _ _ _) rfl) rfl) rfl) rfl) rfl) rfl) rfl) rfl).symm⟩, rfl, bah41, bah41e, 0, h15, z40, h50, (by omega), (fun i h0 hi hx => ⟨rfl, ((show (up (hv [80, 81, 82, 83, 84, 85, 86, 87] [] G G6) 64 (Ad E 64) c 0) 64 (Ad E 64) i = _ from up_ne (fun q => absurd q.2.2 (by omega))).trans rfl), ((show (up (hv [80, 81, 82, 83, 84, 85, 86, 87] [] (hv [80, 81, 82, 83, 84, 85, 86, 87] [] (up (hv [80, 81, 82, 83, 84, 85, 86, 87] [] (hv [80, 81, 82, 83, 84, 85, 86, 87] [] (up (hv [80, 81, 82, 83, 84, 85, 86, 87] [] G G6) 64 (Ad E 64) c 0) G18) G23) 66 (Ad E 66) c 0) G34) G39) 65 (Ad E 65) c z40) 65 (Ad E 65) i = _ from up_ne (fun q => absurd q.2.2 (by omega))).trans rfl), ((show (up (hv [80, 81, 82, 83, 84, 85, 86, 87] [] (hv [80, 81, 82, 83, 84, 85, 86, 87] [] (up (hv [80, 81, 82, 83, 84, 85, 86, 87] [] G G6) 64 (Ad E 64) c 0) G18) G23) 66 (Ad E 66) c 0) 66 (Ad E 66) i = _ from up_ne (fun q => absurd q.2.2 (by omega))).trans rfl), rfl, rfl⟩)⟩
            · skip
              exfalso; omega
          · skip
            refine r_peekI hX (tl1 80 rfl (by decide)) hS (fun o51 o51e o51a o51b => ?_)
            obtain rfl : bah25 = o51 := bah25e.trans o51e.symm
            refine r_iastK hX hP rfl al_66 s22 (by omega) (by omega) (by omega) (by omega) (fun h52 => ?_)
            refine r_ex hX hP 7 (pc' := 91) (st' := [(0, 0), (0, 0), (0, 0), (0, 114), (0, 111), (0, 102), (2, (Ad E 1))]) (lo' := [(0, (2, (Ad E 1))), (1, (0, k)), (2, (0, c)), (3, (0, ch))]) rfl ?_
            refine r_callS gd hX hP rfl cs_12_405 (d' := 0) (mc' := 0) (ms' := 0) (as' := [(0, 102), (0, 111), (0, 114), (0, 0), (0, 0), (0, 0)]) (st := [(2, (Ad E 1))]) (by omega) (by omega) (by omega) rfl rfl (Nat.le_of_ble_eq_true rfl) (c_X12_spelled E S (up (hv [80, 81, 82, 83, 84, 85, 86, 87] [] (hv [80, 81, 82, 83, 84, 85, 86, 87] [] (up (hv [80, 81, 82, 83, 84, 85, 86, 87] [] G G6) 64 (Ad E 64) c 0) G18) G23) 66 (Ad E 66) c z24) 102 111 114 0 0 0 (by omega) (by omega) (by omega) (by omega) (by omega) (by omega) (by omega) (by omega) (by omega) (by omega) (by omega) (by omega)) ?_
            rintro _ _ _ ⟨rfl, rfl, z53, rfl, z53a, z53b⟩
            refine r_callV gd hX hP rfl cv_12_466 hS (d' := 2) (mc' := 0) (ms' := 0) (as' := [(1, z53)]) (st := []) (by omega) (by omega) (by omega) rfl rfl (Nat.le_of_ble_eq_true rfl) (c_X12_wordIsB E S (up (hv [80, 81, 82, 83, 84, 85, 86, 87] [] (hv [80, 81, 82, 83, 84, 85, 86, 87] [] (up (hv [80, 81, 82, 83, 84, 85, 86, 87] [] G G6) 64 (Ad E 64) c 0) G18) G23) 66 (Ad E 66) c z24) z53 hS bah25 bah25e (by omega) (by omega)) ?_
            rintro _ _ _ ⟨rfl, ⟨G54, rfl⟩, rfl, bah55, bah55e, f56⟩
            refine r_peekI hX (tl1 80 rfl (by decide)) hS (fun o57 o57e o57a o57b => ?_)
            obtain rfl : bah55 = o57 := bah55e.trans o57e.symm
            refine r_ex hX hP 1 (pc' := 98) (st' := [(2, (Ad E 1))]) (lo' := [(0, (2, (Ad E 1))), (1, (0, k)), (2, (0, c)), (3, (0, ch))]) rfl ?_
            refine r_getC hX hP rfl fl_12_220 hS (fun _ => ?_)
            refine r_ex hX hP 3 (pc' := 104) (st' := [(0, 1), (0, k), (0, c), (2, (Ad E 65))]) (lo' := [(0, (2, (Ad E 1))), (1, (0, k)), (2, (0, c)), (3, (0, ch))]) rfl ?_
            refine r_ic_ne hX hP rfl (tgt := 127) rfl (by omega) (by omega) (by omega) (by omega) (fun c58 => ?_) (fun c58 => ?_)
            · skip
              refine r_ex hX hP 3 (pc' := 132) (st' := [(0, 1000), (0, 1), (2, (Ad E 1)), (0, c), (2, (Ad E 65))]) (lo' := [(0, (2, (Ad E 1))), (1, (0, k)), (2, (0, c)), (3, (0, ch))]) rfl ?_
              refine r_callV gd hX hP rfl cv_12_461 hS (d' := 2) (mc' := 0) (ms' := 0) (as' := [(0, 1), (0, 1000)]) (st := [(0, c), (2, (Ad E 65))]) (by omega) (by omega) (by omega) rfl rfl (Nat.le_of_ble_eq_true rfl) (c_X12_countB E S (hv [80, 81, 82, 83, 84, 85, 86, 87] [] (up (hv [80, 81, 82, 83, 84, 85, 86, 87] [] (hv [80, 81, 82, 83, 84, 85, 86, 87] [] (up (hv [80, 81, 82, 83, 84, 85, 86, 87] [] G G6) 64 (Ad E 64) c 0) G18) G23) 66 (Ad E 66) c z24) G54) 1 1000 hS bah55 bah55e (by omega) (by omega) (by omega) (by omega)) ?_
              rintro _ _ _ ⟨rfl, ⟨G59, rfl⟩, z60, rfl, bah61, bah61e, (⟨rfl, f62⟩ | ⟨f63, f64, f65, f66⟩)⟩
              · skip
                refine r_peekI hX (tl1 80 rfl (by decide)) hS (fun o67 o67e o67a o67b => ?_)
                obtain rfl : bah61 = o67 := bah61e.trans o67e.symm
                refine r_iastK hX hP rfl al_65 s1 (by omega) (by omega) (by omega) (by omega) (fun h68 => ?_)
                refine r_ex hX hP 1 (pc' := 453) (st' := []) (lo' := [(0, (2, (Ad E 1))), (1, (0, k)), (2, (0, c)), (3, (0, ch))]) rfl ?_
                exact r_retV hX hP rfl rfl (by omega) (by omega) ⟨rfl, ⟨_, (hq_up (hq_call (hq_call (hq_up (hq_call (hq_call (hq_up (hq_call (hq_refl _ _ _) rfl) rfl) rfl) rfl) rfl) rfl) rfl) rfl).symm⟩, rfl, bah61, bah61e, 0, h15, 0, h68, (by omega), (fun i h0 hi hx => ⟨rfl, ((show (up (hv [80, 81, 82, 83, 84, 85, 86, 87] [] G G6) 64 (Ad E 64) c 0) 64 (Ad E 64) i = _ from up_ne (fun q => absurd q.2.2 (by omega))).trans rfl), ((show (up (hv [80, 81, 82, 83, 84, 85, 86, 87] [] (hv [80, 81, 82, 83, 84, 85, 86, 87] [] (up (hv [80, 81, 82, 83, 84, 85, 86, 87] [] (hv [80, 81, 82, 83, 84, 85, 86, 87] [] (up (hv [80, 81, 82, 83, 84, 85, 86, 87] [] G G6) 64 (Ad E 64) c 0) G18) G23) 66 (Ad E 66) c z24) G54) G59) 65 (Ad E 65) c 0) 65 (Ad E 65) i = _ from up_ne (fun q => absurd q.2.2 (by omega))).trans rfl), ((show (up (hv [80, 81, 82, 83, 84, 85, 86, 87] [] (hv [80, 81, 82, 83, 84, 85, 86, 87] [] (up (hv [80, 81, 82, 83, 84, 85, 86, 87] [] G G6) 64 (Ad E 64) c 0) G18) G23) 66 (Ad E 66) c z24) 66 (Ad E 66) i = _ from up_ne (fun q => absurd q.2.2 (by omega))).trans rfl), rfl, rfl⟩)⟩
              · skip
                refine r_peekI hX (tl1 80 rfl (by decide)) hS (fun o69 o69e o69a o69b => ?_)
                obtain rfl : bah61 = o69 := bah61e.trans o69e.symm
                refine r_iastK hX hP rfl al_65 s1 (by omega) (by omega) (by omega) (by omega) (fun h70 => ?_)
                refine r_ex hX hP 1 (pc' := 453) (st' := []) (lo' := [(0, (2, (Ad E 1))), (1, (0, k)), (2, (0, c)), (3, (0, ch))]) rfl ?_
                exact r_retV hX hP rfl rfl (by omega) (by omega) ⟨rfl, ⟨_, (hq_up (hq_call (hq_call (hq_up (hq_call (hq_call (hq_up (hq_call (hq_refl _ _ _) rfl) rfl) rfl) rfl) rfl) rfl) rfl) rfl).symm⟩, rfl, bah61, bah61e, 0, h15, z60, h70, (by omega), (fun i h0 hi hx => ⟨rfl, ((show (up (hv [80, 81, 82, 83, 84, 85, 86, 87] [] G G6) 64 (Ad E 64) c 0) 64 (Ad E 64) i = _ from up_ne (fun q => absurd q.2.2 (by omega))).trans rfl), ((show (up (hv [80, 81, 82, 83, 84, 85, 86, 87] [] (hv [80, 81, 82, 83, 84, 85, 86, 87] [] (up (hv [80, 81, 82, 83, 84, 85, 86, 87] [] (hv [80, 81, 82, 83, 84, 85, 86, 87] [] (up (hv [80, 81, 82, 83, 84, 85, 86, 87] [] G G6) 64 (Ad E 64) c 0) G18) G23) 66 (Ad E 66) c z24) G54) G59) 65 (Ad E 65) c z60) 65 (Ad E 65) i = _ from up_ne (fun q => absurd q.2.2 (by omega))).trans rfl), ((show (up (hv [80, 81, 82, 83, 84, 85, 86, 87] [] (hv [80, 81, 82, 83, 84, 85, 86, 87] [] (up (hv [80, 81, 82, 83, 84, 85, 86, 87] [] G G6) 64 (Ad E 64) c 0) G18) G23) 66 (Ad E 66) c z24) 66 (Ad E 66) i = _ from up_ne (fun q => absurd q.2.2 (by omega))).trans rfl), rfl, rfl⟩)⟩
            · skip
              exfalso; omega
      · skip
        refine r_peekI hX (tl1 80 rfl (by decide)) hS (fun o71 o71e o71a o71b => ?_)
        obtain rfl : bah8 = o71 := bah8e.trans o71e.symm
        refine r_ex hX hP 1 (pc' := 48) (st' := [(0, z7), (0, c), (2, (Ad E 64))]) (lo' := [(0, (2, (Ad E 1))), (1, (0, k)), (2, (0, c)), (3, (0, ch))]) rfl ?_
        refine r_iastK hX hP rfl al_64 s3 (by omega) (by omega) (by omega) (by omega) (fun h72 => ?_)
        refine r_ex hX hP 1 (pc' := 50) (st' := [(0, k)]) (lo' := [(0, (2, (Ad E 1))), (1, (0, k)), (2, (0, c)), (3, (0, ch))]) rfl ?_
        refine r_if_ne hX hP rfl (tgt := 81) rfl (by omega) (by omega) (fun c73 => ?_) (fun c73 => ?_)
        · skip
          exfalso; omega
        · skip
          refine r_ex hX hP 7 (pc' := 62) (st' := [(0, 0), (0, 0), (0, 0), (0, 0), (0, 102), (0, 111), (2, (Ad E 1))]) (lo' := [(0, (2, (Ad E 1))), (1, (0, k)), (2, (0, c)), (3, (0, ch))]) rfl ?_
          refine r_callS gd hX hP rfl cs_12_405 (d' := 0) (mc' := 0) (ms' := 0) (as' := [(0, 111), (0, 102), (0, 0), (0, 0), (0, 0), (0, 0)]) (st := [(2, (Ad E 1))]) (by omega) (by omega) (by omega) rfl rfl (Nat.le_of_ble_eq_true rfl) (c_X12_spelled E S (up (hv [80, 81, 82, 83, 84, 85, 86, 87] [] G G6) 64 (Ad E 64) c z7) 111 102 0 0 0 0 (by omega) (by omega) (by omega) (by omega) (by omega) (by omega) (by omega) (by omega) (by omega) (by omega) (by omega) (by omega)) ?_
          rintro _ _ _ ⟨rfl, rfl, z74, rfl, z74a, z74b⟩
          refine r_callV gd hX hP rfl cv_12_466 hS (d' := 2) (mc' := 0) (ms' := 0) (as' := [(1, z74)]) (st := []) (by omega) (by omega) (by omega) rfl rfl (Nat.le_of_ble_eq_true rfl) (c_X12_wordIsB E S (up (hv [80, 81, 82, 83, 84, 85, 86, 87] [] G G6) 64 (Ad E 64) c z7) z74 hS bah8 bah8e (by omega) (by omega)) ?_
          rintro _ _ _ ⟨rfl, ⟨G75, rfl⟩, rfl, bah76, bah76e, f77⟩
          refine r_peekI hX (tl1 80 rfl (by decide)) hS (fun o78 o78e o78a o78b => ?_)
          obtain rfl : bah76 = o78 := bah76e.trans o78e.symm
          refine r_ex hX hP 1 (pc' := 69) (st' := [(2, (Ad E 1))]) (lo' := [(0, (2, (Ad E 1))), (1, (0, k)), (2, (0, c)), (3, (0, ch))]) rfl ?_
          refine r_getC hX hP rfl fl_12_223 hS (fun s79 => ?_)
          refine r_ex hX hP 4 (pc' := 77) (st' := [(0, 19), (0, 0), (2, (Ad E 1)), (0, c), (2, (Ad E 66))]) (lo' := [(0, (2, (Ad E 1))), (1, (0, k)), (2, (0, c)), (3, (0, ch))]) rfl ?_
          refine r_callV gd hX hP rfl cv_12_461 hS (d' := 2) (mc' := 0) (ms' := 0) (as' := [(0, 0), (0, 19)]) (st := [(0, c), (2, (Ad E 66))]) (by omega) (by omega) (by omega) rfl rfl (Nat.le_of_ble_eq_true rfl) (c_X12_countB E S (hv [80, 81, 82, 83, 84, 85, 86, 87] [] (up (hv [80, 81, 82, 83, 84, 85, 86, 87] [] G G6) 64 (Ad E 64) c z7) G75) 0 19 hS bah76 bah76e (by omega) (by omega) (by omega) (by omega)) ?_
          rintro _ _ _ ⟨rfl, ⟨G80, rfl⟩, z81, rfl, bah82, bah82e, (⟨rfl, f83⟩ | ⟨f84, f85, f86, f87⟩)⟩
          · skip
            refine r_peekI hX (tl1 80 rfl (by decide)) hS (fun o88 o88e o88a o88b => ?_)
            obtain rfl : bah82 = o88 := bah82e.trans o88e.symm
            refine r_iastK hX hP rfl al_66 s79 (by omega) (by omega) (by omega) (by omega) (fun h89 => ?_)
            refine r_ex hX hP 7 (pc' := 91) (st' := [(0, 0), (0, 0), (0, 0), (0, 114), (0, 111), (0, 102), (2, (Ad E 1))]) (lo' := [(0, (2, (Ad E 1))), (1, (0, k)), (2, (0, c)), (3, (0, ch))]) rfl ?_
            refine r_callS gd hX hP rfl cs_12_405 (d' := 0) (mc' := 0) (ms' := 0) (as' := [(0, 102), (0, 111), (0, 114), (0, 0), (0, 0), (0, 0)]) (st := [(2, (Ad E 1))]) (by omega) (by omega) (by omega) rfl rfl (Nat.le_of_ble_eq_true rfl) (c_X12_spelled E S (up (hv [80, 81, 82, 83, 84, 85, 86, 87] [] (hv [80, 81, 82, 83, 84, 85, 86, 87] [] (up (hv [80, 81, 82, 83, 84, 85, 86, 87] [] G G6) 64 (Ad E 64) c z7) G75) G80) 66 (Ad E 66) c 0) 102 111 114 0 0 0 (by omega) (by omega) (by omega) (by omega) (by omega) (by omega) (by omega) (by omega) (by omega) (by omega) (by omega) (by omega)) ?_
            rintro _ _ _ ⟨rfl, rfl, z90, rfl, z90a, z90b⟩
            refine r_callV gd hX hP rfl cv_12_466 hS (d' := 2) (mc' := 0) (ms' := 0) (as' := [(1, z90)]) (st := []) (by omega) (by omega) (by omega) rfl rfl (Nat.le_of_ble_eq_true rfl) (c_X12_wordIsB E S (up (hv [80, 81, 82, 83, 84, 85, 86, 87] [] (hv [80, 81, 82, 83, 84, 85, 86, 87] [] (up (hv [80, 81, 82, 83, 84, 85, 86, 87] [] G G6) 64 (Ad E 64) c z7) G75) G80) 66 (Ad E 66) c 0) z90 hS bah82 bah82e (by omega) (by omega)) ?_
            rintro _ _ _ ⟨rfl, ⟨G91, rfl⟩, rfl, bah92, bah92e, f93⟩
            refine r_peekI hX (tl1 80 rfl (by decide)) hS (fun o94 o94e o94a o94b => ?_)
            obtain rfl : bah92 = o94 := bah92e.trans o94e.symm
            refine r_ex hX hP 1 (pc' := 98) (st' := [(2, (Ad E 1))]) (lo' := [(0, (2, (Ad E 1))), (1, (0, k)), (2, (0, c)), (3, (0, ch))]) rfl ?_
            refine r_getC hX hP rfl fl_12_220 hS (fun _ => ?_)
            refine r_ex hX hP 3 (pc' := 104) (st' := [(0, 1), (0, k), (0, c), (2, (Ad E 65))]) (lo' := [(0, (2, (Ad E 1))), (1, (0, k)), (2, (0, c)), (3, (0, ch))]) rfl ?_
            refine r_ic_ne hX hP rfl (tgt := 127) rfl (by omega) (by omega) (by omega) (by omega) (fun c95 => ?_) (fun c95 => ?_)
            · skip
              refine r_ex hX hP 3 (pc' := 132) (st' := [(0, 1000), (0, 1), (2, (Ad E 1)), (0, c), (2, (Ad E 65))]) (lo' := [(0, (2, (Ad E 1))), (1, (0, k)), (2, (0, c)), (3, (0, ch))]) rfl ?_
              refine r_callV gd hX hP rfl cv_12_461 hS (d' := 2) (mc' := 0) (ms' := 0) (as' := [(0, 1), (0, 1000)]) (st := [(0, c), (2, (Ad E 65))]) (by omega) (by omega) (by omega) rfl rfl (Nat.le_of_ble_eq_true rfl) (c_X12_countB E S (hv [80, 81, 82, 83, 84, 85, 86, 87] [] (up (hv [80, 81, 82, 83, 84, 85, 86, 87] [] (hv [80, 81, 82, 83, 84, 85, 86, 87] [] (up (hv [80, 81, 82, 83, 84, 85, 86, 87] [] G G6) 64 (Ad E 64) c z7) G75) G80) 66 (Ad E 66) c 0) G91) 1 1000 hS bah92 bah92e (by omega) (by omega) (by omega) (by omega)) ?_
              rintro _ _ _ ⟨rfl, ⟨G96, rfl⟩, z97, rfl, bah98, bah98e, (⟨rfl, f99⟩ | ⟨f100, f101, f102, f103⟩)⟩
              · skip
                refine r_peekI hX (tl1 80 rfl (by decide)) hS (fun o104 o104e o104a o104b => ?_)
                obtain rfl : bah98 = o104 := bah98e.trans o104e.symm
                refine r_iastK hX hP rfl al_65 s1 (by omega) (by omega) (by omega) (by omega) (fun h105 => ?_)
                refine r_ex hX hP 1 (pc' := 453) (st' := []) (lo' := [(0, (2, (Ad E 1))), (1, (0, k)), (2, (0, c)), (3, (0, ch))]) rfl ?_
                exact r_retV hX hP rfl rfl (by omega) (by omega) ⟨rfl, ⟨_, (hq_up (hq_call (hq_call (hq_up (hq_call (hq_call (hq_up (hq_call (hq_refl _ _ _) rfl) rfl) rfl) rfl) rfl) rfl) rfl) rfl).symm⟩, rfl, bah98, bah98e, z7, h72, 0, h105, (by omega), (fun i h0 hi hx => ⟨rfl, ((show (up (hv [80, 81, 82, 83, 84, 85, 86, 87] [] G G6) 64 (Ad E 64) c z7) 64 (Ad E 64) i = _ from up_ne (fun q => absurd q.2.2 (by omega))).trans rfl), ((show (up (hv [80, 81, 82, 83, 84, 85, 86, 87] [] (hv [80, 81, 82, 83, 84, 85, 86, 87] [] (up (hv [80, 81, 82, 83, 84, 85, 86, 87] [] (hv [80, 81, 82, 83, 84, 85, 86, 87] [] (up (hv [80, 81, 82, 83, 84, 85, 86, 87] [] G G6) 64 (Ad E 64) c z7) G75) G80) 66 (Ad E 66) c 0) G91) G96) 65 (Ad E 65) c 0) 65 (Ad E 65) i = _ from up_ne (fun q => absurd q.2.2 (by omega))).trans rfl), ((show (up (hv [80, 81, 82, 83, 84, 85, 86, 87] [] (hv [80, 81, 82, 83, 84, 85, 86, 87] [] (up (hv [80, 81, 82, 83, 84, 85, 86, 87] [] G G6) 64 (Ad E 64) c z7) G75) G80) 66 (Ad E 66) c 0) 66 (Ad E 66) i = _ from up_ne (fun q => absurd q.2.2 (by omega))).trans rfl), rfl, rfl⟩)⟩
              · skip
                refine r_peekI hX (tl1 80 rfl (by decide)) hS (fun o106 o106e o106a o106b => ?_)
                obtain rfl : bah98 = o106 := bah98e.trans o106e.symm
                refine r_iastK hX hP rfl al_65 s1 (by omega) (by omega) (by omega) (by omega) (fun h107 => ?_)
                refine r_ex hX hP 1 (pc' := 453) (st' := []) (lo' := [(0, (2, (Ad E 1))), (1, (0, k)), (2, (0, c)), (3, (0, ch))]) rfl ?_
                exact r_retV hX hP rfl rfl (by omega) (by omega) ⟨rfl, ⟨_, (hq_up (hq_call (hq_call (hq_up (hq_call (hq_call (hq_up (hq_call (hq_refl _ _ _) rfl) rfl) rfl) rfl) rfl) rfl) rfl) rfl).symm⟩, rfl, bah98, bah98e, z7, h72, z97, h107, (by omega), (fun i h0 hi hx => ⟨rfl, ((show (up (hv [80, 81, 82, 83, 84, 85, 86, 87] [] G G6) 64 (Ad E 64) c z7) 64 (Ad E 64) i = _ from up_ne (fun q => absurd q.2.2 (by omega))).trans rfl), ((show (up (hv [80, 81, 82, 83, 84, 85, 86, 87] [] (hv [80, 81, 82, 83, 84, 85, 86, 87] [] (up (hv [80, 81, 82, 83, 84, 85, 86, 87] [] (hv [80, 81, 82, 83, 84, 85, 86, 87] [] (up (hv [80, 81, 82, 83, 84, 85, 86, 87] [] G G6) 64 (Ad E 64) c z7) G75) G80) 66 (Ad E 66) c 0) G91) G96) 65 (Ad E 65) c z97) 65 (Ad E 65) i = _ from up_ne (fun q => absurd q.2.2 (by omega))).trans rfl), ((show (up (hv [80, 81, 82, 83, 84, 85, 86, 87] [] (hv [80, 81, 82, 83, 84, 85, 86, 87] [] (up (hv [80, 81, 82, 83, 84, 85, 86, 87] [] G G6) 64 (Ad E 64) c z7) G75) G80) 66 (Ad E 66) c 0) 66 (Ad E 66) i = _ from up_ne (fun q => absurd q.2.2 (by omega))).trans rfl), rfl, rfl⟩)⟩
            · skip
              exfalso; omega
          · skip
            refine r_peekI hX (tl1 80 rfl (by decide)) hS (fun o108 o108e o108a o108b => ?_)
            obtain rfl : bah82 = o108 := bah82e.trans o108e.symm
            refine r_iastK hX hP rfl al_66 s79 (by omega) (by omega) (by omega) (by omega) (fun h109 => ?_)
            refine r_ex hX hP 7 (pc' := 91) (st' := [(0, 0), (0, 0), (0, 0), (0, 114), (0, 111), (0, 102), (2, (Ad E 1))]) (lo' := [(0, (2, (Ad E 1))), (1, (0, k)), (2, (0, c)), (3, (0, ch))]) rfl ?_
            refine r_callS gd hX hP rfl cs_12_405 (d' := 0) (mc' := 0) (ms' := 0) (as' := [(0, 102), (0, 111), (0, 114), (0, 0), (0, 0), (0, 0)]) (st := [(2, (Ad E 1))]) (by omega) (by omega) (by omega) rfl rfl (Nat.le_of_ble_eq_true rfl) (c_X12_spelled E S (up (hv [80, 81, 82, 83, 84, 85, 86, 87] [] (hv [80, 81, 82, 83, 84, 85, 86, 87] [] (up (hv [80, 81, 82, 83, 84, 85, 86, 87] [] G G6) 64 (Ad E 64) c z7) G75) G80) 66 (Ad E 66) c z81) 102 111 114 0 0 0 (by omega) (by omega) (by omega) (by omega) (by omega) (by omega) (by omega) (by omega) (by omega) (by omega) (by omega) (by omega)) ?_
            rintro _ _ _ ⟨rfl, rfl, z110, rfl, z110a, z110b⟩
            refine r_callV gd hX hP rfl cv_12_466 hS (d' := 2) (mc' := 0) (ms' := 0) (as' := [(1, z110)]) (st := []) (by omega) (by omega) (by omega) rfl rfl (Nat.le_of_ble_eq_true rfl) (c_X12_wordIsB E S (up (hv [80, 81, 82, 83, 84, 85, 86, 87] [] (hv [80, 81, 82, 83, 84, 85, 86, 87] [] (up (hv [80, 81, 82, 83, 84, 85, 86, 87] [] G G6) 64 (Ad E 64) c z7) G75) G80) 66 (Ad E 66) c z81) z110 hS bah82 bah82e (by omega) (by omega)) ?_
            rintro _ _ _ ⟨rfl, ⟨G111, rfl⟩, rfl, bah112, bah112e, f113⟩
            refine r_peekI hX (tl1 80 rfl (by decide)) hS (fun o114 o114e o114a o114b => ?_)
            obtain rfl : bah112 = o114 := bah112e.trans o114e.symm
            refine r_ex hX hP 1 (pc' := 98) (st' := [(2, (Ad E 1))]) (lo' := [(0, (2, (Ad E 1))), (1, (0, k)), (2, (0, c)), (3, (0, ch))]) rfl ?_
            refine r_getC hX hP rfl fl_12_220 hS (fun _ => ?_)
            refine r_ex hX hP 3 (pc' := 104) (st' := [(0, 1), (0, k), (0, c), (2, (Ad E 65))]) (lo' := [(0, (2, (Ad E 1))), (1, (0, k)), (2, (0, c)), (3, (0, ch))]) rfl ?_
            refine r_ic_ne hX hP rfl (tgt := 127) rfl (by omega) (by omega) (by omega) (by omega) (fun c115 => ?_) (fun c115 => ?_)
            · skip
              refine r_ex hX hP 3 (pc' := 132) (st' := [(0, 1000), (0, 1), (2, (Ad E 1)), (0, c), (2, (Ad E 65))]) (lo' := [(0, (2, (Ad E 1))), (1, (0, k)), (2, (0, c)), (3, (0, ch))]) rfl ?_
              refine r_callV gd hX hP rfl cv_12_461 hS (d' := 2) (mc' := 0) (ms' := 0) (as' := [(0, 1), (0, 1000)]) (st := [(0, c), (2, (Ad E 65))]) (by omega) (by omega) (by omega) rfl rfl (Nat.le_of_ble_eq_true rfl) (c_X12_countB E S (hv [80, 81, 82, 83, 84, 85, 86, 87] [] (up (hv [80, 81, 82, 83, 84, 85, 86, 87] [] (hv [80, 81, 82, 83, 84, 85, 86, 87] [] (up (hv [80, 81, 82, 83, 84, 85, 86, 87] [] G G6) 64 (Ad E 64) c z7) G75) G80) 66 (Ad E 66) c z81) G111) 1 1000 hS bah112 bah112e (by omega) (by omega) (by omega) (by omega)) ?_
              rintro _ _ _ ⟨rfl, ⟨G116, rfl⟩, z117, rfl, bah118, bah118e, (⟨rfl, f119⟩ | ⟨f120, f121, f122, f123⟩)⟩
              · skip
                refine r_peekI hX (tl1 80 rfl (by decide)) hS (fun o124 o124e o124a o124b => ?_)
                obtain rfl : bah118 = o124 := bah118e.trans o124e.symm
                refine r_iastK hX hP rfl al_65 s1 (by omega) (by omega) (by omega) (by omega) (fun h125 => ?_)
                refine r_ex hX hP 1 (pc' := 453) (st' := []) (lo' := [(0, (2, (Ad E 1))), (1, (0, k)), (2, (0, c)), (3, (0, ch))]) rfl ?_
                exact r_retV hX hP rfl rfl (by omega) (by omega) ⟨rfl, ⟨_, (hq_up (hq_call (hq_call (hq_up (hq_call (hq_call (hq_up (hq_call (hq_refl _ _ _) rfl) rfl) rfl) rfl) rfl) rfl) rfl) rfl).symm⟩, rfl, bah118, bah118e, z7, h72, 0, h125, (by omega), (fun i h0 hi hx => ⟨rfl, ((show (up (hv [80, 81, 82, 83, 84, 85, 86, 87] [] G G6) 64 (Ad E 64) c z7) 64 (Ad E 64) i = _ from up_ne (fun q => absurd q.2.2 (by omega))).trans rfl), ((show (up (hv [80, 81, 82, 83, 84, 85, 86, 87] [] (hv [80, 81, 82, 83, 84, 85, 86, 87] [] (up (hv [80, 81, 82, 83, 84, 85, 86, 87] [] (hv [80, 81, 82, 83, 84, 85, 86, 87] [] (up (hv [80, 81, 82, 83, 84, 85, 86, 87] [] G G6) 64 (Ad E 64) c z7) G75) G80) 66 (Ad E 66) c z81) G111) G116) 65 (Ad E 65) c 0) 65 (Ad E 65) i = _ from up_ne (fun q => absurd q.2.2 (by omega))).trans rfl), ((show (up (hv [80, 81, 82, 83, 84, 85, 86, 87] [] (hv [80, 81, 82, 83, 84, 85, 86, 87] [] (up (hv [80, 81, 82, 83, 84, 85, 86, 87] [] G G6) 64 (Ad E 64) c z7) G75) G80) 66 (Ad E 66) c z81) 66 (Ad E 66) i = _ from up_ne (fun q => absurd q.2.2 (by omega))).trans rfl), rfl, rfl⟩)⟩
              · skip
                refine r_peekI hX (tl1 80 rfl (by decide)) hS (fun o126 o126e o126a o126b => ?_)
                obtain rfl : bah118 = o126 := bah118e.trans o126e.symm
                refine r_iastK hX hP rfl al_65 s1 (by omega) (by omega) (by omega) (by omega) (fun h127 => ?_)
                refine r_ex hX hP 1 (pc' := 453) (st' := []) (lo' := [(0, (2, (Ad E 1))), (1, (0, k)), (2, (0, c)), (3, (0, ch))]) rfl ?_
                exact r_retV hX hP rfl rfl (by omega) (by omega) ⟨rfl, ⟨_, (hq_up (hq_call (hq_call (hq_up (hq_call (hq_call (hq_up (hq_call (hq_refl _ _ _) rfl) rfl) rfl) rfl) rfl) rfl) rfl) rfl).symm⟩, rfl, bah118, bah118e, z7, h72, z117, h127, (by omega), (fun i h0 hi hx => ⟨rfl, ((show (up (hv [80, 81, 82, 83, 84, 85, 86, 87] [] G G6) 64 (Ad E 64) c z7) 64 (Ad E 64) i = _ from up_ne (fun q => absurd q.2.2 (by omega))).trans rfl), ((show (up (hv [80, 81, 82, 83, 84, 85, 86, 87] [] (hv [80, 81, 82, 83, 84, 85, 86, 87] [] (up (hv [80, 81, 82, 83, 84, 85, 86, 87] [] (hv [80, 81, 82, 83, 84, 85, 86, 87] [] (up (hv [80, 81, 82, 83, 84, 85, 86, 87] [] G G6) 64 (Ad E 64) c z7) G75) G80) 66 (Ad E 66) c z81) G111) G116) 65 (Ad E 65) c z117) 65 (Ad E 65) i = _ from up_ne (fun q => absurd q.2.2 (by omega))).trans rfl), ((show (up (hv [80, 81, 82, 83, 84, 85, 86, 87] [] (hv [80, 81, 82, 83, 84, 85, 86, 87] [] (up (hv [80, 81, 82, 83, 84, 85, 86, 87] [] G G6) 64 (Ad E 64) c z7) G75) G80) 66 (Ad E 66) c z81) 66 (Ad E 66) i = _ from up_ne (fun q => absurd q.2.2 (by omega))).trans rfl), rfl, rfl⟩)⟩
            · skip
              exfalso; omega
  · skip
    refine r_ex hX hP 2 (pc' := 6) (st' := [(0, 1), (0, k)]) (lo' := [(0, (2, (Ad E 1))), (1, (0, k)), (2, (0, c)), (3, (0, ch))]) rfl ?_
    refine r_ic_eq hX hP rfl (tgt := 19) rfl (by omega) (by omega) (by omega) (by omega) (fun c128 => ?_) (fun c128 => ?_)
    · skip
      refine r_ex hX hP 1 (pc' := 20) (st' := [(2, (Ad E 1))]) (lo' := [(0, (2, (Ad E 1))), (1, (0, k)), (2, (0, c)), (3, (0, ch))]) rfl ?_
      refine r_getC hX hP rfl fl_12_217 hS (fun s129 => ?_)
      refine r_ex hX hP 3 (pc' := 26) (st' := [(0, 2), (0, k), (0, c), (2, (Ad E 64))]) (lo' := [(0, (2, (Ad E 1))), (1, (0, k)), (2, (0, c)), (3, (0, ch))]) rfl ?_
      refine r_ic_ge hX hP rfl (tgt := 40) rfl (by omega) (by omega) (by omega) (by omega) (fun c130 => ?_) (fun c130 => ?_)
      · skip
        exfalso; omega
      · skip
        refine r_ex hX hP 3 (pc' := 34) (st' := [(0, 1000), (0, 1), (2, (Ad E 1)), (0, c), (2, (Ad E 64))]) (lo' := [(0, (2, (Ad E 1))), (1, (0, k)), (2, (0, c)), (3, (0, ch))]) rfl ?_
        refine r_peekI hX (tl1 80 rfl (by decide)) hS (fun bap131 bap131e bap131a bap131b => ?_)
        refine r_callV gd hX hP rfl cv_12_461 hS (d' := 2) (mc' := 0) (ms' := 0) (as' := [(0, 1), (0, 1000)]) (st := [(0, c), (2, (Ad E 64))]) (by omega) (by omega) (by omega) rfl rfl (Nat.le_of_ble_eq_true rfl) (c_X12_countB E S G 1 1000 hS bap131 bap131e (by omega) (by omega) (by omega) (by omega)) ?_
        rintro _ _ _ ⟨rfl, ⟨G132, rfl⟩, z133, rfl, bah134, bah134e, (⟨rfl, f135⟩ | ⟨f136, f137, f138, f139⟩)⟩
        · skip
          refine r_peekI hX (tl1 80 rfl (by decide)) hS (fun o140 o140e o140a o140b => ?_)
          obtain rfl : bah134 = o140 := bah134e.trans o140e.symm
          refine r_ex hX hP 1 (pc' := 48) (st' := [(0, 0), (0, c), (2, (Ad E 64))]) (lo' := [(0, (2, (Ad E 1))), (1, (0, k)), (2, (0, c)), (3, (0, ch))]) rfl ?_
          refine r_iastK hX hP rfl al_64 s129 (by omega) (by omega) (by omega) (by omega) (fun h141 => ?_)
          refine r_ex hX hP 1 (pc' := 50) (st' := [(0, k)]) (lo' := [(0, (2, (Ad E 1))), (1, (0, k)), (2, (0, c)), (3, (0, ch))]) rfl ?_
          refine r_if_ne hX hP rfl (tgt := 81) rfl (by omega) (by omega) (fun c142 => ?_) (fun c142 => ?_)
          · skip
            refine r_ex hX hP 7 (pc' := 91) (st' := [(0, 0), (0, 0), (0, 0), (0, 114), (0, 111), (0, 102), (2, (Ad E 1))]) (lo' := [(0, (2, (Ad E 1))), (1, (0, k)), (2, (0, c)), (3, (0, ch))]) rfl ?_
            refine r_callS gd hX hP rfl cs_12_405 (d' := 0) (mc' := 0) (ms' := 0) (as' := [(0, 102), (0, 111), (0, 114), (0, 0), (0, 0), (0, 0)]) (st := [(2, (Ad E 1))]) (by omega) (by omega) (by omega) rfl rfl (Nat.le_of_ble_eq_true rfl) (c_X12_spelled E S (up (hv [80, 81, 82, 83, 84, 85, 86, 87] [] G G132) 64 (Ad E 64) c 0) 102 111 114 0 0 0 (by omega) (by omega) (by omega) (by omega) (by omega) (by omega) (by omega) (by omega) (by omega) (by omega) (by omega) (by omega)) ?_
            rintro _ _ _ ⟨rfl, rfl, z143, rfl, z143a, z143b⟩
            refine r_callV gd hX hP rfl cv_12_466 hS (d' := 2) (mc' := 0) (ms' := 0) (as' := [(1, z143)]) (st := []) (by omega) (by omega) (by omega) rfl rfl (Nat.le_of_ble_eq_true rfl) (c_X12_wordIsB E S (up (hv [80, 81, 82, 83, 84, 85, 86, 87] [] G G132) 64 (Ad E 64) c 0) z143 hS bah134 bah134e (by omega) (by omega)) ?_
            rintro _ _ _ ⟨rfl, ⟨G144, rfl⟩, rfl, bah145, bah145e, f146⟩
            refine r_peekI hX (tl1 80 rfl (by decide)) hS (fun o147 o147e o147a o147b => ?_)
            obtain rfl : bah145 = o147 := bah145e.trans o147e.symm
            refine r_ex hX hP 1 (pc' := 98) (st' := [(2, (Ad E 1))]) (lo' := [(0, (2, (Ad E 1))), (1, (0, k)), (2, (0, c)), (3, (0, ch))]) rfl ?_
            refine r_getC hX hP rfl fl_12_220 hS (fun _ => ?_)
            refine r_ex hX hP 3 (pc' := 104) (st' := [(0, 1), (0, k), (0, c), (2, (Ad E 65))]) (lo' := [(0, (2, (Ad E 1))), (1, (0, k)), (2, (0, c)), (3, (0, ch))]) rfl ?_
            refine r_ic_ne hX hP rfl (tgt := 127) rfl (by omega) (by omega) (by omega) (by omega) (fun c148 => ?_) (fun c148 => ?_)
            · skip
              exfalso; omega
            · skip
              refine r_ex hX hP 3 (pc' := 110) (st' := [(2, (Ad E 1)), (0, 1), (2, (Ad E 1)), (0, c), (2, (Ad E 65))]) (lo' := [(0, (2, (Ad E 1))), (1, (0, k)), (2, (0, c)), (3, (0, ch))]) rfl ?_
              refine r_getC hX hP rfl fl_12_217 hS (fun _ => ?_)
              refine r_ex hX hP 1 (pc' := 114) (st' := [(0, c), (2, (Ad E 64)), (0, 1), (2, (Ad E 1)), (0, c), (2, (Ad E 65))]) (lo' := [(0, (2, (Ad E 1))), (1, (0, k)), (2, (0, c)), (3, (0, ch))]) rfl ?_
              refine r_ialdK hX hP rfl al_64 s129 (by omega) (by omega) (x := 0) h141 ?_
              refine r_mmaxI hX hP rfl (tbg sg9 215 rfl rfl) (tbg sg3 89 rfl rfl) (tbg sg1 14 rfl rfl) (tbg sg3 90 rfl rfl) (by decide) (by decide) (by decide) (Nat.le_of_ble_eq_true rfl) (by omega) (by omega) (by omega) (by omega) (fun c149 => ?_) (fun c149 => ?_)
              · skip
                refine r_ex hX hP 1 (pc' := 121) (st' := [(0, 1000), (0, 1), (2, (Ad E 1)), (0, c), (2, (Ad E 65))]) (lo' := [(0, (2, (Ad E 1))), (1, (0, k)), (2, (0, c)), (3, (0, ch))]) rfl ?_
                refine r_callV gd hX hP rfl cv_12_461 hS (d' := 2) (mc' := 0) (ms' := 0) (as' := [(0, 1), (0, 1000)]) (st := [(0, c), (2, (Ad E 65))]) (by omega) (by omega) (by omega) rfl rfl (Nat.le_of_ble_eq_true rfl) (c_X12_countB E S (hv [80, 81, 82, 83, 84, 85, 86, 87] [] (up (hv [80, 81, 82, 83, 84, 85, 86, 87] [] G G132) 64 (Ad E 64) c 0) G144) 1 1000 hS bah145 bah145e (by omega) (by omega) (by omega) (by omega)) ?_
                rintro _ _ _ ⟨rfl, ⟨G150, rfl⟩, z151, rfl, bah152, bah152e, (⟨rfl, f153⟩ | ⟨f154, f155, f156, f157⟩)⟩
                · skip
                  refine r_peekI hX (tl1 80 rfl (by decide)) hS (fun o158 o158e o158a o158b => ?_)
                  obtain rfl : bah152 = o158 := bah152e.trans o158e.symm
                  refine r_ex hX hP 1 (pc' := 135) (st' := [(0, 0), (0, c), (2, (Ad E 65))]) (lo' := [(0, (2, (Ad E 1))), (1, (0, k)), (2, (0, c)), (3, (0, ch))]) rfl ?_
                  refine r_iastK hX hP rfl al_65 s1 (by omega) (by omega) (by omega) (by omega) (fun h159 => ?_)
                  refine r_ex hX hP 1 (pc' := 453) (st' := []) (lo' := [(0, (2, (Ad E 1))), (1, (0, k)), (2, (0, c)), (3, (0, ch))]) rfl ?_
                  exact r_retV hX hP rfl rfl (by omega) (by omega) ⟨rfl, ⟨_, (hq_up (hq_call (hq_call (hq_up (hq_call (hq_refl _ _ _) rfl) rfl) rfl) rfl) rfl).symm⟩, rfl, bah152, bah152e, 0, h141, 0, h159, (by omega), (fun i h0 hi hx => ⟨rfl, ((show (up (hv [80, 81, 82, 83, 84, 85, 86, 87] [] G G132) 64 (Ad E 64) c 0) 64 (Ad E 64) i = _ from up_ne (fun q => absurd q.2.2 (by omega))).trans rfl), ((show (up (hv [80, 81, 82, 83, 84, 85, 86, 87] [] (hv [80, 81, 82, 83, 84, 85, 86, 87] [] (up (hv [80, 81, 82, 83, 84, 85, 86, 87] [] G G132) 64 (Ad E 64) c 0) G144) G150) 65 (Ad E 65) c 0) 65 (Ad E 65) i = _ from up_ne (fun q => absurd q.2.2 (by omega))).trans rfl), rfl, rfl, rfl⟩)⟩
                · skip
                  refine r_peekI hX (tl1 80 rfl (by decide)) hS (fun o160 o160e o160a o160b => ?_)
                  obtain rfl : bah152 = o160 := bah152e.trans o160e.symm
                  refine r_ex hX hP 1 (pc' := 135) (st' := [(0, z151), (0, c), (2, (Ad E 65))]) (lo' := [(0, (2, (Ad E 1))), (1, (0, k)), (2, (0, c)), (3, (0, ch))]) rfl ?_
                  refine r_iastK hX hP rfl al_65 s1 (by omega) (by omega) (by omega) (by omega) (fun h161 => ?_)
                  refine r_ex hX hP 1 (pc' := 453) (st' := []) (lo' := [(0, (2, (Ad E 1))), (1, (0, k)), (2, (0, c)), (3, (0, ch))]) rfl ?_
                  exact r_retV hX hP rfl rfl (by omega) (by omega) ⟨rfl, ⟨_, (hq_up (hq_call (hq_call (hq_up (hq_call (hq_refl _ _ _) rfl) rfl) rfl) rfl) rfl).symm⟩, rfl, bah152, bah152e, 0, h141, z151, h161, (by omega), (fun i h0 hi hx => ⟨rfl, ((show (up (hv [80, 81, 82, 83, 84, 85, 86, 87] [] G G132) 64 (Ad E 64) c 0) 64 (Ad E 64) i = _ from up_ne (fun q => absurd q.2.2 (by omega))).trans rfl), ((show (up (hv [80, 81, 82, 83, 84, 85, 86, 87] [] (hv [80, 81, 82, 83, 84, 85, 86, 87] [] (up (hv [80, 81, 82, 83, 84, 85, 86, 87] [] G G132) 64 (Ad E 64) c 0) G144) G150) 65 (Ad E 65) c z151) 65 (Ad E 65) i = _ from up_ne (fun q => absurd q.2.2 (by omega))).trans rfl), rfl, rfl, rfl⟩)⟩
              · skip
                exfalso; omega
          · skip
            exfalso; omega
        · skip
          refine r_peekI hX (tl1 80 rfl (by decide)) hS (fun o162 o162e o162a o162b => ?_)
          obtain rfl : bah134 = o162 := bah134e.trans o162e.symm
          refine r_ex hX hP 1 (pc' := 48) (st' := [(0, z133), (0, c), (2, (Ad E 64))]) (lo' := [(0, (2, (Ad E 1))), (1, (0, k)), (2, (0, c)), (3, (0, ch))]) rfl ?_
          refine r_iastK hX hP rfl al_64 s129 (by omega) (by omega) (by omega) (by omega) (fun h163 => ?_)
          refine r_ex hX hP 1 (pc' := 50) (st' := [(0, k)]) (lo' := [(0, (2, (Ad E 1))), (1, (0, k)), (2, (0, c)), (3, (0, ch))]) rfl ?_
          refine r_if_ne hX hP rfl (tgt := 81) rfl (by omega) (by omega) (fun c164 => ?_) (fun c164 => ?_)
          · skip
            refine r_ex hX hP 7 (pc' := 91) (st' := [(0, 0), (0, 0), (0, 0), (0, 114), (0, 111), (0, 102), (2, (Ad E 1))]) (lo' := [(0, (2, (Ad E 1))), (1, (0, k)), (2, (0, c)), (3, (0, ch))]) rfl ?_
            refine r_callS gd hX hP rfl cs_12_405 (d' := 0) (mc' := 0) (ms' := 0) (as' := [(0, 102), (0, 111), (0, 114), (0, 0), (0, 0), (0, 0)]) (st := [(2, (Ad E 1))]) (by omega) (by omega) (by omega) rfl rfl (Nat.le_of_ble_eq_true rfl) (c_X12_spelled E S (up (hv [80, 81, 82, 83, 84, 85, 86, 87] [] G G132) 64 (Ad E 64) c z133) 102 111 114 0 0 0 (by omega) (by omega) (by omega) (by omega) (by omega) (by omega) (by omega) (by omega) (by omega) (by omega) (by omega) (by omega)) ?_
            rintro _ _ _ ⟨rfl, rfl, z165, rfl, z165a, z165b⟩
            refine r_callV gd hX hP rfl cv_12_466 hS (d' := 2) (mc' := 0) (ms' := 0) (as' := [(1, z165)]) (st := []) (by omega) (by omega) (by omega) rfl rfl (Nat.le_of_ble_eq_true rfl) (c_X12_wordIsB E S (up (hv [80, 81, 82, 83, 84, 85, 86, 87] [] G G132) 64 (Ad E 64) c z133) z165 hS bah134 bah134e (by omega) (by omega)) ?_
            rintro _ _ _ ⟨rfl, ⟨G166, rfl⟩, rfl, bah167, bah167e, f168⟩
            refine r_peekI hX (tl1 80 rfl (by decide)) hS (fun o169 o169e o169a o169b => ?_)
            obtain rfl : bah167 = o169 := bah167e.trans o169e.symm
            refine r_ex hX hP 1 (pc' := 98) (st' := [(2, (Ad E 1))]) (lo' := [(0, (2, (Ad E 1))), (1, (0, k)), (2, (0, c)), (3, (0, ch))]) rfl ?_
            refine r_getC hX hP rfl fl_12_220 hS (fun _ => ?_)
            refine r_ex hX hP 3 (pc' := 104) (st' := [(0, 1), (0, k), (0, c), (2, (Ad E 65))]) (lo' := [(0, (2, (Ad E 1))), (1, (0, k)), (2, (0, c)), (3, (0, ch))]) rfl ?_
            refine r_ic_ne hX hP rfl (tgt := 127) rfl (by omega) (by omega) (by omega) (by omega) (fun c170 => ?_) (fun c170 => ?_)
            · skip
              exfalso; omega
            · skip
              refine r_ex hX hP 3 (pc' := 110) (st' := [(2, (Ad E 1)), (0, 1), (2, (Ad E 1)), (0, c), (2, (Ad E 65))]) (lo' := [(0, (2, (Ad E 1))), (1, (0, k)), (2, (0, c)), (3, (0, ch))]) rfl ?_
              refine r_getC hX hP rfl fl_12_217 hS (fun _ => ?_)
              refine r_ex hX hP 1 (pc' := 114) (st' := [(0, c), (2, (Ad E 64)), (0, 1), (2, (Ad E 1)), (0, c), (2, (Ad E 65))]) (lo' := [(0, (2, (Ad E 1))), (1, (0, k)), (2, (0, c)), (3, (0, ch))]) rfl ?_
              refine r_ialdK hX hP rfl al_64 s129 (by omega) (by omega) (x := z133) h163 ?_
              refine r_mmaxI hX hP rfl (tbg sg9 215 rfl rfl) (tbg sg3 89 rfl rfl) (tbg sg1 14 rfl rfl) (tbg sg3 90 rfl rfl) (by decide) (by decide) (by decide) (Nat.le_of_ble_eq_true rfl) (by omega) (by omega) (by omega) (by omega) (fun c171 => ?_) (fun c171 => ?_)
              · skip
                refine r_ex hX hP 1 (pc' := 121) (st' := [(0, 1000), (0, 1), (2, (Ad E 1)), (0, c), (2, (Ad E 65))]) (lo' := [(0, (2, (Ad E 1))), (1, (0, k)), (2, (0, c)), (3, (0, ch))]) rfl ?_
                refine r_callV gd hX hP rfl cv_12_461 hS (d' := 2) (mc' := 0) (ms' := 0) (as' := [(0, 1), (0, 1000)]) (st := [(0, c), (2, (Ad E 65))]) (by omega) (by omega) (by omega) rfl rfl (Nat.le_of_ble_eq_true rfl) (c_X12_countB E S (hv [80, 81, 82, 83, 84, 85, 86, 87] [] (up (hv [80, 81, 82, 83, 84, 85, 86, 87] [] G G132) 64 (Ad E 64) c z133) G166) 1 1000 hS bah167 bah167e (by omega) (by omega) (by omega) (by omega)) ?_
                rintro _ _ _ ⟨rfl, ⟨G172, rfl⟩, z173, rfl, bah174, bah174e, (⟨rfl, f175⟩ | ⟨f176, f177, f178, f179⟩)⟩
                · skip
                  refine r_peekI hX (tl1 80 rfl (by decide)) hS (fun o180 o180e o180a o180b => ?_)
                  obtain rfl : bah174 = o180 := bah174e.trans o180e.symm
                  refine r_ex hX hP 1 (pc' := 135) (st' := [(0, 0), (0, c), (2, (Ad E 65))]) (lo' := [(0, (2, (Ad E 1))), (1, (0, k)), (2, (0, c)), (3, (0, ch))]) rfl ?_
                  refine r_iastK hX hP rfl al_65 s1 (by omega) (by omega) (by omega) (by omega) (fun h181 => ?_)
                  refine r_ex hX hP 1 (pc' := 453) (st' := []) (lo' := [(0, (2, (Ad E 1))), (1, (0, k)), (2, (0, c)), (3, (0, ch))]) rfl ?_
                  exact r_retV hX hP rfl rfl (by omega) (by omega) ⟨rfl, ⟨_, (hq_up (hq_call (hq_call (hq_up (hq_call (hq_refl _ _ _) rfl) rfl) rfl) rfl) rfl).symm⟩, rfl, bah174, bah174e, z133, h163, 0, h181, (by omega), (fun i h0 hi hx => ⟨rfl, ((show (up (hv [80, 81, 82, 83, 84, 85, 86, 87] [] G G132) 64 (Ad E 64) c z133) 64 (Ad E 64) i = _ from up_ne (fun q => absurd q.2.2 (by omega))).trans rfl), ((show (up (hv [80, 81, 82, 83, 84, 85, 86, 87] [] (hv [80, 81, 82, 83, 84, 85, 86, 87] [] (up (hv [80, 81, 82, 83, 84, 85, 86, 87] [] G G132) 64 (Ad E 64) c z133) G166) G172) 65 (Ad E 65) c 0) 65 (Ad E 65) i = _ from up_ne (fun q => absurd q.2.2 (by omega))).trans rfl), rfl, rfl, rfl⟩)⟩
                · skip
                  refine r_peekI hX (tl1 80 rfl (by decide)) hS (fun o182 o182e o182a o182b => ?_)
                  obtain rfl : bah174 = o182 := bah174e.trans o182e.symm
                  refine r_ex hX hP 1 (pc' := 135) (st' := [(0, z173), (0, c), (2, (Ad E 65))]) (lo' := [(0, (2, (Ad E 1))), (1, (0, k)), (2, (0, c)), (3, (0, ch))]) rfl ?_
                  refine r_iastK hX hP rfl al_65 s1 (by omega) (by omega) (by omega) (by omega) (fun h183 => ?_)
                  refine r_ex hX hP 1 (pc' := 453) (st' := []) (lo' := [(0, (2, (Ad E 1))), (1, (0, k)), (2, (0, c)), (3, (0, ch))]) rfl ?_
                  exact r_retV hX hP rfl rfl (by omega) (by omega) ⟨rfl, ⟨_, (hq_up (hq_call (hq_call (hq_up (hq_call (hq_refl _ _ _) rfl) rfl) rfl) rfl) rfl).symm⟩, rfl, bah174, bah174e, z133, h163, z173, h183, (by omega), (fun i h0 hi hx => ⟨rfl, ((show (up (hv [80, 81, 82, 83, 84, 85, 86, 87] [] G G132) 64 (Ad E 64) c z133) 64 (Ad E 64) i = _ from up_ne (fun q => absurd q.2.2 (by omega))).trans rfl), ((show (up (hv [80, 81, 82, 83, 84, 85, 86, 87] [] (hv [80, 81, 82, 83, 84, 85, 86, 87] [] (up (hv [80, 81, 82, 83, 84, 85, 86, 87] [] G G132) 64 (Ad E 64) c z133) G166) G172) 65 (Ad E 65) c z173) 65 (Ad E 65) i = _ from up_ne (fun q => absurd q.2.2 (by omega))).trans rfl), rfl, rfl, rfl⟩)⟩
              · skip
                refine r_ex hX hP 1 (pc' := 121) (st' := [(0, 1000), (0, z133), (2, (Ad E 1)), (0, c), (2, (Ad E 65))]) (lo' := [(0, (2, (Ad E 1))), (1, (0, k)), (2, (0, c)), (3, (0, ch))]) rfl ?_
                refine r_callV gd hX hP rfl cv_12_461 hS (d' := 2) (mc' := 0) (ms' := 0) (as' := [(0, z133), (0, 1000)]) (st := [(0, c), (2, (Ad E 65))]) (by omega) (by omega) (by omega) rfl rfl (Nat.le_of_ble_eq_true rfl) (c_X12_countB E S (hv [80, 81, 82, 83, 84, 85, 86, 87] [] (up (hv [80, 81, 82, 83, 84, 85, 86, 87] [] G G132) 64 (Ad E 64) c z133) G166) z133 1000 hS bah167 bah167e (by omega) (by omega) (by omega) (by omega)) ?_
                rintro _ _ _ ⟨rfl, ⟨G184, rfl⟩, z185, rfl, bah186, bah186e, (⟨rfl, f187⟩ | ⟨f188, f189, f190, f191⟩)⟩
                · skip
                  refine r_peekI hX (tl1 80 rfl (by decide)) hS (fun o192 o192e o192a o192b => ?_)
                  obtain rfl : bah186 = o192 := bah186e.trans o192e.symm
                  refine r_ex hX hP 1 (pc' := 135) (st' := [(0, 0), (0, c), (2, (Ad E 65))]) (lo' := [(0, (2, (Ad E 1))), (1, (0, k)), (2, (0, c)), (3, (0, ch))]) rfl ?_
                  refine r_iastK hX hP rfl al_65 s1 (by omega) (by omega) (by omega) (by omega) (fun h193 => ?_)
                  refine r_ex hX hP 1 (pc' := 453) (st' := []) (lo' := [(0, (2, (Ad E 1))), (1, (0, k)), (2, (0, c)), (3, (0, ch))]) rfl ?_
                  exact r_retV hX hP rfl rfl (by omega) (by omega) ⟨rfl, ⟨_, (hq_up (hq_call (hq_call (hq_up (hq_call (hq_refl _ _ _) rfl) rfl) rfl) rfl) rfl).symm⟩, rfl, bah186, bah186e, z133, h163, 0, h193, (by omega), (fun i h0 hi hx => ⟨rfl, ((show (up (hv [80, 81, 82, 83, 84, 85, 86, 87] [] G G132) 64 (Ad E 64) c z133) 64 (Ad E 64) i = _ from up_ne (fun q => absurd q.2.2 (by omega))).trans rfl), ((show (up (hv [80, 81, 82, 83, 84, 85, 86, 87] [] (hv [80, 81, 82, 83, 84, 85, 86, 87] [] (up (hv [80, 81, 82, 83, 84, 85, 86, 87] [] G G132) 64 (Ad E 64) c z133) G166) G184) 65 (Ad E 65) c 0) 65 (Ad E 65) i = _ from up_ne (fun q => absurd q.2.2 (by omega))).trans rfl), rfl, rfl, rfl⟩)⟩
                · skip
                  refine r_peekI hX (tl1 80 rfl (by decide)) hS (fun o194 o194e o194a o194b => ?_)
                  obtain rfl : bah186 = o194 := bah186e.trans o194e.symm
                  refine r_ex hX hP 1 (pc' := 135) (st' := [(0, z185), (0, c), (2, (Ad E 65))]) (lo' := [(0, (2, (Ad E 1))), (1, (0, k)), (2, (0, c)), (3, (0, ch))]) rfl ?_
                  refine r_iastK hX hP rfl al_65 s1 (by omega) (by omega) (by omega) (by omega) (fun h195 => ?_)
                  refine r_ex hX hP 1 (pc' := 453) (st' := []) (lo' := [(0, (2, (Ad E 1))), (1, (0, k)), (2, (0, c)), (3, (0, ch))]) rfl ?_
                  exact r_retV hX hP rfl rfl (by omega) (by omega) ⟨rfl, ⟨_, (hq_up (hq_call (hq_call (hq_up (hq_call (hq_refl _ _ _) rfl) rfl) rfl) rfl) rfl).symm⟩, rfl, bah186, bah186e, z133, h163, z185, h195, (by omega), (fun i h0 hi hx => ⟨rfl, ((show (up (hv [80, 81, 82, 83, 84, 85, 86, 87] [] G G132) 64 (Ad E 64) c z133) 64 (Ad E 64) i = _ from up_ne (fun q => absurd q.2.2 (by omega))).trans rfl), ((show (up (hv [80, 81, 82, 83, 84, 85, 86, 87] [] (hv [80, 81, 82, 83, 84, 85, 86, 87] [] (up (hv [80, 81, 82, 83, 84, 85, 86, 87] [] G G132) 64 (Ad E 64) c z133) G166) G184) 65 (Ad E 65) c z185) 65 (Ad E 65) i = _ from up_ne (fun q => absurd q.2.2 (by omega))).trans rfl), rfl, rfl, rfl⟩)⟩
          · skip
            exfalso; omega
    · skip
      refine r_ex hX hP 2 (pc' := 11) (st' := [(0, 2), (0, k)]) (lo' := [(0, (2, (Ad E 1))), (1, (0, k)), (2, (0, c)), (3, (0, ch))]) rfl ?_
      refine r_ic_eq hX hP rfl (tgt := 19) rfl (by omega) (by omega) (by omega) (by omega) (fun c196 => ?_) (fun c196 => ?_)
      · skip
        refine r_ex hX hP 1 (pc' := 20) (st' := [(2, (Ad E 1))]) (lo' := [(0, (2, (Ad E 1))), (1, (0, k)), (2, (0, c)), (3, (0, ch))]) rfl ?_
        refine r_getC hX hP rfl fl_12_217 hS (fun s197 => ?_)
        refine r_ex hX hP 3 (pc' := 26) (st' := [(0, 2), (0, k), (0, c), (2, (Ad E 64))]) (lo' := [(0, (2, (Ad E 1))), (1, (0, k)), (2, (0, c)), (3, (0, ch))]) rfl ?_
        refine r_ic_ge hX hP rfl (tgt := 40) rfl (by omega) (by omega) (by omega) (by omega) (fun c198 => ?_) (fun c198 => ?_)
        · skip
          refine r_ex hX hP 2 (pc' := 42) (st' := [(0, 0), (2, (Ad E 1)), (0, c), (2, (Ad E 64))]) (lo' := [(0, (2, (Ad E 1))), (1, (0, k)), (2, (0, c)), (3, (0, ch))]) rfl ?_
          refine r_ldcw hX hP rfl (v := 9999999) (tbg sg9 186 rfl rfl) ?_
          refine r_peekI hX (tl1 80 rfl (by decide)) hS (fun bap199 bap199e bap199a bap199b => ?_)
          refine r_callV gd hX hP rfl cv_12_461 hS (d' := 2) (mc' := 0) (ms' := 0) (as' := [(0, 0), (0, 9999999)]) (st := [(0, c), (2, (Ad E 64))]) (by omega) (by omega) (by omega) rfl rfl (Nat.le_of_ble_eq_true rfl) (c_X12_countB E S G 0 9999999 hS bap199 bap199e (by omega) (by omega) (by omega) (by omega)) ?_
          rintro _ _ _ ⟨rfl, ⟨G200, rfl⟩, z201, rfl, bah202, bah202e, (⟨rfl, f203⟩ | ⟨f204, f205, f206, f207⟩)⟩
          · skip
            refine r_peekI hX (tl1 80 rfl (by decide)) hS (fun o208 o208e o208a o208b => ?_)
            obtain rfl : bah202 = o208 := bah202e.trans o208e.symm
            refine r_iastK hX hP rfl al_64 s197 (by omega) (by omega) (by omega) (by omega) (fun h209 => ?_)
            refine r_ex hX hP 1 (pc' := 50) (st' := [(0, k)]) (lo' := [(0, (2, (Ad E 1))), (1, (0, k)), (2, (0, c)), (3, (0, ch))]) rfl ?_
            refine r_if_ne hX hP rfl (tgt := 81) rfl (by omega) (by omega) (fun c210 => ?_) (fun c210 => ?_)
            · skip
              refine r_ex hX hP 7 (pc' := 91) (st' := [(0, 0), (0, 0), (0, 0), (0, 114), (0, 111), (0, 102), (2, (Ad E 1))]) (lo' := [(0, (2, (Ad E 1))), (1, (0, k)), (2, (0, c)), (3, (0, ch))]) rfl ?_
              refine r_callS gd hX hP rfl cs_12_405 (d' := 0) (mc' := 0) (ms' := 0) (as' := [(0, 102), (0, 111), (0, 114), (0, 0), (0, 0), (0, 0)]) (st := [(2, (Ad E 1))]) (by omega) (by omega) (by omega) rfl rfl (Nat.le_of_ble_eq_true rfl) (c_X12_spelled E S (up (hv [80, 81, 82, 83, 84, 85, 86, 87] [] G G200) 64 (Ad E 64) c 0) 102 111 114 0 0 0 (by omega) (by omega) (by omega) (by omega) (by omega) (by omega) (by omega) (by omega) (by omega) (by omega) (by omega) (by omega)) ?_
              rintro _ _ _ ⟨rfl, rfl, z211, rfl, z211a, z211b⟩
              refine r_callV gd hX hP rfl cv_12_466 hS (d' := 2) (mc' := 0) (ms' := 0) (as' := [(1, z211)]) (st := []) (by omega) (by omega) (by omega) rfl rfl (Nat.le_of_ble_eq_true rfl) (c_X12_wordIsB E S (up (hv [80, 81, 82, 83, 84, 85, 86, 87] [] G G200) 64 (Ad E 64) c 0) z211 hS bah202 bah202e (by omega) (by omega)) ?_
              rintro _ _ _ ⟨rfl, ⟨G212, rfl⟩, rfl, bah213, bah213e, f214⟩
              refine r_peekI hX (tl1 80 rfl (by decide)) hS (fun o215 o215e o215a o215b => ?_)
              obtain rfl : bah213 = o215 := bah213e.trans o215e.symm
              refine r_ex hX hP 1 (pc' := 98) (st' := [(2, (Ad E 1))]) (lo' := [(0, (2, (Ad E 1))), (1, (0, k)), (2, (0, c)), (3, (0, ch))]) rfl ?_
              refine r_getC hX hP rfl fl_12_220 hS (fun _ => ?_)
              refine r_ex hX hP 3 (pc' := 104) (st' := [(0, 1), (0, k), (0, c), (2, (Ad E 65))]) (lo' := [(0, (2, (Ad E 1))), (1, (0, k)), (2, (0, c)), (3, (0, ch))]) rfl ?_
              refine r_ic_ne hX hP rfl (tgt := 127) rfl (by omega) (by omega) (by omega) (by omega) (fun c216 => ?_) (fun c216 => ?_)
              · skip
                refine r_ex hX hP 3 (pc' := 132) (st' := [(0, 1000), (0, 1), (2, (Ad E 1)), (0, c), (2, (Ad E 65))]) (lo' := [(0, (2, (Ad E 1))), (1, (0, k)), (2, (0, c)), (3, (0, ch))]) rfl ?_
                refine r_callV gd hX hP rfl cv_12_461 hS (d' := 2) (mc' := 0) (ms' := 0) (as' := [(0, 1), (0, 1000)]) (st := [(0, c), (2, (Ad E 65))]) (by omega) (by omega) (by omega) rfl rfl (Nat.le_of_ble_eq_true rfl) (c_X12_countB E S (hv [80, 81, 82, 83, 84, 85, 86, 87] [] (up (hv [80, 81, 82, 83, 84, 85, 86, 87] [] G G200) 64 (Ad E 64) c 0) G212) 1 1000 hS bah213 bah213e (by omega) (by omega) (by omega) (by omega)) ?_
                rintro _ _ _ ⟨rfl, ⟨G217, rfl⟩, z218, rfl, bah219, bah219e, (⟨rfl, f220⟩ | ⟨f221, f222, f223, f224⟩)⟩
                · skip
                  refine r_peekI hX (tl1 80 rfl (by decide)) hS (fun o225 o225e o225a o225b => ?_)
                  obtain rfl : bah219 = o225 := bah219e.trans o225e.symm
                  refine r_iastK hX hP rfl al_65 s1 (by omega) (by omega) (by omega) (by omega) (fun h226 => ?_)
                  refine r_ex hX hP 1 (pc' := 453) (st' := []) (lo' := [(0, (2, (Ad E 1))), (1, (0, k)), (2, (0, c)), (3, (0, ch))]) rfl ?_
                  exact r_retV hX hP rfl rfl (by omega) (by omega) ⟨rfl, ⟨_, (hq_up (hq_call (hq_call (hq_up (hq_call (hq_refl _ _ _) rfl) rfl) rfl) rfl) rfl).symm⟩, rfl, bah219, bah219e, 0, h209, 0, h226, (by omega), (fun i h0 hi hx => ⟨rfl, ((show (up (hv [80, 81, 82, 83, 84, 85, 86, 87] [] G G200) 64 (Ad E 64) c 0) 64 (Ad E 64) i = _ from up_ne (fun q => absurd q.2.2 (by omega))).trans rfl), ((show (up (hv [80, 81, 82, 83, 84, 85, 86, 87] [] (hv [80, 81, 82, 83, 84, 85, 86, 87] [] (up (hv [80, 81, 82, 83, 84, 85, 86, 87] [] G G200) 64 (Ad E 64) c 0) G212) G217) 65 (Ad E 65) c 0) 65 (Ad E 65) i = _ from up_ne (fun q => absurd q.2.2 (by omega))).trans rfl), rfl, rfl, rfl⟩)⟩
                · skip
                  refine r_peekI hX (tl1 80 rfl (by decide)) hS (fun o227 o227e o227a o227b => ?_)
                  obtain rfl : bah219 = o227 := bah219e.trans o227e.symm
                  refine r_iastK hX hP rfl al_65 s1 (by omega) (by omega) (by omega) (by omega) (fun h228 => ?_)
                  refine r_ex hX hP 1 (pc' := 453) (st' := []) (lo' := [(0, (2, (Ad E 1))), (1, (0, k)), (2, (0, c)), (3, (0, ch))]) rfl ?_
                  exact r_retV hX hP rfl rfl (by omega) (by omega) ⟨rfl, ⟨_, (hq_up (hq_call (hq_call (hq_up (hq_call (hq_refl _ _ _) rfl) rfl) rfl) rfl) rfl).symm⟩, rfl, bah219, bah219e, 0, h209, z218, h228, (by omega), (fun i h0 hi hx => ⟨rfl, ((show (up (hv [80, 81, 82, 83, 84, 85, 86, 87] [] G G200) 64 (Ad E 64) c 0) 64 (Ad E 64) i = _ from up_ne (fun q => absurd q.2.2 (by omega))).trans rfl), ((show (up (hv [80, 81, 82, 83, 84, 85, 86, 87] [] (hv [80, 81, 82, 83, 84, 85, 86, 87] [] (up (hv [80, 81, 82, 83, 84, 85, 86, 87] [] G G200) 64 (Ad E 64) c 0) G212) G217) 65 (Ad E 65) c z218) 65 (Ad E 65) i = _ from up_ne (fun q => absurd q.2.2 (by omega))).trans rfl), rfl, rfl, rfl⟩)⟩
              · skip
                exfalso; omega
            · skip
              exfalso; omega
          · skip
            refine r_peekI hX (tl1 80 rfl (by decide)) hS (fun o229 o229e o229a o229b => ?_)
            obtain rfl : bah202 = o229 := bah202e.trans o229e.symm
            refine r_iastK hX hP rfl al_64 s197 (by omega) (by omega) (by omega) (by omega) (fun h230 => ?_)
            refine r_ex hX hP 1 (pc' := 50) (st' := [(0, k)]) (lo' := [(0, (2, (Ad E 1))), (1, (0, k)), (2, (0, c)), (3, (0, ch))]) rfl ?_
            refine r_if_ne hX hP rfl (tgt := 81) rfl (by omega) (by omega) (fun c231 => ?_) (fun c231 => ?_)
            · skip
              refine r_ex hX hP 7 (pc' := 91) (st' := [(0, 0), (0, 0), (0, 0), (0, 114), (0, 111), (0, 102), (2, (Ad E 1))]) (lo' := [(0, (2, (Ad E 1))), (1, (0, k)), (2, (0, c)), (3, (0, ch))]) rfl ?_
              refine r_callS gd hX hP rfl cs_12_405 (d' := 0) (mc' := 0) (ms' := 0) (as' := [(0, 102), (0, 111), (0, 114), (0, 0), (0, 0), (0, 0)]) (st := [(2, (Ad E 1))]) (by omega) (by omega) (by omega) rfl rfl (Nat.le_of_ble_eq_true rfl) (c_X12_spelled E S (up (hv [80, 81, 82, 83, 84, 85, 86, 87] [] G G200) 64 (Ad E 64) c z201) 102 111 114 0 0 0 (by omega) (by omega) (by omega) (by omega) (by omega) (by omega) (by omega) (by omega) (by omega) (by omega) (by omega) (by omega)) ?_
              rintro _ _ _ ⟨rfl, rfl, z232, rfl, z232a, z232b⟩
              refine r_callV gd hX hP rfl cv_12_466 hS (d' := 2) (mc' := 0) (ms' := 0) (as' := [(1, z232)]) (st := []) (by omega) (by omega) (by omega) rfl rfl (Nat.le_of_ble_eq_true rfl) (c_X12_wordIsB E S (up (hv [80, 81, 82, 83, 84, 85, 86, 87] [] G G200) 64 (Ad E 64) c z201) z232 hS bah202 bah202e (by omega) (by omega)) ?_
              rintro _ _ _ ⟨rfl, ⟨G233, rfl⟩, rfl, bah234, bah234e, f235⟩
              refine r_peekI hX (tl1 80 rfl (by decide)) hS (fun o236 o236e o236a o236b => ?_)
              obtain rfl : bah234 = o236 := bah234e.trans o236e.symm
              refine r_ex hX hP 1 (pc' := 98) (st' := [(2, (Ad E 1))]) (lo' := [(0, (2, (Ad E 1))), (1, (0, k)), (2, (0, c)), (3, (0, ch))]) rfl ?_
              refine r_getC hX hP rfl fl_12_220 hS (fun _ => ?_)
              refine r_ex hX hP 3 (pc' := 104) (st' := [(0, 1), (0, k), (0, c), (2, (Ad E 65))]) (lo' := [(0, (2, (Ad E 1))), (1, (0, k)), (2, (0, c)), (3, (0, ch))]) rfl ?_
              refine r_ic_ne hX hP rfl (tgt := 127) rfl (by omega) (by omega) (by omega) (by omega) (fun c237 => ?_) (fun c237 => ?_)
              · skip
                refine r_ex hX hP 3 (pc' := 132) (st' := [(0, 1000), (0, 1), (2, (Ad E 1)), (0, c), (2, (Ad E 65))]) (lo' := [(0, (2, (Ad E 1))), (1, (0, k)), (2, (0, c)), (3, (0, ch))]) rfl ?_
                refine r_callV gd hX hP rfl cv_12_461 hS (d' := 2) (mc' := 0) (ms' := 0) (as' := [(0, 1), (0, 1000)]) (st := [(0, c), (2, (Ad E 65))]) (by omega) (by omega) (by omega) rfl rfl (Nat.le_of_ble_eq_true rfl) (c_X12_countB E S (hv [80, 81, 82, 83, 84, 85, 86, 87] [] (up (hv [80, 81, 82, 83, 84, 85, 86, 87] [] G G200) 64 (Ad E 64) c z201) G233) 1 1000 hS bah234 bah234e (by omega) (by omega) (by omega) (by omega)) ?_
                rintro _ _ _ ⟨rfl, ⟨G238, rfl⟩, z239, rfl, bah240, bah240e, (⟨rfl, f241⟩ | ⟨f242, f243, f244, f245⟩)⟩
                · skip
                  refine r_peekI hX (tl1 80 rfl (by decide)) hS (fun o246 o246e o246a o246b => ?_)
                  obtain rfl : bah240 = o246 := bah240e.trans o246e.symm
                  refine r_iastK hX hP rfl al_65 s1 (by omega) (by omega) (by omega) (by omega) (fun h247 => ?_)
                  refine r_ex hX hP 1 (pc' := 453) (st' := []) (lo' := [(0, (2, (Ad E 1))), (1, (0, k)), (2, (0, c)), (3, (0, ch))]) rfl ?_
                  exact r_retV hX hP rfl rfl (by omega) (by omega) ⟨rfl, ⟨_, (hq_up (hq_call (hq_call (hq_up (hq_call (hq_refl _ _ _) rfl) rfl) rfl) rfl) rfl).symm⟩, rfl, bah240, bah240e, z201, h230, 0, h247, (by omega), (fun i h0 hi hx => ⟨rfl, ((show (up (hv [80, 81, 82, 83, 84, 85, 86, 87] [] G G200) 64 (Ad E 64) c z201) 64 (Ad E 64) i = _ from up_ne (fun q => absurd q.2.2 (by omega))).trans rfl), ((show (up (hv [80, 81, 82, 83, 84, 85, 86, 87] [] (hv [80, 81, 82, 83, 84, 85, 86, 87] [] (up (hv [80, 81, 82, 83, 84, 85, 86, 87] [] G G200) 64 (Ad E 64) c z201) G233) G238) 65 (Ad E 65) c 0) 65 (Ad E 65) i = _ from up_ne (fun q => absurd q.2.2 (by omega))).trans rfl), rfl, rfl, rfl⟩)⟩
                · skip
                  refine r_peekI hX (tl1 80 rfl (by decide)) hS (fun o248 o248e o248a o248b => ?_)
                  obtain rfl : bah240 = o248 := bah240e.trans o248e.symm
                  refine r_iastK hX hP rfl al_65 s1 (by omega) (by omega) (by omega) (by omega) (fun h249 => ?_)
                  refine r_ex hX hP 1 (pc' := 453) (st' := []) (lo' := [(0, (2, (Ad E 1))), (1, (0, k)), (2, (0, c)), (3, (0, ch))]) rfl ?_
                  exact r_retV hX hP rfl rfl (by omega) (by omega) ⟨rfl, ⟨_, (hq_up (hq_call (hq_call (hq_up (hq_call (hq_refl _ _ _) rfl) rfl) rfl) rfl) rfl).symm⟩, rfl, bah240, bah240e, z201, h230, z239, h249, (by omega), (fun i h0 hi hx => ⟨rfl, ((show (up (hv [80, 81, 82, 83, 84, 85, 86, 87] [] G G200) 64 (Ad E 64) c z201) 64 (Ad E 64) i = _ from up_ne (fun q => absurd q.2.2 (by omega))).trans rfl), ((show (up (hv [80, 81, 82, 83, 84, 85, 86, 87] [] (hv [80, 81, 82, 83, 84, 85, 86, 87] [] (up (hv [80, 81, 82, 83, 84, 85, 86, 87] [] G G200) 64 (Ad E 64) c z201) G233) G238) 65 (Ad E 65) c z239) 65 (Ad E 65) i = _ from up_ne (fun q => absurd q.2.2 (by omega))).trans rfl), rfl, rfl, rfl⟩)⟩
              · skip
                exfalso; omega
            · skip
              exfalso; omega
        · skip
          exfalso; omega
      · skip
        refine r_ex hX hP 2 (pc' := 16) (st' := [(0, 3), (0, k)]) (lo' := [(0, (2, (Ad E 1))), (1, (0, k)), (2, (0, c)), (3, (0, ch))]) rfl ?_
        refine r_ic_ne hX hP rfl (tgt := 139) rfl (by omega) (by omega) (by omega) (by omega) (fun c250 => ?_) (fun c250 => ?_)
        · skip
          refine r_ex hX hP 2 (pc' := 141) (st' := [(0, 4), (0, k)]) (lo' := [(0, (2, (Ad E 1))), (1, (0, k)), (2, (0, c)), (3, (0, ch))]) rfl ?_
          refine r_ic_ne hX hP rfl (tgt := 189) rfl (by omega) (by omega) (by omega) (by omega) (fun c251 => ?_) (fun c251 => ?_)
          · skip
            refine r_ex hX hP 2 (pc' := 191) (st' := [(0, 5), (0, k)]) (lo' := [(0, (2, (Ad E 1))), (1, (0, k)), (2, (0, c)), (3, (0, ch))]) rfl ?_
            refine r_ic_ne hX hP rfl (tgt := 325) rfl (by omega) (by omega) (by omega) (by omega) (fun c252 => ?_) (fun c252 => ?_)
            · skip
              refine r_ex hX hP 2 (pc' := 328) (st' := [(0, 8), (0, k)]) (lo' := [(0, (2, (Ad E 1))), (1, (0, k)), (2, (0, c)), (3, (0, ch))]) rfl ?_
              refine r_ic_ne hX hP rfl (tgt := 373) rfl (by omega) (by omega) (by omega) (by omega) (fun c253 => ?_) (fun c253 => ?_)
              · skip
                refine r_ex hX hP 1 (pc' := 374) (st' := [(2, (Ad E 1))]) (lo' := [(0, (2, (Ad E 1))), (1, (0, k)), (2, (0, c)), (3, (0, ch))]) rfl ?_
                refine r_getC hX hP rfl fl_12_235 hS (fun s254 => ?_)
                refine r_ex hX hP 3 (pc' := 380) (st' := [(0, 0), (2, (Ad E 1)), (0, ch), (2, (Ad E 70))]) (lo' := [(0, (2, (Ad E 1))), (1, (0, k)), (2, (0, c)), (3, (0, ch))]) rfl ?_
                refine r_ldcw hX hP rfl (v := 9999999) (tbg sg9 186 rfl rfl) ?_
                refine r_peekI hX (tl1 80 rfl (by decide)) hS (fun bap255 bap255e bap255a bap255b => ?_)
                refine r_callV gd hX hP rfl cv_12_461 hS (d' := 2) (mc' := 0) (ms' := 0) (as' := [(0, 0), (0, 9999999)]) (st := [(0, ch), (2, (Ad E 70))]) (by omega) (by omega) (by omega) rfl rfl (Nat.le_of_ble_eq_true rfl) (c_X12_countB E S G 0 9999999 hS bap255 bap255e (by omega) (by omega) (by omega) (by omega)) ?_
                rintro _ _ _ ⟨rfl, ⟨G256, rfl⟩, z257, rfl, bah258, bah258e, (⟨rfl, f259⟩ | ⟨f260, f261, f262, f263⟩)⟩
                · skip
                  refine r_peekI hX (tl1 80 rfl (by decide)) hS (fun o264 o264e o264a o264b => ?_)
                  obtain rfl : bah258 = o264 := bah258e.trans o264e.symm
                  refine r_iastK hX hP rfl al_70 s254 (by omega) (by omega) (by omega) (by omega) (fun h265 => ?_)
                  refine r_ex hX hP 1 (pc' := 388) (st' := [(2, (Ad E 1))]) (lo' := [(0, (2, (Ad E 1))), (1, (0, k)), (2, (0, c)), (3, (0, ch))]) rfl ?_
                  refine r_getKI hX hP rfl fl_12_382 hS (x := bah258) bah258e ?_
                  refine r_if_ne hX hP rfl (tgt := 421) rfl (by omega) (by omega) (fun c266 => ?_) (fun c266 => ?_)
                  · skip
                    refine r_ex hX hP 7 (pc' := 433) (st' := [(0, 0), (0, 108), (0, 108), (0, 97), (0, 109), (0, 115), (2, (Ad E 1))]) (lo' := [(0, (2, (Ad E 1))), (1, (0, k)), (2, (0, c)), (3, (0, ch))]) rfl ?_
                    refine r_callS gd hX hP rfl cs_12_405 (d' := 0) (mc' := 0) (ms' := 0) (as' := [(0, 115), (0, 109), (0, 97), (0, 108), (0, 108), (0, 0)]) (st := [(2, (Ad E 1))]) (by omega) (by omega) (by omega) rfl rfl (Nat.le_of_ble_eq_true rfl) (c_X12_spelled E S (up (hv [80, 81, 82, 83, 84, 85, 86, 87] [] G G256) 70 (Ad E 70) ch 0) 115 109 97 108 108 0 (by omega) (by omega) (by omega) (by omega) (by omega) (by omega) (by omega) (by omega) (by omega) (by omega) (by omega) (by omega)) ?_
                    rintro _ _ _ ⟨rfl, rfl, z267, rfl, z267a, z267b⟩
                    refine r_callV gd hX hP rfl cv_12_466 hS (d' := 2) (mc' := 0) (ms' := 0) (as' := [(1, z267)]) (st := []) (by omega) (by omega) (by omega) rfl rfl (Nat.le_of_ble_eq_true rfl) (c_X12_wordIsB E S (up (hv [80, 81, 82, 83, 84, 85, 86, 87] [] G G256) 70 (Ad E 70) ch 0) z267 hS bah258 bah258e (by omega) (by omega)) ?_
                    rintro _ _ _ ⟨rfl, ⟨G268, rfl⟩, rfl, bah269, bah269e, f270⟩
                    refine r_peekI hX (tl1 80 rfl (by decide)) hS (fun o271 o271e o271a o271b => ?_)
                    obtain rfl : bah269 = o271 := bah269e.trans o271e.symm
                    refine r_ex hX hP 1 (pc' := 440) (st' := [(2, (Ad E 1))]) (lo' := [(0, (2, (Ad E 1))), (1, (0, k)), (2, (0, c)), (3, (0, ch))]) rfl ?_
                    refine r_getC hX hP rfl fl_12_238 hS (fun s272 => ?_)
                    refine r_ex hX hP 3 (pc' := 446) (st' := [(0, 0), (2, (Ad E 1)), (0, ch), (2, (Ad E 71))]) (lo' := [(0, (2, (Ad E 1))), (1, (0, k)), (2, (0, c)), (3, (0, ch))]) rfl ?_
                    refine r_ldcw hX hP rfl (v := 9999999) (tbg sg9 186 rfl rfl) ?_
                    refine r_callV gd hX hP rfl cv_12_461 hS (d' := 2) (mc' := 0) (ms' := 0) (as' := [(0, 0), (0, 9999999)]) (st := [(0, ch), (2, (Ad E 71))]) (by omega) (by omega) (by omega) rfl rfl (Nat.le_of_ble_eq_true rfl) (c_X12_countB E S (hv [80, 81, 82, 83, 84, 85, 86, 87] [] (up (hv [80, 81, 82, 83, 84, 85, 86, 87] [] G G256) 70 (Ad E 70) ch 0) G268) 0 9999999 hS bah269 bah269e (by omega) (by omega) (by omega) (by omega)) ?_
                    rintro _ _ _ ⟨rfl, ⟨G273, rfl⟩, z274, rfl, bah275, bah275e, (⟨rfl, f276⟩ | ⟨f277, f278, f279, f280⟩)⟩
                    · skip
                      refine r_peekI hX (tl1 80 rfl (by decide)) hS (fun o281 o281e o281a o281b => ?_)
                      obtain rfl : bah275 = o281 := bah275e.trans o281e.symm
                      refine r_iastK hX hP rfl al_71 s272 (by omega) (by omega) (by omega) (by omega) (fun h282 => ?_)
                      refine r_labC hX (tl1 95 rfl (by decide)) hS (fun s283 => ?_)
                      refine r_apeekI hX al_64 s283 (i := c) (by omega) (by omega) (fun nek284 nek284e nek284a nek284b => ?_)
                      exact r_retV hX hP rfl rfl (by omega) (by omega) ⟨rfl, ⟨_, (hq_up (hq_call (hq_call (hq_up (hq_call (hq_refl _ _ _) rfl) rfl) rfl) rfl) rfl).symm⟩, rfl, bah275, bah275e, nek284, nek284e, two_c, two_c_e, (by omega), (fun i h0 hi hx => ⟨rfl, rfl, rfl, rfl, rfl, rfl⟩)⟩
                    · skip
                      refine r_peekI hX (tl1 80 rfl (by decide)) hS (fun o285 o285e o285a o285b => ?_)
                      obtain rfl : bah275 = o285 := bah275e.trans o285e.symm
                      refine r_iastK hX hP rfl al_71 s272 (by omega) (by omega) (by omega) (by omega) (fun h286 => ?_)
                      refine r_labC hX (tl1 95 rfl (by decide)) hS (fun s287 => ?_)
                      refine r_apeekI hX al_64 s287 (i := c) (by omega) (by omega) (fun nek288 nek288e nek288a nek288b => ?_)
                      exact r_retV hX hP rfl rfl (by omega) (by omega) ⟨rfl, ⟨_, (hq_up (hq_call (hq_call (hq_up (hq_call (hq_refl _ _ _) rfl) rfl) rfl) rfl) rfl).symm⟩, rfl, bah275, bah275e, nek288, nek288e, two_c, two_c_e, (by omega), (fun i h0 hi hx => ⟨rfl, rfl, rfl, rfl, rfl, rfl⟩)⟩
                  · skip
                    exfalso; omega
                · skip
                  refine r_peekI hX (tl1 80 rfl (by decide)) hS (fun o289 o289e o289a o289b => ?_)
                  obtain rfl : bah258 = o289 := bah258e.trans o289e.symm
                  refine r_iastK hX hP rfl al_70 s254 (by omega) (by omega) (by omega) (by omega) (fun h290 => ?_)
                  refine r_ex hX hP 1 (pc' := 388) (st' := [(2, (Ad E 1))]) (lo' := [(0, (2, (Ad E 1))), (1, (0, k)), (2, (0, c)), (3, (0, ch))]) rfl ?_
                  refine r_getKI hX hP rfl fl_12_382 hS (x := bah258) bah258e ?_
                  refine r_if_ne hX hP rfl (tgt := 421) rfl (by omega) (by omega) (fun c291 => ?_) (fun c291 => ?_)
                  · skip
                    exfalso; omega
                  · skip
                    refine r_ex hX hP 7 (pc' := 405) (st' := [(0, 0), (0, 0), (0, 97), (0, 116), (0, 97), (0, 114), (2, (Ad E 1))]) (lo' := [(0, (2, (Ad E 1))), (1, (0, k)), (2, (0, c)), (3, (0, ch))]) rfl ?_
                    refine r_callS gd hX hP rfl cs_12_405 (d' := 0) (mc' := 0) (ms' := 0) (as' := [(0, 114), (0, 97), (0, 116), (0, 97), (0, 0), (0, 0)]) (st := [(2, (Ad E 1))]) (by omega) (by omega) (by omega) rfl rfl (Nat.le_of_ble_eq_true rfl) (c_X12_spelled E S (up (hv [80, 81, 82, 83, 84, 85, 86, 87] [] G G256) 70 (Ad E 70) ch z257) 114 97 116 97 0 0 (by omega) (by omega) (by omega) (by omega) (by omega) (by omega) (by omega) (by omega) (by omega) (by omega) (by omega) (by omega)) ?_
                    rintro _ _ _ ⟨rfl, rfl, z292, rfl, z292a, z292b⟩
                    refine r_callV gd hX hP rfl cv_12_401 hS (d' := 0) (mc' := 0) (ms' := 0) (as' := [(1, z292)]) (st := []) (by omega) (by omega) (by omega) rfl rfl (Nat.le_of_ble_eq_true rfl) (c_X12_isWord E S (up (hv [80, 81, 82, 83, 84, 85, 86, 87] [] G G256) 70 (Ad E 70) ch z257) z292 hS (by omega) (by omega)) ?_
                    rintro _ _ _ ⟨rfl, rfl, z293, rfl, z293a, z293b⟩
                    refine r_if_eq hX hP rfl (tgt := 421) rfl (by omega) (by omega) (fun c294 => ?_) (fun c294 => ?_)
                    · skip
                      refine r_ex hX hP 7 (pc' := 433) (st' := [(0, 0), (0, 108), (0, 108), (0, 97), (0, 109), (0, 115), (2, (Ad E 1))]) (lo' := [(0, (2, (Ad E 1))), (1, (0, k)), (2, (0, c)), (3, (0, ch))]) rfl ?_
                      refine r_callS gd hX hP rfl cs_12_405 (d' := 0) (mc' := 0) (ms' := 0) (as' := [(0, 115), (0, 109), (0, 97), (0, 108), (0, 108), (0, 0)]) (st := [(2, (Ad E 1))]) (by omega) (by omega) (by omega) rfl rfl (Nat.le_of_ble_eq_true rfl) (c_X12_spelled E S (up (hv [80, 81, 82, 83, 84, 85, 86, 87] [] G G256) 70 (Ad E 70) ch z257) 115 109 97 108 108 0 (by omega) (by omega) (by omega) (by omega) (by omega) (by omega) (by omega) (by omega) (by omega) (by omega) (by omega) (by omega)) ?_
                      rintro _ _ _ ⟨rfl, rfl, z295, rfl, z295a, z295b⟩
                      refine r_callV gd hX hP rfl cv_12_466 hS (d' := 2) (mc' := 0) (ms' := 0) (as' := [(1, z295)]) (st := []) (by omega) (by omega) (by omega) rfl rfl (Nat.le_of_ble_eq_true rfl) (c_X12_wordIsB E S (up (hv [80, 81, 82, 83, 84, 85, 86, 87] [] G G256) 70 (Ad E 70) ch z257) z295 hS bah258 bah258e (by omega) (by omega)) ?_
                      rintro _ _ _ ⟨rfl, ⟨G296, rfl⟩, rfl, bah297, bah297e, f298⟩
                      refine r_peekI hX (tl1 80 rfl (by decide)) hS (fun o299 o299e o299a o299b => ?_)
                      obtain rfl : bah297 = o299 := bah297e.trans o299e.symm
                      refine r_ex hX hP 1 (pc' := 440) (st' := [(2, (Ad E 1))]) (lo' := [(0, (2, (Ad E 1))), (1, (0, k)), (2, (0, c)), (3, (0, ch))]) rfl ?_
                      refine r_getC hX hP rfl fl_12_238 hS (fun s300 => ?_)
                      refine r_ex hX hP 3 (pc' := 446) (st' := [(0, 0), (2, (Ad E 1)), (0, ch), (2, (Ad E 71))]) (lo' := [(0, (2, (Ad E 1))), (1, (0, k)), (2, (0, c)), (3, (0, ch))]) rfl ?_
                      refine r_ldcw hX hP rfl (v := 9999999) (tbg sg9 186 rfl rfl) ?_
                      refine r_callV gd hX hP rfl cv_12_461 hS (d' := 2) (mc' := 0) (ms' := 0) (as' := [(0, 0), (0, 9999999)]) (st := [(0, ch), (2, (Ad E 71))]) (by omega) (by omega) (by omega) rfl rfl (Nat.le_of_ble_eq_true rfl) (c_X12_countB E S (hv [80, 81, 82, 83, 84, 85, 86, 87] [] (up (hv [80, 81, 82, 83, 84, 85, 86, 87] [] G G256) 70 (Ad E 70) ch z257) G296) 0 9999999 hS bah297 bah297e (by omega) (by omega) (by omega) (by omega)) ?_
                      rintro _ _ _ ⟨rfl, ⟨G301, rfl⟩, z302, rfl, bah303, bah303e, (⟨rfl, f304⟩ | ⟨f305, f306, f307, f308⟩)⟩
                      · skip
                        refine r_peekI hX (tl1 80 rfl (by decide)) hS (fun o309 o309e o309a o309b => ?_)
                        obtain rfl : bah303 = o309 := bah303e.trans o309e.symm
                        refine r_iastK hX hP rfl al_71 s300 (by omega) (by omega) (by omega) (by omega) (fun h310 => ?_)
                        refine r_labC hX (tl1 95 rfl (by decide)) hS (fun s311 => ?_)
                        refine r_apeekI hX al_64 s311 (i := c) (by omega) (by omega) (fun nek312 nek312e nek312a nek312b => ?_)
                        exact r_retV hX hP rfl rfl (by omega) (by omega) ⟨rfl, ⟨_, (hq_up (hq_call (hq_call (hq_up (hq_call (hq_refl _ _ _) rfl) rfl) rfl) rfl) rfl).symm⟩, rfl, bah303, bah303e, nek312, nek312e, two_c, two_c_e, (by omega), (fun i h0 hi hx => ⟨rfl, rfl, rfl, rfl, rfl, rfl⟩)⟩
                      · skip
                        refine r_peekI hX (tl1 80 rfl (by decide)) hS (fun o313 o313e o313a o313b => ?_)
                        obtain rfl : bah303 = o313 := bah303e.trans o313e.symm
                        refine r_iastK hX hP rfl al_71 s300 (by omega) (by omega) (by omega) (by omega) (fun h314 => ?_)
                        refine r_labC hX (tl1 95 rfl (by decide)) hS (fun s315 => ?_)
                        refine r_apeekI hX al_64 s315 (i := c) (by omega) (by omega) (fun nek316 nek316e nek316a nek316b => ?_)
                        exact r_retV hX hP rfl rfl (by omega) (by omega) ⟨rfl, ⟨_, (hq_up (hq_call (hq_call (hq_up (hq_call (hq_refl _ _ _) rfl) rfl) rfl) rfl) rfl).symm⟩, rfl, bah303, bah303e, nek316, nek316e, two_c, two_c_e, (by omega), (fun i h0 hi hx => ⟨rfl, rfl, rfl, rfl, rfl, rfl⟩)⟩
                    · skip
                      refine r_ex hX hP 1 (pc' := 415) (st' := [(2, (Ad E 1))]) (lo' := [(0, (2, (Ad E 1))), (1, (0, k)), (2, (0, c)), (3, (0, ch))]) rfl ?_
                      refine r_callV gd hX hP rfl cv_12_398 hS (d' := 1) (mc' := 0) (ms' := 0) (as' := []) (st := []) (by omega) (by omega) (by omega) rfl rfl (Nat.le_of_ble_eq_true rfl) (c_X12_next E S (up (hv [80, 81, 82, 83, 84, 85, 86, 87] [] G G256) 70 (Ad E 70) ch z257)  hS) ?_
                      rintro _ _ _ ⟨rfl, ⟨G317, rfl⟩, rfl, -⟩
                      refine r_ex hX hP 1 (pc' := 453) (st' := []) (lo' := [(0, (2, (Ad E 1))), (1, (0, k)), (2, (0, c)), (3, (0, ch))]) rfl ?_
                      refine r_labC hX (tl1 95 rfl (by decide)) hS (fun s318 => ?_)
                      refine r_apeekI hX al_64 s318 (i := c) (by omega) (by omega) (fun nek319 nek319e nek319a nek319b => ?_)
                      exact r_retV hX hP rfl rfl (by omega) (by omega) ⟨rfl, ⟨_, (hq_call (hq_up (hq_call (hq_refl _ _ _) rfl) rfl) rfl).symm⟩, rfl, bah258, bah258e, nek319, nek319e, two_c, two_c_e, (by omega), (fun i h0 hi hx => ⟨rfl, rfl, rfl, rfl, rfl, rfl⟩)⟩
              · skip
                refine r_ex hX hP 1 (pc' := 332) (st' := [(2, (Ad E 1))]) (lo' := [(0, (2, (Ad E 1))), (1, (0, k)), (2, (0, c)), (3, (0, ch))]) rfl ?_
                refine r_callV gd hX hP rfl cv_12_475 hS (d' := 2) (mc' := 0) (ms' := 0) (as' := []) (st := []) (by omega) (by omega) (by omega) rfl rfl (Nat.le_of_ble_eq_true rfl) (c_X12_isName E S G  hS) ?_
                rintro _ _ _ ⟨rfl, ⟨G320, rfl⟩, z321, rfl, bah322, bah322e, (⟨rfl, f323⟩ | ⟨rfl, f324⟩)⟩
                · skip
                  refine r_peekI hX (tl1 80 rfl (by decide)) hS (fun o325 o325e o325a o325b => ?_)
                  obtain rfl : bah322 = o325 := bah322e.trans o325e.symm
                  refine r_if_ne hX hP rfl (tgt := 339) rfl (by omega) (by omega) (fun c326 => ?_) (fun c326 => ?_)
                  · skip
                    refine r_ex hX hP 2 (pc' := 341) (st' := [(2, (Ad E 1)), (2, (Ad E 1))]) (lo' := [(0, (2, (Ad E 1))), (1, (0, k)), (2, (0, c)), (3, (0, ch))]) rfl ?_
                    refine r_callV gd hX hP rfl cv_12_478 hS (d' := 0) (mc' := 0) (ms' := 0) (as' := []) (st := [(2, (Ad E 1))]) (by omega) (by omega) (by omega) rfl rfl (Nat.le_of_ble_eq_true rfl) (c_X12_named E S (hv [80, 81] [] G G320)  hS) ?_
                    rintro _ _ _ ⟨rfl, rfl, z327, rfl, z327a, z327b⟩
                    refine r_putIK hX hP rfl fp_12_441 hS (by omega) (by omega) (fun h328 => ?_)
                    refine r_ex hX hP 1 (pc' := 348) (st' := [(2, (Ad E 1))]) (lo' := [(0, (2, (Ad E 1))), (1, (0, k)), (2, (0, c)), (3, (0, ch))]) rfl ?_
                    refine r_getKI hX hP rfl fl_12_441 hS (x := z327) h328 ?_
                    refine r_if_ge hX hP rfl (tgt := 366) rfl (by omega) (by omega) (fun c329 => ?_) (fun c329 => ?_)
                    · skip
                      refine r_ex hX hP 1 (pc' := 367) (st' := [(2, (Ad E 1))]) (lo' := [(0, (2, (Ad E 1))), (1, (0, k)), (2, (0, c)), (3, (0, ch))]) rfl ?_
                      refine r_callV gd hX hP rfl cv_12_398 hS (d' := 1) (mc' := 0) (ms' := 0) (as' := []) (st := []) (by omega) (by omega) (by omega) rfl rfl (Nat.le_of_ble_eq_true rfl) (c_X12_next E S (up (hv [80, 81] [] G G320) 1 (Ad E 1) 90 z327)  hS) ?_
                      rintro _ _ _ ⟨rfl, ⟨G330, rfl⟩, rfl, -⟩
                      refine r_ex hX hP 1 (pc' := 453) (st' := []) (lo' := [(0, (2, (Ad E 1))), (1, (0, k)), (2, (0, c)), (3, (0, ch))]) rfl ?_
                      refine r_labC hX (tl1 95 rfl (by decide)) hS (fun s331 => ?_)
                      refine r_apeekI hX al_64 s331 (i := c) (by omega) (by omega) (fun nek332 nek332e nek332a nek332b => ?_)
                      exact r_retV hX hP rfl rfl (by omega) (by omega) ⟨rfl, ⟨_, (hq_call (hq_up (hq_call (hq_refl _ _ _) rfl) rfl) rfl).symm⟩, rfl, bah322, bah322e, nek332, nek332e, two_c, two_c_e, (by omega), (fun i h0 hi hx => ⟨rfl, rfl, rfl, rfl, rfl, rfl⟩)⟩
                    · skip
                      refine r_ex hX hP 3 (pc' := 357) (st' := [(2, (Ad E 1)), (0, 5), (2, (Ad E 1))]) (lo' := [(0, (2, (Ad E 1))), (1, (0, k)), (2, (0, c)), (3, (0, ch))]) rfl ?_
                      refine r_getI hX hP rfl fl_12_352 hS (fun af333 af333e af333a af333b => ?_)
                      refine r_callV gd hX hP rfl cv_12_388 hS (d' := 0) (mc' := 0) (ms' := 0) (as' := [(0, 5), (0, af333)]) (st := []) (by omega) (by omega) (by omega) rfl rfl (Nat.le_of_ble_eq_true rfl) (c_X12_fail E S (up (hv [80, 81] [] G G320) 1 (Ad E 1) 90 z327) 5 af333 hS (by omega) (by omega) (by omega) (by omega)) ?_
                      rintro _ _ _ ⟨rfl, ⟨G334, rfl⟩, rfl, bah335, bah335e, f336⟩
                      refine r_peekI hX (tl1 80 rfl (by decide)) hS (fun o337 o337e o337a o337b => ?_)
                      obtain rfl : bah335 = o337 := bah335e.trans o337e.symm
                      refine r_ex hX hP 1 (pc' := 453) (st' := []) (lo' := [(0, (2, (Ad E 1))), (1, (0, k)), (2, (0, c)), (3, (0, ch))]) rfl ?_
                      refine r_labC hX (tl1 95 rfl (by decide)) hS (fun s338 => ?_)
                      refine r_apeekI hX al_64 s338 (i := c) (by omega) (by omega) (fun nek339 nek339e nek339a nek339b => ?_)
                      exact r_retV hX hP rfl rfl (by omega) (by omega) ⟨rfl, ⟨_, (hq_call (hq_up (hq_call (hq_refl _ _ _) rfl) rfl) rfl).symm⟩, rfl, bah335, bah335e, nek339, nek339e, two_c, two_c_e, (by omega), (fun i h0 hi hx => ⟨rfl, rfl, rfl, rfl, rfl, rfl⟩)⟩
                  · skip
                    exfalso; omega
                · skip
                  refine r_peekI hX (tl1 80 rfl (by decide)) hS (fun o340 o340e o340a o340b => ?_)
                  obtain rfl : bah322 = o340 := bah322e.trans o340e.symm
                  refine r_if_ne hX hP rfl (tgt := 339) rfl (by omega) (by omega) (fun c341 => ?_) (fun c341 => ?_)
                  · skip
                    exfalso; omega
                  · skip
                    refine r_labC hX (tl1 95 rfl (by decide)) hS (fun s342 => ?_)
                    refine r_apeekI hX al_64 s342 (i := c) (by omega) (by omega) (fun nek343 nek343e nek343a nek343b => ?_)
                    exact r_retV hX hP rfl rfl (by omega) (by omega) ⟨rfl, ⟨_, (hq_call (hq_refl _ _ _) rfl).symm⟩, rfl, bah322, bah322e, nek343, nek343e, two_c, two_c_e, (by omega), (fun i h0 hi hx => ⟨rfl, rfl, rfl, rfl, rfl, rfl⟩)⟩
            · skip
              have j267 : ∀ (k0_j267 : Int), (-3) ≤ k0_j267 → k0_j267 ≤ 0 → X 0 0 267 [(0, k0_j267)] [(0, (2, (Ad E 1))), (1, (0, k)), (2, (0, c)), (3, (0, ch))] S G := by
                intro k0_j267 yj267_0 yj267_1
                refine r_ex hX hP 1 (pc' := 269) (st' := []) (lo' := [(0, (2, (Ad E 1))), (1, (0, k)), (2, (0, c)), (3, (0, ch)), (4, (0, k0_j267))]) rfl ?_
                have j298 : ∀ (Gj298 : Gh), X 0 0 298 [] [(0, (2, (Ad E 1))), (1, (0, k)), (2, (0, c)), (3, (0, ch)), (4, (0, k0_j267))] S (hv [80, 81, 82, 83, 84, 85, 86, 87] [] G Gj298) := by
                  intro Gj298
                  refine r_ex hX hP 1 (pc' := 299) (st' := [(2, (Ad E 1))]) (lo' := [(0, (2, (Ad E 1))), (1, (0, k)), (2, (0, c)), (3, (0, ch)), (4, (0, k0_j267))]) rfl ?_
                  refine r_getC hX hP rfl fl_12_217 hS (fun s344 => ?_)
                  refine r_ex hX hP 2 (pc' := 305) (st' := [(0, k0_j267), (0, c), (2, (Ad E 64))]) (lo' := [(0, (2, (Ad E 1))), (1, (0, k)), (2, (0, c)), (3, (0, ch)), (4, (0, k0_j267))]) rfl ?_
                  refine r_if_ne hX hP rfl (tgt := 319) rfl (by omega) (by omega) (fun c345 => ?_) (fun c345 => ?_)
                  · skip
                    refine r_ex hX hP 1 (pc' := 321) (st' := [(0, k0_j267), (0, c), (2, (Ad E 64))]) (lo' := [(0, (2, (Ad E 1))), (1, (0, k)), (2, (0, c)), (3, (0, ch)), (4, (0, k0_j267))]) rfl ?_
                    refine r_iastK hX hP rfl al_64 s344 (by omega) (by omega) (by omega) (by omega) (fun h346 => ?_)
                    refine r_ex hX hP 1 (pc' := 453) (st' := []) (lo' := [(0, (2, (Ad E 1))), (1, (0, k)), (2, (0, c)), (3, (0, ch)), (4, (0, k0_j267))]) rfl ?_
                    refine r_peekI hX (tl1 80 rfl (by decide)) hS (fun bap347 bap347e bap347a bap347b => ?_)
                    exact r_retV hX hP rfl rfl (by omega) (by omega) ⟨rfl, ⟨_, (hq_up (hq_loop (hq_refl _ _ _) rfl) rfl).symm⟩, rfl, bap347, bap347e, k0_j267, h346, two_c, two_c_e, (by omega), (fun i h0 hi hx => ⟨rfl, ((show (up (hv [80, 81, 82, 83, 84, 85, 86, 87] [] G Gj298) 64 (Ad E 64) c k0_j267) 64 (Ad E 64) i = _ from up_ne (fun q => absurd q.2.2 (by omega))).trans rfl), rfl, rfl, rfl, rfl⟩)⟩
                  · skip
                    refine r_ex hX hP 2 (pc' := 310) (st' := [(0, 0), (2, (Ad E 1)), (0, c), (2, (Ad E 64))]) (lo' := [(0, (2, (Ad E 1))), (1, (0, k)), (2, (0, c)), (3, (0, ch)), (4, (0, k0_j267))]) rfl ?_
                    refine r_ldcw hX hP rfl (v := 9999999) (tbg sg9 186 rfl rfl) ?_
                    refine r_peekI hX (tl1 80 rfl (by decide)) hS (fun bap348 bap348e bap348a bap348b => ?_)
                    refine r_callV gd hX hP rfl cv_12_461 hS (d' := 2) (mc' := 0) (ms' := 0) (as' := [(0, 0), (0, 9999999)]) (st := [(0, c), (2, (Ad E 64))]) (by omega) (by omega) (by omega) rfl rfl (Nat.le_of_ble_eq_true rfl) (c_X12_countB E S (hv [80, 81, 82, 83, 84, 85, 86, 87] [] G Gj298) 0 9999999 hS bap348 bap348e (by omega) (by omega) (by omega) (by omega)) ?_
                    rintro _ _ _ ⟨rfl, ⟨G349, rfl⟩, z350, rfl, bah351, bah351e, (⟨rfl, f352⟩ | ⟨f353, f354, f355, f356⟩)⟩
                    · skip
                      refine r_peekI hX (tl1 80 rfl (by decide)) hS (fun o357 o357e o357a o357b => ?_)
                      obtain rfl : bah351 = o357 := bah351e.trans o357e.symm
                      refine r_ex hX hP 1 (pc' := 321) (st' := [(0, 0), (0, c), (2, (Ad E 64))]) (lo' := [(0, (2, (Ad E 1))), (1, (0, k)), (2, (0, c)), (3, (0, ch)), (4, (0, k0_j267))]) rfl ?_
                      refine r_iastK hX hP rfl al_64 s344 (by omega) (by omega) (by omega) (by omega) (fun h358 => ?_)
                      refine r_ex hX hP 1 (pc' := 453) (st' := []) (lo' := [(0, (2, (Ad E 1))), (1, (0, k)), (2, (0, c)), (3, (0, ch)), (4, (0, k0_j267))]) rfl ?_
                      exact r_retV hX hP rfl rfl (by omega) (by omega) ⟨rfl, ⟨_, (hq_up (hq_call (hq_loop (hq_refl _ _ _) rfl) rfl) rfl).symm⟩, rfl, bah351, bah351e, 0, h358, two_c, two_c_e, (by omega), (fun i h0 hi hx => ⟨rfl, ((show (up (hv [80, 81, 82, 83, 84, 85, 86, 87] [] (hv [80, 81, 82, 83, 84, 85, 86, 87] [] G Gj298) G349) 64 (Ad E 64) c 0) 64 (Ad E 64) i = _ from up_ne (fun q => absurd q.2.2 (by omega))).trans rfl), rfl, rfl, rfl, rfl⟩)⟩
                    · skip
                      refine r_peekI hX (tl1 80 rfl (by decide)) hS (fun o359 o359e o359a o359b => ?_)
                      obtain rfl : bah351 = o359 := bah351e.trans o359e.symm
                      refine r_ex hX hP 1 (pc' := 321) (st' := [(0, z350), (0, c), (2, (Ad E 64))]) (lo' := [(0, (2, (Ad E 1))), (1, (0, k)), (2, (0, c)), (3, (0, ch)), (4, (0, k0_j267))]) rfl ?_
                      refine r_iastK hX hP rfl al_64 s344 (by omega) (by omega) (by omega) (by omega) (fun h360 => ?_)
                      refine r_ex hX hP 1 (pc' := 453) (st' := []) (lo' := [(0, (2, (Ad E 1))), (1, (0, k)), (2, (0, c)), (3, (0, ch)), (4, (0, k0_j267))]) rfl ?_
                      exact r_retV hX hP rfl rfl (by omega) (by omega) ⟨rfl, ⟨_, (hq_up (hq_call (hq_loop (hq_refl _ _ _) rfl) rfl) rfl).symm⟩, rfl, bah351, bah351e, z350, h360, two_c, two_c_e, (by omega), (fun i h0 hi hx => ⟨rfl, ((show (up (hv [80, 81, 82, 83, 84, 85, 86, 87] [] (hv [80, 81, 82, 83, 84, 85, 86, 87] [] G Gj298) G349) 64 (Ad E 64) c z350) 64 (Ad E 64) i = _ from up_ne (fun q => absurd q.2.2 (by omega))).trans rfl), rfl, rfl, rfl, rfl⟩)⟩
                refine r_ex hX hP 1 (pc' := 271) (st' := [(0, k0_j267)]) (lo' := [(0, (2, (Ad E 1))), (1, (0, k)), (2, (0, c)), (3, (0, ch)), (4, (0, k0_j267))]) rfl ?_
                refine r_if_ne hX hP rfl (tgt := 294) rfl (by omega) (by omega) (fun c361 => ?_) (fun c361 => ?_)
                · skip
                  refine r_ex hX hP 1 (pc' := 295) (st' := [(2, (Ad E 1))]) (lo' := [(0, (2, (Ad E 1))), (1, (0, k)), (2, (0, c)), (3, (0, ch)), (4, (0, k0_j267))]) rfl ?_
                  refine r_callV gd hX hP rfl cv_12_398 hS (d' := 1) (mc' := 0) (ms' := 0) (as' := []) (st := []) (by omega) (by omega) (by omega) rfl rfl (Nat.le_of_ble_eq_true rfl) (c_X12_next E S G  hS) ?_
                  rintro _ _ _ ⟨rfl, ⟨G362, rfl⟩, rfl, -⟩
                  refine r_eqG (X := X) (hq_call (hq_refl [80, 81, 82, 83, 84, 85, 86, 87] [] _) rfl) ?_
                  exact j298 _ 
                · skip
                  refine r_ex hX hP 7 (pc' := 285) (st' := [(0, 0), (0, 0), (0, 110), (0, 105), (0, 111), (0, 99), (2, (Ad E 1))]) (lo' := [(0, (2, (Ad E 1))), (1, (0, k)), (2, (0, c)), (3, (0, ch)), (4, (0, k0_j267))]) rfl ?_
                  refine r_callS gd hX hP rfl cs_12_405 (d' := 0) (mc' := 0) (ms' := 0) (as' := [(0, 99), (0, 111), (0, 105), (0, 110), (0, 0), (0, 0)]) (st := [(2, (Ad E 1))]) (by omega) (by omega) (by omega) rfl rfl (Nat.le_of_ble_eq_true rfl) (c_X12_spelled E S G 99 111 105 110 0 0 (by omega) (by omega) (by omega) (by omega) (by omega) (by omega) (by omega) (by omega) (by omega) (by omega) (by omega) (by omega)) ?_
                  rintro _ _ _ ⟨rfl, rfl, z363, rfl, z363a, z363b⟩
                  refine r_peekI hX (tl1 80 rfl (by decide)) hS (fun bap364 bap364e bap364a bap364b => ?_)
                  refine r_callV gd hX hP rfl cv_12_466 hS (d' := 2) (mc' := 0) (ms' := 0) (as' := [(1, z363)]) (st := []) (by omega) (by omega) (by omega) rfl rfl (Nat.le_of_ble_eq_true rfl) (c_X12_wordIsB E S G z363 hS bap364 bap364e (by omega) (by omega)) ?_
                  rintro _ _ _ ⟨rfl, ⟨G365, rfl⟩, rfl, bah366, bah366e, f367⟩
                  refine r_peekI hX (tl1 80 rfl (by decide)) hS (fun o368 o368e o368a o368b => ?_)
                  obtain rfl : bah366 = o368 := bah366e.trans o368e.symm
                  refine r_ex hX hP 1 (pc' := 298) (st' := []) (lo' := [(0, (2, (Ad E 1))), (1, (0, k)), (2, (0, c)), (3, (0, ch)), (4, (0, k0_j267))]) rfl ?_
                  refine r_eqG (X := X) (hq_call (hq_refl [80, 81, 82, 83, 84, 85, 86, 87] [] _) rfl) ?_
                  exact j298 _ 
              refine r_ex hX hP 7 (pc' := 205) (st' := [(0, 0), (0, 0), (0, 110), (0, 119), (0, 111), (0, 100), (2, (Ad E 1))]) (lo' := [(0, (2, (Ad E 1))), (1, (0, k)), (2, (0, c)), (3, (0, ch))]) rfl ?_
              refine r_callS gd hX hP rfl cs_12_405 (d' := 0) (mc' := 0) (ms' := 0) (as' := [(0, 100), (0, 111), (0, 119), (0, 110), (0, 0), (0, 0)]) (st := [(2, (Ad E 1))]) (by omega) (by omega) (by omega) rfl rfl (Nat.le_of_ble_eq_true rfl) (c_X12_spelled E S G 100 111 119 110 0 0 (by omega) (by omega) (by omega) (by omega) (by omega) (by omega) (by omega) (by omega) (by omega) (by omega) (by omega) (by omega)) ?_
              rintro _ _ _ ⟨rfl, rfl, z369, rfl, z369a, z369b⟩
              refine r_callV gd hX hP rfl cv_12_401 hS (d' := 0) (mc' := 0) (ms' := 0) (as' := [(1, z369)]) (st := []) (by omega) (by omega) (by omega) rfl rfl (Nat.le_of_ble_eq_true rfl) (c_X12_isWord E S G z369 hS (by omega) (by omega)) ?_
              rintro _ _ _ ⟨rfl, rfl, z370, rfl, z370a, z370b⟩
              refine r_if_eq hX hP rfl (tgt := 218) rfl (by omega) (by omega) (fun c371 => ?_) (fun c371 => ?_)
              · skip
                refine r_ex hX hP 7 (pc' := 227) (st' := [(0, 0), (0, 0), (0, 0), (0, 0), (0, 112), (0, 117), (2, (Ad E 1))]) (lo' := [(0, (2, (Ad E 1))), (1, (0, k)), (2, (0, c)), (3, (0, ch))]) rfl ?_
                refine r_callS gd hX hP rfl cs_12_405 (d' := 0) (mc' := 0) (ms' := 0) (as' := [(0, 117), (0, 112), (0, 0), (0, 0), (0, 0), (0, 0)]) (st := [(2, (Ad E 1))]) (by omega) (by omega) (by omega) rfl rfl (Nat.le_of_ble_eq_true rfl) (c_X12_spelled E S G 117 112 0 0 0 0 (by omega) (by omega) (by omega) (by omega) (by omega) (by omega) (by omega) (by omega) (by omega) (by omega) (by omega) (by omega)) ?_
                rintro _ _ _ ⟨rfl, rfl, z372, rfl, z372a, z372b⟩
                refine r_callV gd hX hP rfl cv_12_401 hS (d' := 0) (mc' := 0) (ms' := 0) (as' := [(1, z372)]) (st := []) (by omega) (by omega) (by omega) rfl rfl (Nat.le_of_ble_eq_true rfl) (c_X12_isWord E S G z372 hS (by omega) (by omega)) ?_
                rintro _ _ _ ⟨rfl, rfl, z373, rfl, z373a, z373b⟩
                refine r_if_eq hX hP rfl (tgt := 241) rfl (by omega) (by omega) (fun c374 => ?_) (fun c374 => ?_)
                · skip
                  refine r_ex hX hP 7 (pc' := 252) (st' := [(0, 0), (0, 0), (0, 114), (0, 97), (0, 101), (0, 110), (2, (Ad E 1))]) (lo' := [(0, (2, (Ad E 1))), (1, (0, k)), (2, (0, c)), (3, (0, ch))]) rfl ?_
                  refine r_callS gd hX hP rfl cs_12_405 (d' := 0) (mc' := 0) (ms' := 0) (as' := [(0, 110), (0, 101), (0, 97), (0, 114), (0, 0), (0, 0)]) (st := [(2, (Ad E 1))]) (by omega) (by omega) (by omega) rfl rfl (Nat.le_of_ble_eq_true rfl) (c_X12_spelled E S G 110 101 97 114 0 0 (by omega) (by omega) (by omega) (by omega) (by omega) (by omega) (by omega) (by omega) (by omega) (by omega) (by omega) (by omega)) ?_
                  rintro _ _ _ ⟨rfl, rfl, z375, rfl, z375a, z375b⟩
                  refine r_callV gd hX hP rfl cv_12_401 hS (d' := 0) (mc' := 0) (ms' := 0) (as' := [(1, z375)]) (st := []) (by omega) (by omega) (by omega) rfl rfl (Nat.le_of_ble_eq_true rfl) (c_X12_isWord E S G z375 hS (by omega) (by omega)) ?_
                  rintro _ _ _ ⟨rfl, rfl, z376, rfl, z376a, z376b⟩
                  refine r_if_eq hX hP rfl (tgt := 266) rfl (by omega) (by omega) (fun c377 => ?_) (fun c377 => ?_)
                  · skip
                    refine r_ex hX hP 1 (pc' := 267) (st' := [(0, 0)]) (lo' := [(0, (2, (Ad E 1))), (1, (0, k)), (2, (0, c)), (3, (0, ch))]) rfl ?_
                    exact j267 0 (by omega) (by omega)
                  · skip
                    refine r_ex hX hP 2 (pc' := 267) (st' := [(0, (-3))]) (lo' := [(0, (2, (Ad E 1))), (1, (0, k)), (2, (0, c)), (3, (0, ch))]) rfl ?_
                    exact j267 (-3) (by omega) (by omega)
                · skip
                  refine r_ex hX hP 2 (pc' := 267) (st' := [(0, (-2))]) (lo' := [(0, (2, (Ad E 1))), (1, (0, k)), (2, (0, c)), (3, (0, ch))]) rfl ?_
                  exact j267 (-2) (by omega) (by omega)
              · skip
                refine r_ex hX hP 2 (pc' := 267) (st' := [(0, (-1))]) (lo' := [(0, (2, (Ad E 1))), (1, (0, k)), (2, (0, c)), (3, (0, ch))]) rfl ?_
                exact j267 (-1) (by omega) (by omega)
          · skip
            refine r_ex hX hP 1 (pc' := 145) (st' := [(2, (Ad E 1))]) (lo' := [(0, (2, (Ad E 1))), (1, (0, k)), (2, (0, c)), (3, (0, ch))]) rfl ?_
            refine r_getC hX hP rfl fl_12_217 hS (fun s378 => ?_)
            refine r_ex hX hP 4 (pc' := 154) (st' := [(0, 1000), (0, 0), (2, (Ad E 1)), (0, c), (2, (Ad E 64))]) (lo' := [(0, (2, (Ad E 1))), (1, (0, k)), (2, (0, c)), (3, (0, ch))]) rfl ?_
            refine r_peekI hX (tl1 80 rfl (by decide)) hS (fun bap379 bap379e bap379a bap379b => ?_)
            refine r_callV gd hX hP rfl cv_12_461 hS (d' := 2) (mc' := 0) (ms' := 0) (as' := [(0, 0), (0, 1000)]) (st := [(0, c), (2, (Ad E 64))]) (by omega) (by omega) (by omega) rfl rfl (Nat.le_of_ble_eq_true rfl) (c_X12_countB E S G 0 1000 hS bap379 bap379e (by omega) (by omega) (by omega) (by omega)) ?_
            rintro _ _ _ ⟨rfl, ⟨G380, rfl⟩, z381, rfl, bah382, bah382e, (⟨rfl, f383⟩ | ⟨f384, f385, f386, f387⟩)⟩
            · skip
              refine r_peekI hX (tl1 80 rfl (by decide)) hS (fun o388 o388e o388a o388b => ?_)
              obtain rfl : bah382 = o388 := bah382e.trans o388e.symm
              refine r_iastK hX hP rfl al_64 s378 (by omega) (by omega) (by omega) (by omega) (fun h389 => ?_)
              refine r_ex hX hP 7 (pc' := 167) (st' := [(0, 0), (0, 0), (0, 0), (0, 0), (0, 111), (0, 116), (2, (Ad E 1))]) (lo' := [(0, (2, (Ad E 1))), (1, (0, k)), (2, (0, c)), (3, (0, ch))]) rfl ?_
              refine r_callS gd hX hP rfl cs_12_405 (d' := 0) (mc' := 0) (ms' := 0) (as' := [(0, 116), (0, 111), (0, 0), (0, 0), (0, 0), (0, 0)]) (st := [(2, (Ad E 1))]) (by omega) (by omega) (by omega) rfl rfl (Nat.le_of_ble_eq_true rfl) (c_X12_spelled E S (up (hv [80, 81, 82, 83, 84, 85, 86, 87] [] G G380) 64 (Ad E 64) c 0) 116 111 0 0 0 0 (by omega) (by omega) (by omega) (by omega) (by omega) (by omega) (by omega) (by omega) (by omega) (by omega) (by omega) (by omega)) ?_
              rintro _ _ _ ⟨rfl, rfl, z390, rfl, z390a, z390b⟩
              refine r_callV gd hX hP rfl cv_12_466 hS (d' := 2) (mc' := 0) (ms' := 0) (as' := [(1, z390)]) (st := []) (by omega) (by omega) (by omega) rfl rfl (Nat.le_of_ble_eq_true rfl) (c_X12_wordIsB E S (up (hv [80, 81, 82, 83, 84, 85, 86, 87] [] G G380) 64 (Ad E 64) c 0) z390 hS bah382 bah382e (by omega) (by omega)) ?_
              rintro _ _ _ ⟨rfl, ⟨G391, rfl⟩, rfl, bah392, bah392e, f393⟩
              refine r_peekI hX (tl1 80 rfl (by decide)) hS (fun o394 o394e o394a o394b => ?_)
              obtain rfl : bah392 = o394 := bah392e.trans o394e.symm
              refine r_ex hX hP 1 (pc' := 174) (st' := [(2, (Ad E 1))]) (lo' := [(0, (2, (Ad E 1))), (1, (0, k)), (2, (0, c)), (3, (0, ch))]) rfl ?_
              refine r_getC hX hP rfl fl_12_223 hS (fun s395 => ?_)
              refine r_ex hX hP 4 (pc' := 182) (st' := [(0, 19), (0, 0), (2, (Ad E 1)), (0, c), (2, (Ad E 66))]) (lo' := [(0, (2, (Ad E 1))), (1, (0, k)), (2, (0, c)), (3, (0, ch))]) rfl ?_
              refine r_callV gd hX hP rfl cv_12_461 hS (d' := 2) (mc' := 0) (ms' := 0) (as' := [(0, 0), (0, 19)]) (st := [(0, c), (2, (Ad E 66))]) (by omega) (by omega) (by omega) rfl rfl (Nat.le_of_ble_eq_true rfl) (c_X12_countB E S (hv [80, 81, 82, 83, 84, 85, 86, 87] [] (up (hv [80, 81, 82, 83, 84, 85, 86, 87] [] G G380) 64 (Ad E 64) c 0) G391) 0 19 hS bah392 bah392e (by omega) (by omega) (by omega) (by omega)) ?_
              rintro _ _ _ ⟨rfl, ⟨G396, rfl⟩, z397, rfl, bah398, bah398e, (⟨rfl, f399⟩ | ⟨f400, f401, f402, f403⟩)⟩
              · skip
                refine r_peekI hX (tl1 80 rfl (by decide)) hS (fun o404 o404e o404a o404b => ?_)
                obtain rfl : bah398 = o404 := bah398e.trans o404e.symm
                refine r_iastK hX hP rfl al_66 s395 (by omega) (by omega) (by omega) (by omega) (fun h405 => ?_)
                refine r_ex hX hP 1 (pc' := 453) (st' := []) (lo' := [(0, (2, (Ad E 1))), (1, (0, k)), (2, (0, c)), (3, (0, ch))]) rfl ?_
                exact r_retV hX hP rfl rfl (by omega) (by omega) ⟨rfl, ⟨_, (hq_up (hq_call (hq_call (hq_up (hq_call (hq_refl _ _ _) rfl) rfl) rfl) rfl) rfl).symm⟩, rfl, bah398, bah398e, 0, h389, two_c, two_c_e, (by omega), (fun i h0 hi hx => ⟨rfl, ((show (up (hv [80, 81, 82, 83, 84, 85, 86, 87] [] G G380) 64 (Ad E 64) c 0) 64 (Ad E 64) i = _ from up_ne (fun q => absurd q.2.2 (by omega))).trans rfl), rfl, ((show (up (hv [80, 81, 82, 83, 84, 85, 86, 87] [] (hv [80, 81, 82, 83, 84, 85, 86, 87] [] (up (hv [80, 81, 82, 83, 84, 85, 86, 87] [] G G380) 64 (Ad E 64) c 0) G391) G396) 66 (Ad E 66) c 0) 66 (Ad E 66) i = _ from up_ne (fun q => absurd q.2.2 (by omega))).trans rfl), rfl, rfl⟩)⟩
              · skip
                refine r_peekI hX (tl1 80 rfl (by decide)) hS (fun o406 o406e o406a o406b => ?_)
                obtain rfl : bah398 = o406 := bah398e.trans o406e.symm
                refine r_iastK hX hP rfl al_66 s395 (by omega) (by omega) (by omega) (by omega) (fun h407 => ?_)
                refine r_ex hX hP 1 (pc' := 453) (st' := []) (lo' := [(0, (2, (Ad E 1))), (1, (0, k)), (2, (0, c)), (3, (0, ch))]) rfl ?_
                exact r_retV hX hP rfl rfl (by omega) (by omega) ⟨rfl, ⟨_, (hq_up (hq_call (hq_call (hq_up (hq_call (hq_refl _ _ _) rfl) rfl) rfl) rfl) rfl).symm⟩, rfl, bah398, bah398e, 0, h389, two_c, two_c_e, (by omega), (fun i h0 hi hx => ⟨rfl, ((show (up (hv [80, 81, 82, 83, 84, 85, 86, 87] [] G G380) 64 (Ad E 64) c 0) 64 (Ad E 64) i = _ from up_ne (fun q => absurd q.2.2 (by omega))).trans rfl), rfl, ((show (up (hv [80, 81, 82, 83, 84, 85, 86, 87] [] (hv [80, 81, 82, 83, 84, 85, 86, 87] [] (up (hv [80, 81, 82, 83, 84, 85, 86, 87] [] G G380) 64 (Ad E 64) c 0) G391) G396) 66 (Ad E 66) c z397) 66 (Ad E 66) i = _ from up_ne (fun q => absurd q.2.2 (by omega))).trans rfl), rfl, rfl⟩)⟩
            · skip
              refine r_peekI hX (tl1 80 rfl (by decide)) hS (fun o408 o408e o408a o408b => ?_)
              obtain rfl : bah382 = o408 := bah382e.trans o408e.symm
              refine r_iastK hX hP rfl al_64 s378 (by omega) (by omega) (by omega) (by omega) (fun h409 => ?_)
              refine r_ex hX hP 7 (pc' := 167) (st' := [(0, 0), (0, 0), (0, 0), (0, 0), (0, 111), (0, 116), (2, (Ad E 1))]) (lo' := [(0, (2, (Ad E 1))), (1, (0, k)), (2, (0, c)), (3, (0, ch))]) rfl ?_
              refine r_callS gd hX hP rfl cs_12_405 (d' := 0) (mc' := 0) (ms' := 0) (as' := [(0, 116), (0, 111), (0, 0), (0, 0), (0, 0), (0, 0)]) (st := [(2, (Ad E 1))]) (by omega) (by omega) (by omega) rfl rfl (Nat.le_of_ble_eq_true rfl) (c_X12_spelled E S (up (hv [80, 81, 82, 83, 84, 85, 86, 87] [] G G380) 64 (Ad E 64) c z381) 116 111 0 0 0 0 (by omega) (by omega) (by omega) (by omega) (by omega) (by omega) (by omega) (by omega) (by omega) (by omega) (by omega) (by omega)) ?_
              rintro _ _ _ ⟨rfl, rfl, z410, rfl, z410a, z410b⟩
              refine r_callV gd hX hP rfl cv_12_466 hS (d' := 2) (mc' := 0) (ms' := 0) (as' := [(1, z410)]) (st := []) (by omega) (by omega) (by omega) rfl rfl (Nat.le_of_ble_eq_true rfl) (c_X12_wordIsB E S (up (hv [80, 81, 82, 83, 84, 85, 86, 87] [] G G380) 64 (Ad E 64) c z381) z410 hS bah382 bah382e (by omega) (by omega)) ?_
              rintro _ _ _ ⟨rfl, ⟨G411, rfl⟩, rfl, bah412, bah412e, f413⟩
              refine r_peekI hX (tl1 80 rfl (by decide)) hS (fun o414 o414e o414a o414b => ?_)
              obtain rfl : bah412 = o414 := bah412e.trans o414e.symm
              refine r_ex hX hP 1 (pc' := 174) (st' := [(2, (Ad E 1))]) (lo' := [(0, (2, (Ad E 1))), (1, (0, k)), (2, (0, c)), (3, (0, ch))]) rfl ?_
              refine r_getC hX hP rfl fl_12_223 hS (fun s415 => ?_)
              refine r_ex hX hP 4 (pc' := 182) (st' := [(0, 19), (0, 0), (2, (Ad E 1)), (0, c), (2, (Ad E 66))]) (lo' := [(0, (2, (Ad E 1))), (1, (0, k)), (2, (0, c)), (3, (0, ch))]) rfl ?_
              refine r_callV gd hX hP rfl cv_12_461 hS (d' := 2) (mc' := 0) (ms' := 0) (as' := [(0, 0), (0, 19)]) (st := [(0, c), (2, (Ad E 66))]) (by omega) (by omega) (by omega) rfl rfl (Nat.le_of_ble_eq_true rfl) (c_X12_countB E S (hv [80, 81, 82, 83, 84, 85, 86, 87] [] (up (hv [80, 81, 82, 83, 84, 85, 86, 87] [] G G380) 64 (Ad E 64) c z381) G411) 0 19 hS bah412 bah412e (by omega) (by omega) (by omega) (by omega)) ?_
              rintro _ _ _ ⟨rfl, ⟨G416, rfl⟩, z417, rfl, bah418, bah418e, (⟨rfl, f419⟩ | ⟨f420, f421, f422, f423⟩)⟩
              · skip
                refine r_peekI hX (tl1 80 rfl (by decide)) hS (fun o424 o424e o424a o424b => ?_)
                obtain rfl : bah418 = o424 := bah418e.trans o424e.symm
                refine r_iastK hX hP rfl al_66 s415 (by omega) (by omega) (by omega) (by omega) (fun h425 => ?_)
                refine r_ex hX hP 1 (pc' := 453) (st' := []) (lo' := [(0, (2, (Ad E 1))), (1, (0, k)), (2, (0, c)), (3, (0, ch))]) rfl ?_
                exact r_retV hX hP rfl rfl (by omega) (by omega) ⟨rfl, ⟨_, (hq_up (hq_call (hq_call (hq_up (hq_call (hq_refl _ _ _) rfl) rfl) rfl) rfl) rfl).symm⟩, rfl, bah418, bah418e, z381, h409, two_c, two_c_e, (by omega), (fun i h0 hi hx => ⟨rfl, ((show (up (hv [80, 81, 82, 83, 84, 85, 86, 87] [] G G380) 64 (Ad E 64) c z381) 64 (Ad E 64) i = _ from up_ne (fun q => absurd q.2.2 (by omega))).trans rfl), rfl, ((show (up (hv [80, 81, 82, 83, 84, 85, 86, 87] [] (hv [80, 81, 82, 83, 84, 85, 86, 87] [] (up (hv [80, 81, 82, 83, 84, 85, 86, 87] [] G G380) 64 (Ad E 64) c z381) G411) G416) 66 (Ad E 66) c 0) 66 (Ad E 66) i = _ from up_ne (fun q => absurd q.2.2 (by omega))).trans rfl), rfl, rfl⟩)⟩
              · skip
                refine r_peekI hX (tl1 80 rfl (by decide)) hS (fun o426 o426e o426a o426b => ?_)
                obtain rfl : bah418 = o426 := bah418e.trans o426e.symm
                refine r_iastK hX hP rfl al_66 s415 (by omega) (by omega) (by omega) (by omega) (fun h427 => ?_)
                refine r_ex hX hP 1 (pc' := 453) (st' := []) (lo' := [(0, (2, (Ad E 1))), (1, (0, k)), (2, (0, c)), (3, (0, ch))]) rfl ?_
                exact r_retV hX hP rfl rfl (by omega) (by omega) ⟨rfl, ⟨_, (hq_up (hq_call (hq_call (hq_up (hq_call (hq_refl _ _ _) rfl) rfl) rfl) rfl) rfl).symm⟩, rfl, bah418, bah418e, z381, h409, two_c, two_c_e, (by omega), (fun i h0 hi hx => ⟨rfl, ((show (up (hv [80, 81, 82, 83, 84, 85, 86, 87] [] G G380) 64 (Ad E 64) c z381) 64 (Ad E 64) i = _ from up_ne (fun q => absurd q.2.2 (by omega))).trans rfl), rfl, ((show (up (hv [80, 81, 82, 83, 84, 85, 86, 87] [] (hv [80, 81, 82, 83, 84, 85, 86, 87] [] (up (hv [80, 81, 82, 83, 84, 85, 86, 87] [] G G380) 64 (Ad E 64) c z381) G411) G416) 66 (Ad E 66) c z417) 66 (Ad E 66) i = _ from up_ne (fun q => absurd q.2.2 (by omega))).trans rfl), rfl, rfl⟩)⟩
        · skip
          refine r_ex hX hP 1 (pc' := 20) (st' := [(2, (Ad E 1))]) (lo' := [(0, (2, (Ad E 1))), (1, (0, k)), (2, (0, c)), (3, (0, ch))]) rfl ?_
          refine r_getC hX hP rfl fl_12_217 hS (fun s428 => ?_)
          refine r_ex hX hP 3 (pc' := 26) (st' := [(0, 2), (0, k), (0, c), (2, (Ad E 64))]) (lo' := [(0, (2, (Ad E 1))), (1, (0, k)), (2, (0, c)), (3, (0, ch))]) rfl ?_
          refine r_ic_ge hX hP rfl (tgt := 40) rfl (by omega) (by omega) (by omega) (by omega) (fun c429 => ?_) (fun c429 => ?_)
          · skip
            refine r_ex hX hP 2 (pc' := 42) (st' := [(0, 0), (2, (Ad E 1)), (0, c), (2, (Ad E 64))]) (lo' := [(0, (2, (Ad E 1))), (1, (0, k)), (2, (0, c)), (3, (0, ch))]) rfl ?_
            refine r_ldcw hX hP rfl (v := 9999999) (tbg sg9 186 rfl rfl) ?_
            refine r_peekI hX (tl1 80 rfl (by decide)) hS (fun bap430 bap430e bap430a bap430b => ?_)
            refine r_callV gd hX hP rfl cv_12_461 hS (d' := 2) (mc' := 0) (ms' := 0) (as' := [(0, 0), (0, 9999999)]) (st := [(0, c), (2, (Ad E 64))]) (by omega) (by omega) (by omega) rfl rfl (Nat.le_of_ble_eq_true rfl) (c_X12_countB E S G 0 9999999 hS bap430 bap430e (by omega) (by omega) (by omega) (by omega)) ?_
            rintro _ _ _ ⟨rfl, ⟨G431, rfl⟩, z432, rfl, bah433, bah433e, (⟨rfl, f434⟩ | ⟨f435, f436, f437, f438⟩)⟩
            · skip
              refine r_peekI hX (tl1 80 rfl (by decide)) hS (fun o439 o439e o439a o439b => ?_)
              obtain rfl : bah433 = o439 := bah433e.trans o439e.symm
              refine r_iastK hX hP rfl al_64 s428 (by omega) (by omega) (by omega) (by omega) (fun h440 => ?_)
              refine r_ex hX hP 1 (pc' := 50) (st' := [(0, k)]) (lo' := [(0, (2, (Ad E 1))), (1, (0, k)), (2, (0, c)), (3, (0, ch))]) rfl ?_
              refine r_if_ne hX hP rfl (tgt := 81) rfl (by omega) (by omega) (fun c441 => ?_) (fun c441 => ?_)
              · skip
                refine r_ex hX hP 7 (pc' := 91) (st' := [(0, 0), (0, 0), (0, 0), (0, 114), (0, 111), (0, 102), (2, (Ad E 1))]) (lo' := [(0, (2, (Ad E 1))), (1, (0, k)), (2, (0, c)), (3, (0, ch))]) rfl ?_
                refine r_callS gd hX hP rfl cs_12_405 (d' := 0) (mc' := 0) (ms' := 0) (as' := [(0, 102), (0, 111), (0, 114), (0, 0), (0, 0), (0, 0)]) (st := [(2, (Ad E 1))]) (by omega) (by omega) (by omega) rfl rfl (Nat.le_of_ble_eq_true rfl) (c_X12_spelled E S (up (hv [80, 81, 82, 83, 84, 85, 86, 87] [] G G431) 64 (Ad E 64) c 0) 102 111 114 0 0 0 (by omega) (by omega) (by omega) (by omega) (by omega) (by omega) (by omega) (by omega) (by omega) (by omega) (by omega) (by omega)) ?_
                rintro _ _ _ ⟨rfl, rfl, z442, rfl, z442a, z442b⟩
                refine r_callV gd hX hP rfl cv_12_466 hS (d' := 2) (mc' := 0) (ms' := 0) (as' := [(1, z442)]) (st := []) (by omega) (by omega) (by omega) rfl rfl (Nat.le_of_ble_eq_true rfl) (c_X12_wordIsB E S (up (hv [80, 81, 82, 83, 84, 85, 86, 87] [] G G431) 64 (Ad E 64) c 0) z442 hS bah433 bah433e (by omega) (by omega)) ?_
                rintro _ _ _ ⟨rfl, ⟨G443, rfl⟩, rfl, bah444, bah444e, f445⟩
                refine r_peekI hX (tl1 80 rfl (by decide)) hS (fun o446 o446e o446a o446b => ?_)
                obtain rfl : bah444 = o446 := bah444e.trans o446e.symm
                refine r_ex hX hP 1 (pc' := 98) (st' := [(2, (Ad E 1))]) (lo' := [(0, (2, (Ad E 1))), (1, (0, k)), (2, (0, c)), (3, (0, ch))]) rfl ?_
                refine r_getC hX hP rfl fl_12_220 hS (fun _ => ?_)
                refine r_ex hX hP 3 (pc' := 104) (st' := [(0, 1), (0, k), (0, c), (2, (Ad E 65))]) (lo' := [(0, (2, (Ad E 1))), (1, (0, k)), (2, (0, c)), (3, (0, ch))]) rfl ?_
                refine r_ic_ne hX hP rfl (tgt := 127) rfl (by omega) (by omega) (by omega) (by omega) (fun c447 => ?_) (fun c447 => ?_)
                · skip
                  refine r_ex hX hP 3 (pc' := 132) (st' := [(0, 1000), (0, 1), (2, (Ad E 1)), (0, c), (2, (Ad E 65))]) (lo' := [(0, (2, (Ad E 1))), (1, (0, k)), (2, (0, c)), (3, (0, ch))]) rfl ?_
                  refine r_callV gd hX hP rfl cv_12_461 hS (d' := 2) (mc' := 0) (ms' := 0) (as' := [(0, 1), (0, 1000)]) (st := [(0, c), (2, (Ad E 65))]) (by omega) (by omega) (by omega) rfl rfl (Nat.le_of_ble_eq_true rfl) (c_X12_countB E S (hv [80, 81, 82, 83, 84, 85, 86, 87] [] (up (hv [80, 81, 82, 83, 84, 85, 86, 87] [] G G431) 64 (Ad E 64) c 0) G443) 1 1000 hS bah444 bah444e (by omega) (by omega) (by omega) (by omega)) ?_
                  rintro _ _ _ ⟨rfl, ⟨G448, rfl⟩, z449, rfl, bah450, bah450e, (⟨rfl, f451⟩ | ⟨f452, f453, f454, f455⟩)⟩
                  · skip
                    refine r_peekI hX (tl1 80 rfl (by decide)) hS (fun o456 o456e o456a o456b => ?_)
                    obtain rfl : bah450 = o456 := bah450e.trans o456e.symm
                    refine r_iastK hX hP rfl al_65 s1 (by omega) (by omega) (by omega) (by omega) (fun h457 => ?_)
                    refine r_ex hX hP 1 (pc' := 453) (st' := []) (lo' := [(0, (2, (Ad E 1))), (1, (0, k)), (2, (0, c)), (3, (0, ch))]) rfl ?_
                    exact r_retV hX hP rfl rfl (by omega) (by omega) ⟨rfl, ⟨_, (hq_up (hq_call (hq_call (hq_up (hq_call (hq_refl _ _ _) rfl) rfl) rfl) rfl) rfl).symm⟩, rfl, bah450, bah450e, 0, h440, 0, h457, (by omega), (fun i h0 hi hx => ⟨rfl, ((show (up (hv [80, 81, 82, 83, 84, 85, 86, 87] [] G G431) 64 (Ad E 64) c 0) 64 (Ad E 64) i = _ from up_ne (fun q => absurd q.2.2 (by omega))).trans rfl), ((show (up (hv [80, 81, 82, 83, 84, 85, 86, 87] [] (hv [80, 81, 82, 83, 84, 85, 86, 87] [] (up (hv [80, 81, 82, 83, 84, 85, 86, 87] [] G G431) 64 (Ad E 64) c 0) G443) G448) 65 (Ad E 65) c 0) 65 (Ad E 65) i = _ from up_ne (fun q => absurd q.2.2 (by omega))).trans rfl), rfl, rfl, rfl⟩)⟩
                  · skip
                    refine r_peekI hX (tl1 80 rfl (by decide)) hS (fun o458 o458e o458a o458b => ?_)
                    obtain rfl : bah450 = o458 := bah450e.trans o458e.symm
                    refine r_iastK hX hP rfl al_65 s1 (by omega) (by omega) (by omega) (by omega) (fun h459 => ?_)
                    refine r_ex hX hP 1 (pc' := 453) (st' := []) (lo' := [(0, (2, (Ad E 1))), (1, (0, k)), (2, (0, c)), (3, (0, ch))]) rfl ?_
                    exact r_retV hX hP rfl rfl (by omega) (by omega) ⟨rfl, ⟨_, (hq_up (hq_call (hq_call (hq_up (hq_call (hq_refl _ _ _) rfl) rfl) rfl) rfl) rfl).symm⟩, rfl, bah450, bah450e, 0, h440, z449, h459, (by omega), (fun i h0 hi hx => ⟨rfl, ((show (up (hv [80, 81, 82, 83, 84, 85, 86, 87] [] G G431) 64 (Ad E 64) c 0) 64 (Ad E 64) i = _ from up_ne (fun q => absurd q.2.2 (by omega))).trans rfl), ((show (up (hv [80, 81, 82, 83, 84, 85, 86, 87] [] (hv [80, 81, 82, 83, 84, 85, 86, 87] [] (up (hv [80, 81, 82, 83, 84, 85, 86, 87] [] G G431) 64 (Ad E 64) c 0) G443) G448) 65 (Ad E 65) c z449) 65 (Ad E 65) i = _ from up_ne (fun q => absurd q.2.2 (by omega))).trans rfl), rfl, rfl, rfl⟩)⟩
                · skip
                  exfalso; omega
              · skip
                exfalso; omega
            · skip
              refine r_peekI hX (tl1 80 rfl (by decide)) hS (fun o460 o460e o460a o460b => ?_)
              obtain rfl : bah433 = o460 := bah433e.trans o460e.symm
              refine r_iastK hX hP rfl al_64 s428 (by omega) (by omega) (by omega) (by omega) (fun h461 => ?_)
              refine r_ex hX hP 1 (pc' := 50) (st' := [(0, k)]) (lo' := [(0, (2, (Ad E 1))), (1, (0, k)), (2, (0, c)), (3, (0, ch))]) rfl ?_
              refine r_if_ne hX hP rfl (tgt := 81) rfl (by omega) (by omega) (fun c462 => ?_) (fun c462 => ?_)
              · skip
                refine r_ex hX hP 7 (pc' := 91) (st' := [(0, 0), (0, 0), (0, 0), (0, 114), (0, 111), (0, 102), (2, (Ad E 1))]) (lo' := [(0, (2, (Ad E 1))), (1, (0, k)), (2, (0, c)), (3, (0, ch))]) rfl ?_
                refine r_callS gd hX hP rfl cs_12_405 (d' := 0) (mc' := 0) (ms' := 0) (as' := [(0, 102), (0, 111), (0, 114), (0, 0), (0, 0), (0, 0)]) (st := [(2, (Ad E 1))]) (by omega) (by omega) (by omega) rfl rfl (Nat.le_of_ble_eq_true rfl) (c_X12_spelled E S (up (hv [80, 81, 82, 83, 84, 85, 86, 87] [] G G431) 64 (Ad E 64) c z432) 102 111 114 0 0 0 (by omega) (by omega) (by omega) (by omega) (by omega) (by omega) (by omega) (by omega) (by omega) (by omega) (by omega) (by omega)) ?_
                rintro _ _ _ ⟨rfl, rfl, z463, rfl, z463a, z463b⟩
                refine r_callV gd hX hP rfl cv_12_466 hS (d' := 2) (mc' := 0) (ms' := 0) (as' := [(1, z463)]) (st := []) (by omega) (by omega) (by omega) rfl rfl (Nat.le_of_ble_eq_true rfl) (c_X12_wordIsB E S (up (hv [80, 81, 82, 83, 84, 85, 86, 87] [] G G431) 64 (Ad E 64) c z432) z463 hS bah433 bah433e (by omega) (by omega)) ?_
                rintro _ _ _ ⟨rfl, ⟨G464, rfl⟩, rfl, bah465, bah465e, f466⟩
                refine r_peekI hX (tl1 80 rfl (by decide)) hS (fun o467 o467e o467a o467b => ?_)
                obtain rfl : bah465 = o467 := bah465e.trans o467e.symm
                refine r_ex hX hP 1 (pc' := 98) (st' := [(2, (Ad E 1))]) (lo' := [(0, (2, (Ad E 1))), (1, (0, k)), (2, (0, c)), (3, (0, ch))]) rfl ?_
                refine r_getC hX hP rfl fl_12_220 hS (fun _ => ?_)
                refine r_ex hX hP 3 (pc' := 104) (st' := [(0, 1), (0, k), (0, c), (2, (Ad E 65))]) (lo' := [(0, (2, (Ad E 1))), (1, (0, k)), (2, (0, c)), (3, (0, ch))]) rfl ?_
                refine r_ic_ne hX hP rfl (tgt := 127) rfl (by omega) (by omega) (by omega) (by omega) (fun c468 => ?_) (fun c468 => ?_)
                · skip
                  refine r_ex hX hP 3 (pc' := 132) (st' := [(0, 1000), (0, 1), (2, (Ad E 1)), (0, c), (2, (Ad E 65))]) (lo' := [(0, (2, (Ad E 1))), (1, (0, k)), (2, (0, c)), (3, (0, ch))]) rfl ?_
                  refine r_callV gd hX hP rfl cv_12_461 hS (d' := 2) (mc' := 0) (ms' := 0) (as' := [(0, 1), (0, 1000)]) (st := [(0, c), (2, (Ad E 65))]) (by omega) (by omega) (by omega) rfl rfl (Nat.le_of_ble_eq_true rfl) (c_X12_countB E S (hv [80, 81, 82, 83, 84, 85, 86, 87] [] (up (hv [80, 81, 82, 83, 84, 85, 86, 87] [] G G431) 64 (Ad E 64) c z432) G464) 1 1000 hS bah465 bah465e (by omega) (by omega) (by omega) (by omega)) ?_
                  rintro _ _ _ ⟨rfl, ⟨G469, rfl⟩, z470, rfl, bah471, bah471e, (⟨rfl, f472⟩ | ⟨f473, f474, f475, f476⟩)⟩
                  · skip
                    refine r_peekI hX (tl1 80 rfl (by decide)) hS (fun o477 o477e o477a o477b => ?_)
                    obtain rfl : bah471 = o477 := bah471e.trans o477e.symm
                    refine r_iastK hX hP rfl al_65 s1 (by omega) (by omega) (by omega) (by omega) (fun h478 => ?_)
                    refine r_ex hX hP 1 (pc' := 453) (st' := []) (lo' := [(0, (2, (Ad E 1))), (1, (0, k)), (2, (0, c)), (3, (0, ch))]) rfl ?_
                    exact r_retV hX hP rfl rfl (by omega) (by omega) ⟨rfl, ⟨_, (hq_up (hq_call (hq_call (hq_up (hq_call (hq_refl _ _ _) rfl) rfl) rfl) rfl) rfl).symm⟩, rfl, bah471, bah471e, z432, h461, 0, h478, (by omega), (fun i h0 hi hx => ⟨rfl, ((show (up (hv [80, 81, 82, 83, 84, 85, 86, 87] [] G G431) 64 (Ad E 64) c z432) 64 (Ad E 64) i = _ from up_ne (fun q => absurd q.2.2 (by omega))).trans rfl), ((show (up (hv [80, 81, 82, 83, 84, 85, 86, 87] [] (hv [80, 81, 82, 83, 84, 85, 86, 87] [] (up (hv [80, 81, 82, 83, 84, 85, 86, 87] [] G G431) 64 (Ad E 64) c z432) G464) G469) 65 (Ad E 65) c 0) 65 (Ad E 65) i = _ from up_ne (fun q => absurd q.2.2 (by omega))).trans rfl), rfl, rfl, rfl⟩)⟩
                  · skip
                    refine r_peekI hX (tl1 80 rfl (by decide)) hS (fun o479 o479e o479a o479b => ?_)
                    obtain rfl : bah471 = o479 := bah471e.trans o479e.symm
                    refine r_iastK hX hP rfl al_65 s1 (by omega) (by omega) (by omega) (by omega) (fun h480 => ?_)
                    refine r_ex hX hP 1 (pc' := 453) (st' := []) (lo' := [(0, (2, (Ad E 1))), (1, (0, k)), (2, (0, c)), (3, (0, ch))]) rfl ?_
                    exact r_retV hX hP rfl rfl (by omega) (by omega) ⟨rfl, ⟨_, (hq_up (hq_call (hq_call (hq_up (hq_call (hq_refl _ _ _) rfl) rfl) rfl) rfl) rfl).symm⟩, rfl, bah471, bah471e, z432, h461, z470, h480, (by omega), (fun i h0 hi hx => ⟨rfl, ((show (up (hv [80, 81, 82, 83, 84, 85, 86, 87] [] G G431) 64 (Ad E 64) c z432) 64 (Ad E 64) i = _ from up_ne (fun q => absurd q.2.2 (by omega))).trans rfl), ((show (up (hv [80, 81, 82, 83, 84, 85, 86, 87] [] (hv [80, 81, 82, 83, 84, 85, 86, 87] [] (up (hv [80, 81, 82, 83, 84, 85, 86, 87] [] G G431) 64 (Ad E 64) c z432) G464) G469) 65 (Ad E 65) c z470) 65 (Ad E 65) i = _ from up_ne (fun q => absurd q.2.2 (by omega))).trans rfl), rfl, rfl, rfl⟩)⟩
                · skip
                  exfalso; omega
              · skip
                exfalso; omega
          · skip
            exfalso; omega
set_option maxRecDepth 100000 in
set_option maxHeartbeats 4000000 in
theorem c_X12_braces (E : En) (S : Sg) (G : Gh) (w ch : Int) (hS : S (Ad E 1) = 1) (newMany : Int) (newMany_e : newMany = G 1 (Ad E 1) 88) (w_a : 0 ≤ w) (w_b : w ≤ 2) (ch_a : (-1) ≤ ch) (ch_b : ch ≤ 2) (dA : Nat) (hA : RA E S dA (w + 1)) : Calls E mX12_braces [(2, (Ad E 1)), (0, w), (0, ch)] S G (dA + 4) 0 0 (fun r S' G' => S = S' ∧ (∃ G1, hv [80, 81, 82, 83, 84, 85, 86, 87, 88, 89, 90, 91, 92] [62, 63, 64, 65, 66, 67, 68, 69, 70, 71] G G1 = G') ∧ r = none ∧ ∃ bad' : Int, bad' = G' 1 (Ad E 1) 80 ∧ ∃ n' : Int, n' = G' 1 (Ad E 1) 88 ∧ newMany ≤ n' ∧ FRZ E G G' newMany (-1) ∧ (1 ≤ bad' ∨ NI E G' newMany n' n')) := by
  refine calls_by [(0, (2, (Ad E 1))), (1, (0, w)), (2, (0, ch))] rfl rfl (Nat.le_of_ble_eq_true rfl) (fun X hX => ?_)
  have hP := hPX12_braces
  refine r_peekI hX (tl1 88 rfl (by decide)) hS (fun newMany_o newMany_oe newMany_oa newMany_ob => ?_)
  obtain rfl : newMany = newMany_o := newMany_e.trans newMany_oe.symm
  refine r_ex hX hP 2 (pc' := 3) (st' := [(0, 123), (2, (Ad E 1))]) (lo' := [(0, (2, (Ad E 1))), (1, (0, w)), (2, (0, ch))]) rfl ?_
  refine r_peekI hX (tl1 80 rfl (by decide)) hS (fun bap1 bap1e bap1a bap1b => ?_)
  refine r_callV gd hX hP rfl cv_12_427 hS (d' := 2) (mc' := 0) (ms' := 0) (as' := [(0, 123)]) (st := []) (by omega) (by omega) (by omega) rfl rfl (Nat.le_of_ble_eq_true rfl) (c_X12_signB E S G 123 hS bap1 bap1e (by omega) (by omega)) ?_
  rintro _ _ _ ⟨rfl, ⟨G2, rfl⟩, rfl, bah3, bah3e, f4⟩
  refine r_peekI hX (tl1 80 rfl (by decide)) hS (fun o5 o5e o5a o5b => ?_)
  obtain rfl : bah3 = o5 := bah3e.trans o5e.symm
  refine r_ex hX hP 5 (pc' := 11) (st' := [(0, ch), (0, (w + 1)), (2, (Ad E 1))]) (lo' := [(0, (2, (Ad E 1))), (1, (0, w)), (2, (0, ch))]) rfl ?_
  refine r_callV gd hX hP rfl cv_12_431 hS (d' := dA) (mc' := 0) (ms' := 0) (as' := [(0, (w + 1)), (0, ch)]) (st := []) (by omega) (by omega) (by omega) rfl rfl (Nat.le_of_ble_eq_true rfl) (hA (hv [80, 81, 82, 83, 84, 85, 86, 87] [] G G2) ch hS newMany newMany_e (by omega) (by omega)) ?_
  rintro _ _ _ ⟨rfl, ⟨G6, rfl⟩, rfl, bah7, bah7e, neh8, neh8e, f11, q9, q10⟩
  refine r_peekI hX (tl1 80 rfl (by decide)) hS (fun o12 o12e o12a o12b => ?_)
  obtain rfl : bah7 = o12 := bah7e.trans o12e.symm
  refine r_peekI hX (tl1 88 rfl (by decide)) hS (fun o13 o13e o13a o13b => ?_)
  obtain rfl : neh8 = o13 := neh8e.trans o13e.symm
  refine r_ex hX hP 2 (pc' := 17) (st' := [(0, 125), (2, (Ad E 1))]) (lo' := [(0, (2, (Ad E 1))), (1, (0, w)), (2, (0, ch))]) rfl ?_
  refine r_callV gd hX hP rfl cv_12_427 hS (d' := 2) (mc' := 0) (ms' := 0) (as' := [(0, 125)]) (st := []) (by omega) (by omega) (by omega) rfl rfl (Nat.le_of_ble_eq_true rfl) (c_X12_signB E S (hv [80, 81, 82, 83, 84, 85, 86, 87, 88, 89, 90, 91, 92] [62, 63, 64, 65, 66, 67, 68, 69, 70, 71] (hv [80, 81, 82, 83, 84, 85, 86, 87] [] G G2) G6) 125 hS bah7 bah7e (by omega) (by omega)) ?_
  rintro _ _ _ ⟨rfl, ⟨G14, rfl⟩, rfl, bah15, bah15e, f16⟩
  refine r_peekI hX (tl1 80 rfl (by decide)) hS (fun o17 o17e o17a o17b => ?_)
  obtain rfl : bah15 = o17 := bah15e.trans o17e.symm
  exact r_retV hX hP rfl rfl (by omega) (by omega) ⟨rfl, ⟨_, (hq_call (hq_call (hq_call (hq_refl _ _ _) rfl) rfl) rfl).symm⟩, rfl, bah15, bah15e, neh8, neh8e, (by omega), (frz_trans (m := newMany) (x := -1) (fun _ _ _ _ => ⟨rfl, rfl, rfl, rfl, rfl, rfl⟩) (frz_trans q9 (fun _ _ _ _ => ⟨rfl, rfl, rfl, rfl, rfl, rfl⟩) (Int.le_refl _) (fun _ _ _ h => h)) (by omega) (fun _ _ _ h => h)), ((Int.lt_or_le 0 bah15).elim (fun hb => Or.inl (by omega)) (fun hb => Or.inr (ni_frz (q10.resolve_left (by omega)) (m := 1000) (x := -1) (fun _ _ _ _ => ⟨rfl, rfl, rfl, rfl, rfl, rfl⟩) (by omega) (by omega) (fun i _ _ => by omega) (Int.le_refl _))))⟩
