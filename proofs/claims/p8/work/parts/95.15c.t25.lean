set_option maxRecDepth 100000 in
set_option maxHeartbeats 4000000 in
theorem c_X12_strikeT (E : En) (S : Sg) (G : Gh) (w i k : Int) (hS : S (Ad E 1) = 1) (trades : Int) (trades_e : trades = G 1 (Ad E 1) 8) (events : Int) (events_e : events = G 1 (Ad E 1) 9) (says : Int) (says_e : says = G 1 (Ad E 1) 10) (latest : Int) (latest_e : latest = G 1 (Ad E 1) 3) (w_a : (-2147483648) ≤ w) (w_b : w ≤ 2147483647) (i_a : (-2147483648) ≤ i) (i_b : i ≤ 2147483647) (k_a : (-2147483648) ≤ k) (k_b : k ≤ 2147483647) : Calls E mX12_strike [(2, (Ad E 1)), (0, w), (0, i), (0, k)] S G 2 0 0 (fun r S' G' => S = S' ∧ (∃ G1, hv [0, 1, 3] [18, 25, 43] G G1 = G') ∧ ∃ z : Int, r = some (0, z) ∧ ∃ l2 : Int, l2 = G' 1 (Ad E 1) 3 ∧ 0 ≤ z ∧ z ≤ 1 ∧ ((0 ≤ k ∧ k ≤ 40000 ∧ latest ≤ k ∧ l2 = k ∧ ((z = 1 ∧ w = 0 ∧ 0 ≤ i ∧ i < trades ∧ 1000000000 ≤ G 18 (Ad E 18) i ∧ G' 18 (Ad E 18) i = k ∧ (∀ j : Int, j ≠ i → G' 18 (Ad E 18) j = G 18 (Ad E 18) j) ∧ (∀ j : Int, G' 25 (Ad E 25) j = G 25 (Ad E 25) j ∧ G' 43 (Ad E 43) j = G 43 (Ad E 43) j)) ∨ (z = 1 ∧ w = 1 ∧ 0 ≤ i ∧ i < events ∧ 1000000000 ≤ G 25 (Ad E 25) i ∧ G' 25 (Ad E 25) i = k ∧ (∀ j : Int, j ≠ i → G' 25 (Ad E 25) j = G 25 (Ad E 25) j) ∧ (∀ j : Int, G' 18 (Ad E 18) j = G 18 (Ad E 18) j ∧ G' 43 (Ad E 43) j = G 43 (Ad E 43) j)) ∨ (z = 1 ∧ w = 2 ∧ 0 ≤ i ∧ i < says ∧ 1000000000 ≤ G 43 (Ad E 43) i ∧ G' 43 (Ad E 43) i = k ∧ (∀ j : Int, j ≠ i → G' 43 (Ad E 43) j = G 43 (Ad E 43) j) ∧ (∀ j : Int, G' 18 (Ad E 18) j = G 18 (Ad E 18) j ∧ G' 25 (Ad E 25) j = G 25 (Ad E 25) j)))) ∨ (z = 0 ∧ l2 = latest ∧ (∀ j : Int, G' 18 (Ad E 18) j = G 18 (Ad E 18) j ∧ G' 25 (Ad E 25) j = G 25 (Ad E 25) j ∧ G' 43 (Ad E 43) j = G 43 (Ad E 43) j) ∧ ¬ (0 ≤ k ∧ k ≤ 40000 ∧ latest ≤ k ∧ ((w = 0 ∧ 0 ≤ i ∧ i < trades ∧ 1000000000 ≤ G 18 (Ad E 18) i) ∨ (w = 1 ∧ 0 ≤ i ∧ i < events ∧ 1000000000 ≤ G 25 (Ad E 25) i) ∨ (w = 2 ∧ 0 ≤ i ∧ i < says ∧ 1000000000 ≤ G 43 (Ad E 43) i)))))) := by
  refine calls_by [(0, (2, (Ad E 1))), (1, (0, w)), (2, (0, i)), (3, (0, k))] rfl rfl (Nat.le_of_ble_eq_true rfl) (fun X hX => ?_)
  have hP := hPX12_strike
  refine r_peekI hX (tl1 8 rfl (by decide)) hS (fun trades_o trades_oe trades_oa trades_ob => ?_)
  obtain rfl : trades = trades_o := trades_e.trans trades_oe.symm
  refine r_peekI hX (tl1 9 rfl (by decide)) hS (fun events_o events_oe events_oa events_ob => ?_)
  obtain rfl : events = events_o := events_e.trans events_oe.symm
  refine r_peekI hX (tl1 10 rfl (by decide)) hS (fun says_o says_oe says_oa says_ob => ?_)
  obtain rfl : says = says_o := says_e.trans says_oe.symm
  refine r_peekI hX (tl1 3 rfl (by decide)) hS (fun latest_o latest_oe latest_oa latest_ob => ?_)
  obtain rfl : latest = latest_o := latest_e.trans latest_oe.symm
  refine r_ex hX hP 2 (pc' := 2) (st' := [(0, 0), (2, (Ad E 1))]) (lo' := [(0, (2, (Ad E 1))), (1, (0, w)), (2, (0, i)), (3, (0, k))]) rfl ?_
  refine r_putIK hX hP rfl fp_12_304 hS (by first | decide | omega) (by first | decide | omega) (fun h1 => ?_)
  refine r_ex hX hP 2 (pc' := 7) (st' := [(0, 0), (2, (Ad E 1))]) (lo' := [(0, (2, (Ad E 1))), (1, (0, w)), (2, (0, i)), (3, (0, k))]) rfl ?_
  refine r_putIK hX hP rfl fp_12_307 hS (by first | decide | omega) (by first | decide | omega) (fun h2 => ?_)
  refine r_ex hX hP 1 (pc' := 11) (st' := [(0, w)]) (lo' := [(0, (2, (Ad E 1))), (1, (0, w)), (2, (0, i)), (3, (0, k))]) rfl ?_
  refine r_if_ne hX hP rfl (tgt := 21) rfl (by first | decide | omega) (by first | decide | omega) (fun c3 => ?_) (fun c3 => ?_)
  · skip
    refine r_ex hX hP 2 (pc' := 23) (st' := [(0, 1), (0, w)]) (lo' := [(0, (2, (Ad E 1))), (1, (0, w)), (2, (0, i)), (3, (0, k))]) rfl ?_
    refine r_ic_ne hX hP rfl (tgt := 33) rfl (by first | decide | omega) (by first | decide | omega) (by first | decide | omega) (by first | decide | omega) (fun c4 => ?_) (fun c4 => ?_)
    · skip
      refine r_ex hX hP 1 (pc' := 34) (st' := [(2, (Ad E 1))]) (lo' := [(0, (2, (Ad E 1))), (1, (0, w)), (2, (0, i)), (3, (0, k))]) rfl ?_
      refine r_getC hX hP rfl fl_12_143 hS (fun s5 => ?_)
      refine r_ex hX hP 2 (pc' := 40) (st' := [(0, w)]) (lo' := [(0, (2, (Ad E 1))), (1, (0, w)), (2, (0, i)), (3, (0, k)), (4, (2, (Ad E 43)))]) rfl ?_
      refine r_if_ne hX hP rfl (tgt := 50) rfl (by first | decide | omega) (by first | decide | omega) (fun c6 => ?_) (fun c6 => ?_)
      · skip
        refine r_ex hX hP 2 (pc' := 52) (st' := [(0, 1), (0, w)]) (lo' := [(0, (2, (Ad E 1))), (1, (0, w)), (2, (0, i)), (3, (0, k)), (4, (2, (Ad E 43)))]) rfl ?_
        refine r_ic_ne hX hP rfl (tgt := 62) rfl (by first | decide | omega) (by first | decide | omega) (by first | decide | omega) (by first | decide | omega) (fun c7 => ?_) (fun c7 => ?_)
        · skip
          refine r_ex hX hP 1 (pc' := 63) (st' := [(2, (Ad E 1))]) (lo' := [(0, (2, (Ad E 1))), (1, (0, w)), (2, (0, i)), (3, (0, k)), (4, (2, (Ad E 43)))]) rfl ?_
          refine r_getKI hX hP rfl fl_12_496 hS (x := says) says_e ?_
          refine r_ex hX hP 4 (pc' := 71) (st' := [(0, 2), (0, 0), (0, w)]) (lo' := [(0, (2, (Ad E 1))), (1, (0, w)), (2, (0, i)), (3, (0, k)), (4, (2, (Ad E 43))), (5, (0, says))]) rfl ?_
          refine r_callS gd hX hP rfl cs_12_310 (d' := 0) (mc' := 0) (ms' := 0) (as' := [(0, w), (0, 0), (0, 2)]) (st := []) (by first | decide | omega) (by first | decide | omega) (by first | decide | omega) rfl rfl (Nat.le_of_ble_eq_true rfl) (c_X12_isIn E S (up (up G 1 (Ad E 1) 1 0) 1 (Ad E 1) 0 0) w 0 2 (by first | decide | omega) (by first | decide | omega) (by first | decide | omega) (by first | decide | omega) (by first | decide | omega) (by first | decide | omega)) ?_
          rintro _ _ _ ⟨rfl, rfl, z8, rfl, (⟨rfl, f9, f10⟩ | ⟨rfl, f11⟩)⟩
          · skip
            refine r_if_eq hX hP rfl (tgt := 95) rfl (by first | decide | omega) (by first | decide | omega) (fun c12 => ?_) (fun c12 => ?_)
            · skip
              exfalso; omega
            · skip
              refine r_ex hX hP 5 (pc' := 83) (st' := [(0, (says - 1)), (0, 0), (0, i)]) (lo' := [(0, (2, (Ad E 1))), (1, (0, w)), (2, (0, i)), (3, (0, k)), (4, (2, (Ad E 43))), (5, (0, says))]) rfl ?_
              refine r_callS gd hX hP rfl cs_12_310 (d' := 0) (mc' := 0) (ms' := 0) (as' := [(0, i), (0, 0), (0, (says - 1))]) (st := []) (by first | decide | omega) (by first | decide | omega) (by first | decide | omega) rfl rfl (Nat.le_of_ble_eq_true rfl) (c_X12_isIn E S (up (up G 1 (Ad E 1) 1 0) 1 (Ad E 1) 0 0) i 0 (says - 1) (by first | decide | omega) (by first | decide | omega) (by first | decide | omega) (by first | decide | omega) (by first | decide | omega) (by first | decide | omega)) ?_
              rintro _ _ _ ⟨rfl, rfl, z13, rfl, (⟨rfl, f14, f15⟩ | ⟨rfl, f16⟩)⟩
              · skip
                refine r_if_ne hX hP rfl (tgt := 95) rfl (by first | decide | omega) (by first | decide | omega) (fun c17 => ?_) (fun c17 => ?_)
                · skip
                  refine r_ex hX hP 3 (pc' := 98) (st' := [(0, 2), (0, 0), (0, w)]) (lo' := [(0, (2, (Ad E 1))), (1, (0, w)), (2, (0, i)), (3, (0, k)), (4, (2, (Ad E 43))), (5, (0, says))]) rfl ?_
                  refine r_callS gd hX hP rfl cs_12_310 (d' := 0) (mc' := 0) (ms' := 0) (as' := [(0, w), (0, 0), (0, 2)]) (st := []) (by first | decide | omega) (by first | decide | omega) (by first | decide | omega) rfl rfl (Nat.le_of_ble_eq_true rfl) (c_X12_isIn E S (up (up G 1 (Ad E 1) 1 0) 1 (Ad E 1) 0 0) w 0 2 (by first | decide | omega) (by first | decide | omega) (by first | decide | omega) (by first | decide | omega) (by first | decide | omega) (by first | decide | omega)) ?_
                  rintro _ _ _ ⟨rfl, rfl, z18, rfl, (⟨rfl, f19, f20⟩ | ⟨rfl, f21⟩)⟩
                  · skip
                    refine r_if_eq hX hP rfl (tgt := 111) rfl (by first | decide | omega) (by first | decide | omega) (fun c22 => ?_) (fun c22 => ?_)
                    · skip
                      exfalso; omega
                    · skip
                      refine r_ex hX hP 1 (pc' := 105) (st' := [(0, k)]) (lo' := [(0, (2, (Ad E 1))), (1, (0, w)), (2, (0, i)), (3, (0, k)), (4, (2, (Ad E 43))), (5, (0, says))]) rfl ?_
                      refine r_callS gd hX hP rfl cs_12_317 (d' := 1) (mc' := 0) (ms' := 0) (as' := [(0, k)]) (st := []) (by first | decide | omega) (by first | decide | omega) (by first | decide | omega) rfl rfl (Nat.le_of_ble_eq_true rfl) (c_X12_isDay E S (up (up G 1 (Ad E 1) 1 0) 1 (Ad E 1) 0 0) k (by first | decide | omega) (by first | decide | omega)) ?_
                      rintro _ _ _ ⟨rfl, rfl, z23, rfl, (⟨rfl, f24, f25⟩ | ⟨rfl, f26⟩)⟩
                      · skip
                        refine r_if_ne hX hP rfl (tgt := 117) rfl (by first | decide | omega) (by first | decide | omega) (fun c27 => ?_) (fun c27 => ?_)
                        · skip
                          refine r_ex hX hP 2 (pc' := 119) (st' := [(2, (Ad E 1)), (0, k)]) (lo' := [(0, (2, (Ad E 1))), (1, (0, w)), (2, (0, i)), (3, (0, k)), (4, (2, (Ad E 43))), (5, (0, says))]) rfl ?_
                          refine r_getKI hX hP rfl fl_12_339 hS (x := latest) latest_e ?_
                          refine r_ic_lt hX hP rfl (tgt := 135) rfl (by first | decide | omega) (by first | decide | omega) (by first | decide | omega) (by first | decide | omega) (fun c28 => ?_) (fun c28 => ?_)
                          · skip
                            refine r_ex hX hP 2 (pc' := 137) (st' := [(0, 4), (2, (Ad E 1))]) (lo' := [(0, (2, (Ad E 1))), (1, (0, w)), (2, (0, i)), (3, (0, k)), (4, (2, (Ad E 43))), (5, (0, says))]) rfl ?_
                            refine r_callV gd hX hP rfl cv_12_321 hS (d' := 0) (mc' := 0) (ms' := 0) (as' := [(0, 4)]) (st := []) (by first | decide | omega) (by first | decide | omega) (by first | decide | omega) rfl rfl (Nat.le_of_ble_eq_true rfl) (c_X12_no E S (up (up G 1 (Ad E 1) 1 0) 1 (Ad E 1) 0 0) 4 hS (by first | decide | omega) (by first | decide | omega)) ?_
                            rintro _ _ _ ⟨rfl, ⟨G29, rfl⟩, z30, rfl, rfl⟩
                            exact r_retZ hX hP rfl rfl (by first | decide | omega) (by first | decide | omega) (by first | decide | omega) (by first | decide | omega) ⟨rfl, ⟨_, (hq_call (hq_up (hq_up (hq_refl _ _ _) rfl) rfl) rfl).symm⟩, 0, rfl, latest, latest_e, (by first | decide | omega), (by first | decide | omega), (Or.inr ⟨rfl, by omega, fun j => ⟨rfl, rfl, rfl⟩, by omega⟩)⟩
                          · skip
                            refine r_ex hX hP 2 (pc' := 128) (st' := [(0, i), (2, (Ad E 43))]) (lo' := [(0, (2, (Ad E 1))), (1, (0, w)), (2, (0, i)), (3, (0, k)), (4, (2, (Ad E 43))), (5, (0, says))]) rfl ?_
                            refine r_iald hX hP rfl al_43 s5 (by first | decide | omega) (by first | decide | omega) (fun x31 x31e x31a x31b => ?_)
                            have k32 : x31 = G 43 (Ad E 43) i := x31e
                            refine r_ldcw hX hP rfl (v := 1000000000) (tbg sg9 109 rfl rfl) ?_
                            refine r_ic_ge hX hP rfl (tgt := 141) rfl (by first | decide | omega) (by first | decide | omega) (by first | decide | omega) (by first | decide | omega) (fun c33 => ?_) (fun c33 => ?_)
                            · skip
                              refine r_ex hX hP 3 (pc' := 145) (st' := [(0, k), (0, i), (2, (Ad E 43))]) (lo' := [(0, (2, (Ad E 1))), (1, (0, w)), (2, (0, i)), (3, (0, k)), (4, (2, (Ad E 43))), (5, (0, says))]) rfl ?_
                              refine r_iastK hX hP rfl al_43 s5 (by first | decide | omega) (by first | decide | omega) (by first | decide | omega) (by first | decide | omega) (fun h34 => ?_)
                              refine r_ex hX hP 2 (pc' := 148) (st' := [(0, k), (2, (Ad E 1))]) (lo' := [(0, (2, (Ad E 1))), (1, (0, w)), (2, (0, i)), (3, (0, k)), (4, (2, (Ad E 43))), (5, (0, says))]) rfl ?_
                              refine r_putIK hX hP rfl fp_12_339 hS (by first | decide | omega) (by first | decide | omega) (fun h35 => ?_)
                              refine r_ex hX hP 1 (pc' := 152) (st' := [(0, 1)]) (lo' := [(0, (2, (Ad E 1))), (1, (0, w)), (2, (0, i)), (3, (0, k)), (4, (2, (Ad E 43))), (5, (0, says))]) rfl ?_
                              exact r_retZ hX hP rfl rfl (by first | decide | omega) (by first | decide | omega) (by first | decide | omega) (by first | decide | omega) ⟨rfl, ⟨_, (hq_up (hq_up (hq_up (hq_up (hq_refl _ _ _) rfl) rfl) rfl) rfl).symm⟩, 1, rfl, k, h35, (by first | decide | omega), (by first | decide | omega), (Or.inl ⟨by omega, by omega, by omega, by omega, (Or.inr (Or.inr ⟨rfl, by omega, by omega, by omega, by omega, (show (up (up (up G 1 (Ad E 1) 1 0) 1 (Ad E 1) 0 0) 43 (Ad E 43) i k) 43 (Ad E 43) i = k from up_self _ _ _ _ _), (fun j hi => ((show (up (up (up G 1 (Ad E 1) 1 0) 1 (Ad E 1) 0 0) 43 (Ad E 43) i k) 43 (Ad E 43) j = _ from up_ne (fun q => absurd q.2.2 (by first | decide | omega))).trans rfl)), (fun j => ⟨rfl, rfl⟩)⟩))⟩)⟩
                            · skip
                              refine r_ex hX hP 2 (pc' := 137) (st' := [(0, 4), (2, (Ad E 1))]) (lo' := [(0, (2, (Ad E 1))), (1, (0, w)), (2, (0, i)), (3, (0, k)), (4, (2, (Ad E 43))), (5, (0, says))]) rfl ?_
                              refine r_callV gd hX hP rfl cv_12_321 hS (d' := 0) (mc' := 0) (ms' := 0) (as' := [(0, 4)]) (st := []) (by first | decide | omega) (by first | decide | omega) (by first | decide | omega) rfl rfl (Nat.le_of_ble_eq_true rfl) (c_X12_no E S (up (up G 1 (Ad E 1) 1 0) 1 (Ad E 1) 0 0) 4 hS (by first | decide | omega) (by first | decide | omega)) ?_
                              rintro _ _ _ ⟨rfl, ⟨G36, rfl⟩, z37, rfl, rfl⟩
                              exact r_retZ hX hP rfl rfl (by first | decide | omega) (by first | decide | omega) (by first | decide | omega) (by first | decide | omega) ⟨rfl, ⟨_, (hq_call (hq_up (hq_up (hq_refl _ _ _) rfl) rfl) rfl).symm⟩, 0, rfl, latest, latest_e, (by first | decide | omega), (by first | decide | omega), (Or.inr ⟨rfl, by omega, fun j => ⟨rfl, rfl, rfl⟩, by omega⟩)⟩
                        · skip
                          exfalso; omega
                      · skip
                        refine r_if_ne hX hP rfl (tgt := 117) rfl (by first | decide | omega) (by first | decide | omega) (fun c38 => ?_) (fun c38 => ?_)
                        · skip
                          exfalso; omega
                        · skip
                          refine r_ex hX hP 2 (pc' := 113) (st' := [(0, 2), (2, (Ad E 1))]) (lo' := [(0, (2, (Ad E 1))), (1, (0, w)), (2, (0, i)), (3, (0, k)), (4, (2, (Ad E 43))), (5, (0, says))]) rfl ?_
                          refine r_callV gd hX hP rfl cv_12_321 hS (d' := 0) (mc' := 0) (ms' := 0) (as' := [(0, 2)]) (st := []) (by first | decide | omega) (by first | decide | omega) (by first | decide | omega) rfl rfl (Nat.le_of_ble_eq_true rfl) (c_X12_no E S (up (up G 1 (Ad E 1) 1 0) 1 (Ad E 1) 0 0) 2 hS (by first | decide | omega) (by first | decide | omega)) ?_
                          rintro _ _ _ ⟨rfl, ⟨G39, rfl⟩, z40, rfl, rfl⟩
                          exact r_retZ hX hP rfl rfl (by first | decide | omega) (by first | decide | omega) (by first | decide | omega) (by first | decide | omega) ⟨rfl, ⟨_, (hq_call (hq_up (hq_up (hq_refl _ _ _) rfl) rfl) rfl).symm⟩, 0, rfl, latest, latest_e, (by first | decide | omega), (by first | decide | omega), (Or.inr ⟨rfl, by omega, fun j => ⟨rfl, rfl, rfl⟩, by omega⟩)⟩
                  · skip
                    refine r_if_eq hX hP rfl (tgt := 111) rfl (by first | decide | omega) (by first | decide | omega) (fun c41 => ?_) (fun c41 => ?_)
                    · skip
                      refine r_ex hX hP 2 (pc' := 113) (st' := [(0, 2), (2, (Ad E 1))]) (lo' := [(0, (2, (Ad E 1))), (1, (0, w)), (2, (0, i)), (3, (0, k)), (4, (2, (Ad E 43))), (5, (0, says))]) rfl ?_
                      refine r_callV gd hX hP rfl cv_12_321 hS (d' := 0) (mc' := 0) (ms' := 0) (as' := [(0, 2)]) (st := []) (by first | decide | omega) (by first | decide | omega) (by first | decide | omega) rfl rfl (Nat.le_of_ble_eq_true rfl) (c_X12_no E S (up (up G 1 (Ad E 1) 1 0) 1 (Ad E 1) 0 0) 2 hS (by first | decide | omega) (by first | decide | omega)) ?_
                      rintro _ _ _ ⟨rfl, ⟨G42, rfl⟩, z43, rfl, rfl⟩
                      exact r_retZ hX hP rfl rfl (by first | decide | omega) (by first | decide | omega) (by first | decide | omega) (by first | decide | omega) ⟨rfl, ⟨_, (hq_call (hq_up (hq_up (hq_refl _ _ _) rfl) rfl) rfl).symm⟩, 0, rfl, latest, latest_e, (by first | decide | omega), (by first | decide | omega), (Or.inr ⟨rfl, by omega, fun j => ⟨rfl, rfl, rfl⟩, by omega⟩)⟩
                    · skip
                      exfalso; omega
                · skip
                  exfalso; omega
              · skip
                refine r_if_ne hX hP rfl (tgt := 95) rfl (by first | decide | omega) (by first | decide | omega) (fun c44 => ?_) (fun c44 => ?_)
                · skip
                  exfalso; omega
                · skip
                  refine r_ex hX hP 2 (pc' := 91) (st' := [(0, 1), (2, (Ad E 1))]) (lo' := [(0, (2, (Ad E 1))), (1, (0, w)), (2, (0, i)), (3, (0, k)), (4, (2, (Ad E 43))), (5, (0, says))]) rfl ?_
                  refine r_callV gd hX hP rfl cv_12_321 hS (d' := 0) (mc' := 0) (ms' := 0) (as' := [(0, 1)]) (st := []) (by first | decide | omega) (by first | decide | omega) (by first | decide | omega) rfl rfl (Nat.le_of_ble_eq_true rfl) (c_X12_no E S (up (up G 1 (Ad E 1) 1 0) 1 (Ad E 1) 0 0) 1 hS (by first | decide | omega) (by first | decide | omega)) ?_
                  rintro _ _ _ ⟨rfl, ⟨G45, rfl⟩, z46, rfl, rfl⟩
                  exact r_retZ hX hP rfl rfl (by first | decide | omega) (by first | decide | omega) (by first | decide | omega) (by first | decide | omega) ⟨rfl, ⟨_, (hq_call (hq_up (hq_up (hq_refl _ _ _) rfl) rfl) rfl).symm⟩, 0, rfl, latest, latest_e, (by first | decide | omega), (by first | decide | omega), (Or.inr ⟨rfl, by omega, fun j => ⟨rfl, rfl, rfl⟩, by omega⟩)⟩
          · skip
            refine r_if_eq hX hP rfl (tgt := 95) rfl (by first | decide | omega) (by first | decide | omega) (fun c47 => ?_) (fun c47 => ?_)
            · skip
              refine r_ex hX hP 3 (pc' := 98) (st' := [(0, 2), (0, 0), (0, w)]) (lo' := [(0, (2, (Ad E 1))), (1, (0, w)), (2, (0, i)), (3, (0, k)), (4, (2, (Ad E 43))), (5, (0, says))]) rfl ?_
              refine r_callS gd hX hP rfl cs_12_310 (d' := 0) (mc' := 0) (ms' := 0) (as' := [(0, w), (0, 0), (0, 2)]) (st := []) (by first | decide | omega) (by first | decide | omega) (by first | decide | omega) rfl rfl (Nat.le_of_ble_eq_true rfl) (c_X12_isIn E S (up (up G 1 (Ad E 1) 1 0) 1 (Ad E 1) 0 0) w 0 2 (by first | decide | omega) (by first | decide | omega) (by first | decide | omega) (by first | decide | omega) (by first | decide | omega) (by first | decide | omega)) ?_
              rintro _ _ _ ⟨rfl, rfl, z48, rfl, (⟨rfl, f49, f50⟩ | ⟨rfl, f51⟩)⟩
              · skip
                refine r_if_eq hX hP rfl (tgt := 111) rfl (by first | decide | omega) (by first | decide | omega) (fun c52 => ?_) (fun c52 => ?_)
                · skip
                  exfalso; omega
                · skip
                  refine r_ex hX hP 1 (pc' := 105) (st' := [(0, k)]) (lo' := [(0, (2, (Ad E 1))), (1, (0, w)), (2, (0, i)), (3, (0, k)), (4, (2, (Ad E 43))), (5, (0, says))]) rfl ?_
                  refine r_callS gd hX hP rfl cs_12_317 (d' := 1) (mc' := 0) (ms' := 0) (as' := [(0, k)]) (st := []) (by first | decide | omega) (by first | decide | omega) (by first | decide | omega) rfl rfl (Nat.le_of_ble_eq_true rfl) (c_X12_isDay E S (up (up G 1 (Ad E 1) 1 0) 1 (Ad E 1) 0 0) k (by first | decide | omega) (by first | decide | omega)) ?_
                  rintro _ _ _ ⟨rfl, rfl, z53, rfl, (⟨rfl, f54, f55⟩ | ⟨rfl, f56⟩)⟩
                  · skip
                    refine r_if_ne hX hP rfl (tgt := 117) rfl (by first | decide | omega) (by first | decide | omega) (fun c57 => ?_) (fun c57 => ?_)
                    · skip
                      refine r_ex hX hP 2 (pc' := 119) (st' := [(2, (Ad E 1)), (0, k)]) (lo' := [(0, (2, (Ad E 1))), (1, (0, w)), (2, (0, i)), (3, (0, k)), (4, (2, (Ad E 43))), (5, (0, says))]) rfl ?_
                      refine r_getKI hX hP rfl fl_12_339 hS (x := latest) latest_e ?_
                      refine r_ic_lt hX hP rfl (tgt := 135) rfl (by first | decide | omega) (by first | decide | omega) (by first | decide | omega) (by first | decide | omega) (fun c58 => ?_) (fun c58 => ?_)
                      · skip
                        refine r_ex hX hP 2 (pc' := 137) (st' := [(0, 4), (2, (Ad E 1))]) (lo' := [(0, (2, (Ad E 1))), (1, (0, w)), (2, (0, i)), (3, (0, k)), (4, (2, (Ad E 43))), (5, (0, says))]) rfl ?_
                        refine r_callV gd hX hP rfl cv_12_321 hS (d' := 0) (mc' := 0) (ms' := 0) (as' := [(0, 4)]) (st := []) (by first | decide | omega) (by first | decide | omega) (by first | decide | omega) rfl rfl (Nat.le_of_ble_eq_true rfl) (c_X12_no E S (up (up G 1 (Ad E 1) 1 0) 1 (Ad E 1) 0 0) 4 hS (by first | decide | omega) (by first | decide | omega)) ?_
                        rintro _ _ _ ⟨rfl, ⟨G59, rfl⟩, z60, rfl, rfl⟩
                        exact r_retZ hX hP rfl rfl (by first | decide | omega) (by first | decide | omega) (by first | decide | omega) (by first | decide | omega) ⟨rfl, ⟨_, (hq_call (hq_up (hq_up (hq_refl _ _ _) rfl) rfl) rfl).symm⟩, 0, rfl, latest, latest_e, (by first | decide | omega), (by first | decide | omega), (Or.inr ⟨rfl, by omega, fun j => ⟨rfl, rfl, rfl⟩, by omega⟩)⟩
                      · skip
                        refine r_ex hX hP 2 (pc' := 128) (st' := [(0, i), (2, (Ad E 43))]) (lo' := [(0, (2, (Ad E 1))), (1, (0, w)), (2, (0, i)), (3, (0, k)), (4, (2, (Ad E 43))), (5, (0, says))]) rfl ?_
                        refine r_iald hX hP rfl al_43 s5 (by first | decide | omega) (by first | decide | omega) (fun x61 x61e x61a x61b => ?_)
                        have k62 : x61 = G 43 (Ad E 43) i := x61e
                        refine r_ldcw hX hP rfl (v := 1000000000) (tbg sg9 109 rfl rfl) ?_
                        refine r_ic_ge hX hP rfl (tgt := 141) rfl (by first | decide | omega) (by first | decide | omega) (by first | decide | omega) (by first | decide | omega) (fun c63 => ?_) (fun c63 => ?_)
                        · skip
                          refine r_ex hX hP 3 (pc' := 145) (st' := [(0, k), (0, i), (2, (Ad E 43))]) (lo' := [(0, (2, (Ad E 1))), (1, (0, w)), (2, (0, i)), (3, (0, k)), (4, (2, (Ad E 43))), (5, (0, says))]) rfl ?_
                          refine r_iastK hX hP rfl al_43 s5 (by first | decide | omega) (by first | decide | omega) (by first | decide | omega) (by first | decide | omega) (fun h64 => ?_)
                          refine r_ex hX hP 2 (pc' := 148) (st' := [(0, k), (2, (Ad E 1))]) (lo' := [(0, (2, (Ad E 1))), (1, (0, w)), (2, (0, i)), (3, (0, k)), (4, (2, (Ad E 43))), (5, (0, says))]) rfl ?_
                          refine r_putIK hX hP rfl fp_12_339 hS (by first | decide | omega) (by first | decide | omega) (fun h65 => ?_)
                          refine r_ex hX hP 1 (pc' := 152) (st' := [(0, 1)]) (lo' := [(0, (2, (Ad E 1))), (1, (0, w)), (2, (0, i)), (3, (0, k)), (4, (2, (Ad E 43))), (5, (0, says))]) rfl ?_
                          exact r_retZ hX hP rfl rfl (by first | decide | omega) (by first | decide | omega) (by first | decide | omega) (by first | decide | omega) ⟨rfl, ⟨_, (hq_up (hq_up (hq_up (hq_up (hq_refl _ _ _) rfl) rfl) rfl) rfl).symm⟩, 1, rfl, k, h65, (by first | decide | omega), (by first | decide | omega), (Or.inl ⟨by omega, by omega, by omega, by omega, (Or.inr (Or.inr ⟨rfl, by omega, by omega, by omega, by omega, (show (up (up (up G 1 (Ad E 1) 1 0) 1 (Ad E 1) 0 0) 43 (Ad E 43) i k) 43 (Ad E 43) i = k from up_self _ _ _ _ _), (fun j hi => ((show (up (up (up G 1 (Ad E 1) 1 0) 1 (Ad E 1) 0 0) 43 (Ad E 43) i k) 43 (Ad E 43) j = _ from up_ne (fun q => absurd q.2.2 (by first | decide | omega))).trans rfl)), (fun j => ⟨rfl, rfl⟩)⟩))⟩)⟩
                        · skip
                          refine r_ex hX hP 2 (pc' := 137) (st' := [(0, 4), (2, (Ad E 1))]) (lo' := [(0, (2, (Ad E 1))), (1, (0, w)), (2, (0, i)), (3, (0, k)), (4, (2, (Ad E 43))), (5, (0, says))]) rfl ?_
                          refine r_callV gd hX hP rfl cv_12_321 hS (d' := 0) (mc' := 0) (ms' := 0) (as' := [(0, 4)]) (st := []) (by first | decide | omega) (by first | decide | omega) (by first | decide | omega) rfl rfl (Nat.le_of_ble_eq_true rfl) (c_X12_no E S (up (up G 1 (Ad E 1) 1 0) 1 (Ad E 1) 0 0) 4 hS (by first | decide | omega) (by first | decide | omega)) ?_
                          rintro _ _ _ ⟨rfl, ⟨G66, rfl⟩, z67, rfl, rfl⟩
                          exact r_retZ hX hP rfl rfl (by first | decide | omega) (by first | decide | omega) (by first | decide | omega) (by first | decide | omega) ⟨rfl, ⟨_, (hq_call (hq_up (hq_up (hq_refl _ _ _) rfl) rfl) rfl).symm⟩, 0, rfl, latest, latest_e, (by first | decide | omega), (by first | decide | omega), (Or.inr ⟨rfl, by omega, fun j => ⟨rfl, rfl, rfl⟩, by omega⟩)⟩
                    · skip
                      exfalso; omega
                  · skip
                    refine r_if_ne hX hP rfl (tgt := 117) rfl (by first | decide | omega) (by first | decide | omega) (fun c68 => ?_) (fun c68 => ?_)
                    · skip
                      exfalso; omega
                    · skip
                      refine r_ex hX hP 2 (pc' := 113) (st' := [(0, 2), (2, (Ad E 1))]) (lo' := [(0, (2, (Ad E 1))), (1, (0, w)), (2, (0, i)), (3, (0, k)), (4, (2, (Ad E 43))), (5, (0, says))]) rfl ?_
                      refine r_callV gd hX hP rfl cv_12_321 hS (d' := 0) (mc' := 0) (ms' := 0) (as' := [(0, 2)]) (st := []) (by first | decide | omega) (by first | decide | omega) (by first | decide | omega) rfl rfl (Nat.le_of_ble_eq_true rfl) (c_X12_no E S (up (up G 1 (Ad E 1) 1 0) 1 (Ad E 1) 0 0) 2 hS (by first | decide | omega) (by first | decide | omega)) ?_
                      rintro _ _ _ ⟨rfl, ⟨G69, rfl⟩, z70, rfl, rfl⟩
                      exact r_retZ hX hP rfl rfl (by first | decide | omega) (by first | decide | omega) (by first | decide | omega) (by first | decide | omega) ⟨rfl, ⟨_, (hq_call (hq_up (hq_up (hq_refl _ _ _) rfl) rfl) rfl).symm⟩, 0, rfl, latest, latest_e, (by first | decide | omega), (by first | decide | omega), (Or.inr ⟨rfl, by omega, fun j => ⟨rfl, rfl, rfl⟩, by omega⟩)⟩
              · skip
                refine r_if_eq hX hP rfl (tgt := 111) rfl (by first | decide | omega) (by first | decide | omega) (fun c71 => ?_) (fun c71 => ?_)
                · skip
                  refine r_ex hX hP 2 (pc' := 113) (st' := [(0, 2), (2, (Ad E 1))]) (lo' := [(0, (2, (Ad E 1))), (1, (0, w)), (2, (0, i)), (3, (0, k)), (4, (2, (Ad E 43))), (5, (0, says))]) rfl ?_
                  refine r_callV gd hX hP rfl cv_12_321 hS (d' := 0) (mc' := 0) (ms' := 0) (as' := [(0, 2)]) (st := []) (by first | decide | omega) (by first | decide | omega) (by first | decide | omega) rfl rfl (Nat.le_of_ble_eq_true rfl) (c_X12_no E S (up (up G 1 (Ad E 1) 1 0) 1 (Ad E 1) 0 0) 2 hS (by first | decide | omega) (by first | decide | omega)) ?_
                  rintro _ _ _ ⟨rfl, ⟨G72, rfl⟩, z73, rfl, rfl⟩
                  exact r_retZ hX hP rfl rfl (by first | decide | omega) (by first | decide | omega) (by first | decide | omega) (by first | decide | omega) ⟨rfl, ⟨_, (hq_call (hq_up (hq_up (hq_refl _ _ _) rfl) rfl) rfl).symm⟩, 0, rfl, latest, latest_e, (by first | decide | omega), (by first | decide | omega), (Or.inr ⟨rfl, by omega, fun j => ⟨rfl, rfl, rfl⟩, by omega⟩)⟩
                · skip
                  exfalso; omega
            · skip
              exfalso; omega
        · skip
          refine r_ex hX hP 1 (pc' := 56) (st' := [(2, (Ad E 1))]) (lo' := [(0, (2, (Ad E 1))), (1, (0, w)), (2, (0, i)), (3, (0, k)), (4, (2, (Ad E 43)))]) rfl ?_
          refine r_getKI hX hP rfl fl_12_490 hS (x := events) events_e ?_
          refine r_ex hX hP 5 (pc' := 71) (st' := [(0, 2), (0, 0), (0, w)]) (lo' := [(0, (2, (Ad E 1))), (1, (0, w)), (2, (0, i)), (3, (0, k)), (4, (2, (Ad E 43))), (5, (0, events))]) rfl ?_
          refine r_callS gd hX hP rfl cs_12_310 (d' := 0) (mc' := 0) (ms' := 0) (as' := [(0, w), (0, 0), (0, 2)]) (st := []) (by first | decide | omega) (by first | decide | omega) (by first | decide | omega) rfl rfl (Nat.le_of_ble_eq_true rfl) (c_X12_isIn E S (up (up G 1 (Ad E 1) 1 0) 1 (Ad E 1) 0 0) w 0 2 (by first | decide | omega) (by first | decide | omega) (by first | decide | omega) (by first | decide | omega) (by first | decide | omega) (by first | decide | omega)) ?_
          rintro _ _ _ ⟨rfl, rfl, z74, rfl, (⟨rfl, f75, f76⟩ | ⟨rfl, f77⟩)⟩
          · skip
            refine r_if_eq hX hP rfl (tgt := 95) rfl (by first | decide | omega) (by first | decide | omega) (fun c78 => ?_) (fun c78 => ?_)
            · skip
              exfalso; omega
            · skip
              refine r_ex hX hP 5 (pc' := 83) (st' := [(0, (events - 1)), (0, 0), (0, i)]) (lo' := [(0, (2, (Ad E 1))), (1, (0, w)), (2, (0, i)), (3, (0, k)), (4, (2, (Ad E 43))), (5, (0, events))]) rfl ?_
              refine r_callS gd hX hP rfl cs_12_310 (d' := 0) (mc' := 0) (ms' := 0) (as' := [(0, i), (0, 0), (0, (events - 1))]) (st := []) (by first | decide | omega) (by first | decide | omega) (by first | decide | omega) rfl rfl (Nat.le_of_ble_eq_true rfl) (c_X12_isIn E S (up (up G 1 (Ad E 1) 1 0) 1 (Ad E 1) 0 0) i 0 (events - 1) (by first | decide | omega) (by first | decide | omega) (by first | decide | omega) (by first | decide | omega) (by first | decide | omega) (by first | decide | omega)) ?_
              rintro _ _ _ ⟨rfl, rfl, z79, rfl, (⟨rfl, f80, f81⟩ | ⟨rfl, f82⟩)⟩
              · skip
                refine r_if_ne hX hP rfl (tgt := 95) rfl (by first | decide | omega) (by first | decide | omega) (fun c83 => ?_) (fun c83 => ?_)
                · skip
                  refine r_ex hX hP 3 (pc' := 98) (st' := [(0, 2), (0, 0), (0, w)]) (lo' := [(0, (2, (Ad E 1))), (1, (0, w)), (2, (0, i)), (3, (0, k)), (4, (2, (Ad E 43))), (5, (0, events))]) rfl ?_
                  refine r_callS gd hX hP rfl cs_12_310 (d' := 0) (mc' := 0) (ms' := 0) (as' := [(0, w), (0, 0), (0, 2)]) (st := []) (by first | decide | omega) (by first | decide | omega) (by first | decide | omega) rfl rfl (Nat.le_of_ble_eq_true rfl) (c_X12_isIn E S (up (up G 1 (Ad E 1) 1 0) 1 (Ad E 1) 0 0) w 0 2 (by first | decide | omega) (by first | decide | omega) (by first | decide | omega) (by first | decide | omega) (by first | decide | omega) (by first | decide | omega)) ?_
                  rintro _ _ _ ⟨rfl, rfl, z84, rfl, (⟨rfl, f85, f86⟩ | ⟨rfl, f87⟩)⟩
                  · skip
                    refine r_if_eq hX hP rfl (tgt := 111) rfl (by first | decide | omega) (by first | decide | omega) (fun c88 => ?_) (fun c88 => ?_)
                    · skip
                      exfalso; omega
                    · skip
                      refine r_ex hX hP 1 (pc' := 105) (st' := [(0, k)]) (lo' := [(0, (2, (Ad E 1))), (1, (0, w)), (2, (0, i)), (3, (0, k)), (4, (2, (Ad E 43))), (5, (0, events))]) rfl ?_
                      refine r_callS gd hX hP rfl cs_12_317 (d' := 1) (mc' := 0) (ms' := 0) (as' := [(0, k)]) (st := []) (by first | decide | omega) (by first | decide | omega) (by first | decide | omega) rfl rfl (Nat.le_of_ble_eq_true rfl) (c_X12_isDay E S (up (up G 1 (Ad E 1) 1 0) 1 (Ad E 1) 0 0) k (by first | decide | omega) (by first | decide | omega)) ?_
                      rintro _ _ _ ⟨rfl, rfl, z89, rfl, (⟨rfl, f90, f91⟩ | ⟨rfl, f92⟩)⟩
                      · skip
                        refine r_if_ne hX hP rfl (tgt := 117) rfl (by first | decide | omega) (by first | decide | omega) (fun c93 => ?_) (fun c93 => ?_)
                        · skip
                          refine r_ex hX hP 2 (pc' := 119) (st' := [(2, (Ad E 1)), (0, k)]) (lo' := [(0, (2, (Ad E 1))), (1, (0, w)), (2, (0, i)), (3, (0, k)), (4, (2, (Ad E 43))), (5, (0, events))]) rfl ?_
                          refine r_getKI hX hP rfl fl_12_339 hS (x := latest) latest_e ?_
                          refine r_ic_lt hX hP rfl (tgt := 135) rfl (by first | decide | omega) (by first | decide | omega) (by first | decide | omega) (by first | decide | omega) (fun c94 => ?_) (fun c94 => ?_)
                          · skip
                            refine r_ex hX hP 2 (pc' := 137) (st' := [(0, 4), (2, (Ad E 1))]) (lo' := [(0, (2, (Ad E 1))), (1, (0, w)), (2, (0, i)), (3, (0, k)), (4, (2, (Ad E 43))), (5, (0, events))]) rfl ?_
                            refine r_callV gd hX hP rfl cv_12_321 hS (d' := 0) (mc' := 0) (ms' := 0) (as' := [(0, 4)]) (st := []) (by first | decide | omega) (by first | decide | omega) (by first | decide | omega) rfl rfl (Nat.le_of_ble_eq_true rfl) (c_X12_no E S (up (up G 1 (Ad E 1) 1 0) 1 (Ad E 1) 0 0) 4 hS (by first | decide | omega) (by first | decide | omega)) ?_
                            rintro _ _ _ ⟨rfl, ⟨G95, rfl⟩, z96, rfl, rfl⟩
                            exact r_retZ hX hP rfl rfl (by first | decide | omega) (by first | decide | omega) (by first | decide | omega) (by first | decide | omega) ⟨rfl, ⟨_, (hq_call (hq_up (hq_up (hq_refl _ _ _) rfl) rfl) rfl).symm⟩, 0, rfl, latest, latest_e, (by first | decide | omega), (by first | decide | omega), (Or.inr ⟨rfl, by omega, fun j => ⟨rfl, rfl, rfl⟩, by omega⟩)⟩
                          · skip
                            refine r_ex hX hP 2 (pc' := 128) (st' := [(0, i), (2, (Ad E 43))]) (lo' := [(0, (2, (Ad E 1))), (1, (0, w)), (2, (0, i)), (3, (0, k)), (4, (2, (Ad E 43))), (5, (0, events))]) rfl ?_
                            refine r_iald hX hP rfl al_43 s5 (by first | decide | omega) (by first | decide | omega) (fun x97 x97e x97a x97b => ?_)
                            have k98 : x97 = G 43 (Ad E 43) i := x97e
                            refine r_ldcw hX hP rfl (v := 1000000000) (tbg sg9 109 rfl rfl) ?_
                            refine r_ic_ge hX hP rfl (tgt := 141) rfl (by first | decide | omega) (by first | decide | omega) (by first | decide | omega) (by first | decide | omega) (fun c99 => ?_) (fun c99 => ?_)
                            · skip
                              refine r_ex hX hP 3 (pc' := 145) (st' := [(0, k), (0, i), (2, (Ad E 43))]) (lo' := [(0, (2, (Ad E 1))), (1, (0, w)), (2, (0, i)), (3, (0, k)), (4, (2, (Ad E 43))), (5, (0, events))]) rfl ?_
                              refine r_iastK hX hP rfl al_43 s5 (by first | decide | omega) (by first | decide | omega) (by first | decide | omega) (by first | decide | omega) (fun h100 => ?_)
                              refine r_ex hX hP 2 (pc' := 148) (st' := [(0, k), (2, (Ad E 1))]) (lo' := [(0, (2, (Ad E 1))), (1, (0, w)), (2, (0, i)), (3, (0, k)), (4, (2, (Ad E 43))), (5, (0, events))]) rfl ?_
                              refine r_putIK hX hP rfl fp_12_339 hS (by first | decide | omega) (by first | decide | omega) (fun h101 => ?_)
                              refine r_ex hX hP 1 (pc' := 152) (st' := [(0, 1)]) (lo' := [(0, (2, (Ad E 1))), (1, (0, w)), (2, (0, i)), (3, (0, k)), (4, (2, (Ad E 43))), (5, (0, events))]) rfl ?_
                              exact r_retZ hX hP rfl rfl (by first | decide | omega) (by first | decide | omega) (by first | decide | omega) (by first | decide | omega) ⟨rfl, ⟨_, (hq_up (hq_up (hq_up (hq_up (hq_refl _ _ _) rfl) rfl) rfl) rfl).symm⟩, 1, rfl, k, h101, (by first | decide | omega), (by first | decide | omega), (Or.inl ⟨by omega, by omega, by omega, by omega, (Or.inr (Or.inr ⟨rfl, by omega, by omega, by omega, by omega, (show (up (up (up G 1 (Ad E 1) 1 0) 1 (Ad E 1) 0 0) 43 (Ad E 43) i k) 43 (Ad E 43) i = k from up_self _ _ _ _ _), (fun j hi => ((show (up (up (up G 1 (Ad E 1) 1 0) 1 (Ad E 1) 0 0) 43 (Ad E 43) i k) 43 (Ad E 43) j = _ from up_ne (fun q => absurd q.2.2 (by first | decide | omega))).trans rfl)), (fun j => ⟨rfl, rfl⟩)⟩))⟩)⟩
                            · skip
                              refine r_ex hX hP 2 (pc' := 137) (st' := [(0, 4), (2, (Ad E 1))]) (lo' := [(0, (2, (Ad E 1))), (1, (0, w)), (2, (0, i)), (3, (0, k)), (4, (2, (Ad E 43))), (5, (0, events))]) rfl ?_
                              refine r_callV gd hX hP rfl cv_12_321 hS (d' := 0) (mc' := 0) (ms' := 0) (as' := [(0, 4)]) (st := []) (by first | decide | omega) (by first | decide | omega) (by first | decide | omega) rfl rfl (Nat.le_of_ble_eq_true rfl) (c_X12_no E S (up (up G 1 (Ad E 1) 1 0) 1 (Ad E 1) 0 0) 4 hS (by first | decide | omega) (by first | decide | omega)) ?_
                              rintro _ _ _ ⟨rfl, ⟨G102, rfl⟩, z103, rfl, rfl⟩
                              exact r_retZ hX hP rfl rfl (by first | decide | omega) (by first | decide | omega) (by first | decide | omega) (by first | decide | omega) ⟨rfl, ⟨_, (hq_call (hq_up (hq_up (hq_refl _ _ _) rfl) rfl) rfl).symm⟩, 0, rfl, latest, latest_e, (by first | decide | omega), (by first | decide | omega), (Or.inr ⟨rfl, by omega, fun j => ⟨rfl, rfl, rfl⟩, by omega⟩)⟩
                        · skip
                          exfalso; omega
                      · skip
                        refine r_if_ne hX hP rfl (tgt := 117) rfl (by first | decide | omega) (by first | decide | omega) (fun c104 => ?_) (fun c104 => ?_)
                        · skip
                          exfalso; omega
                        · skip
                          refine r_ex hX hP 2 (pc' := 113) (st' := [(0, 2), (2, (Ad E 1))]) (lo' := [(0, (2, (Ad E 1))), (1, (0, w)), (2, (0, i)), (3, (0, k)), (4, (2, (Ad E 43))), (5, (0, events))]) rfl ?_
                          refine r_callV gd hX hP rfl cv_12_321 hS (d' := 0) (mc' := 0) (ms' := 0) (as' := [(0, 2)]) (st := []) (by first | decide | omega) (by first | decide | omega) (by first | decide | omega) rfl rfl (Nat.le_of_ble_eq_true rfl) (c_X12_no E S (up (up G 1 (Ad E 1) 1 0) 1 (Ad E 1) 0 0) 2 hS (by first | decide | omega) (by first | decide | omega)) ?_
                          rintro _ _ _ ⟨rfl, ⟨G105, rfl⟩, z106, rfl, rfl⟩
                          exact r_retZ hX hP rfl rfl (by first | decide | omega) (by first | decide | omega) (by first | decide | omega) (by first | decide | omega) ⟨rfl, ⟨_, (hq_call (hq_up (hq_up (hq_refl _ _ _) rfl) rfl) rfl).symm⟩, 0, rfl, latest, latest_e, (by first | decide | omega), (by first | decide | omega), (Or.inr ⟨rfl, by omega, fun j => ⟨rfl, rfl, rfl⟩, by omega⟩)⟩
                  · skip
                    refine r_if_eq hX hP rfl (tgt := 111) rfl (by first | decide | omega) (by first | decide | omega) (fun c107 => ?_) (fun c107 => ?_)
                    · skip
                      refine r_ex hX hP 2 (pc' := 113) (st' := [(0, 2), (2, (Ad E 1))]) (lo' := [(0, (2, (Ad E 1))), (1, (0, w)), (2, (0, i)), (3, (0, k)), (4, (2, (Ad E 43))), (5, (0, events))]) rfl ?_
                      refine r_callV gd hX hP rfl cv_12_321 hS (d' := 0) (mc' := 0) (ms' := 0) (as' := [(0, 2)]) (st := []) (by first | decide | omega) (by first | decide | omega) (by first | decide | omega) rfl rfl (Nat.le_of_ble_eq_true rfl) (c_X12_no E S (up (up G 1 (Ad E 1) 1 0) 1 (Ad E 1) 0 0) 2 hS (by first | decide | omega) (by first | decide | omega)) ?_
                      rintro _ _ _ ⟨rfl, ⟨G108, rfl⟩, z109, rfl, rfl⟩
                      exact r_retZ hX hP rfl rfl (by first | decide | omega) (by first | decide | omega) (by first | decide | omega) (by first | decide | omega) ⟨rfl, ⟨_, (hq_call (hq_up (hq_up (hq_refl _ _ _) rfl) rfl) rfl).symm⟩, 0, rfl, latest, latest_e, (by first | decide | omega), (by first | decide | omega), (Or.inr ⟨rfl, by omega, fun j => ⟨rfl, rfl, rfl⟩, by omega⟩)⟩
                    · skip
                      exfalso; omega
                · skip
                  exfalso; omega
              · skip
                refine r_if_ne hX hP rfl (tgt := 95) rfl (by first | decide | omega) (by first | decide | omega) (fun c110 => ?_) (fun c110 => ?_)
                · skip
                  exfalso; omega
                · skip
                  refine r_ex hX hP 2 (pc' := 91) (st' := [(0, 1), (2, (Ad E 1))]) (lo' := [(0, (2, (Ad E 1))), (1, (0, w)), (2, (0, i)), (3, (0, k)), (4, (2, (Ad E 43))), (5, (0, events))]) rfl ?_
                  refine r_callV gd hX hP rfl cv_12_321 hS (d' := 0) (mc' := 0) (ms' := 0) (as' := [(0, 1)]) (st := []) (by first | decide | omega) (by first | decide | omega) (by first | decide | omega) rfl rfl (Nat.le_of_ble_eq_true rfl) (c_X12_no E S (up (up G 1 (Ad E 1) 1 0) 1 (Ad E 1) 0 0) 1 hS (by first | decide | omega) (by first | decide | omega)) ?_
                  rintro _ _ _ ⟨rfl, ⟨G111, rfl⟩, z112, rfl, rfl⟩
                  exact r_retZ hX hP rfl rfl (by first | decide | omega) (by first | decide | omega) (by first | decide | omega) (by first | decide | omega) ⟨rfl, ⟨_, (hq_call (hq_up (hq_up (hq_refl _ _ _) rfl) rfl) rfl).symm⟩, 0, rfl, latest, latest_e, (by first | decide | omega), (by first | decide | omega), (Or.inr ⟨rfl, by omega, fun j => ⟨rfl, rfl, rfl⟩, by omega⟩)⟩
          · skip
            refine r_if_eq hX hP rfl (tgt := 95) rfl (by first | decide | omega) (by first | decide | omega) (fun c113 => ?_) (fun c113 => ?_)
            · skip
              refine r_ex hX hP 3 (pc' := 98) (st' := [(0, 2), (0, 0), (0, w)]) (lo' := [(0, (2, (Ad E 1))), (1, (0, w)), (2, (0, i)), (3, (0, k)), (4, (2, (Ad E 43))), (5, (0, events))]) rfl ?_
              refine r_callS gd hX hP rfl cs_12_310 (d' := 0) (mc' := 0) (ms' := 0) (as' := [(0, w), (0, 0), (0, 2)]) (st := []) (by first | decide | omega) (by first | decide | omega) (by first | decide | omega) rfl rfl (Nat.le_of_ble_eq_true rfl) (c_X12_isIn E S (up (up G 1 (Ad E 1) 1 0) 1 (Ad E 1) 0 0) w 0 2 (by first | decide | omega) (by first | decide | omega) (by first | decide | omega) (by first | decide | omega) (by first | decide | omega) (by first | decide | omega)) ?_
              rintro _ _ _ ⟨rfl, rfl, z114, rfl, (⟨rfl, f115, f116⟩ | ⟨rfl, f117⟩)⟩
              · skip
                refine r_if_eq hX hP rfl (tgt := 111) rfl (by first | decide | omega) (by first | decide | omega) (fun c118 => ?_) (fun c118 => ?_)
                · skip
                  exfalso; omega
                · skip
                  refine r_ex hX hP 1 (pc' := 105) (st' := [(0, k)]) (lo' := [(0, (2, (Ad E 1))), (1, (0, w)), (2, (0, i)), (3, (0, k)), (4, (2, (Ad E 43))), (5, (0, events))]) rfl ?_
                  refine r_callS gd hX hP rfl cs_12_317 (d' := 1) (mc' := 0) (ms' := 0) (as' := [(0, k)]) (st := []) (by first | decide | omega) (by first | decide | omega) (by first | decide | omega) rfl rfl (Nat.le_of_ble_eq_true rfl) (c_X12_isDay E S (up (up G 1 (Ad E 1) 1 0) 1 (Ad E 1) 0 0) k (by first | decide | omega) (by first | decide | omega)) ?_
                  rintro _ _ _ ⟨rfl, rfl, z119, rfl, (⟨rfl, f120, f121⟩ | ⟨rfl, f122⟩)⟩
                  · skip
                    refine r_if_ne hX hP rfl (tgt := 117) rfl (by first | decide | omega) (by first | decide | omega) (fun c123 => ?_) (fun c123 => ?_)
                    · skip
                      refine r_ex hX hP 2 (pc' := 119) (st' := [(2, (Ad E 1)), (0, k)]) (lo' := [(0, (2, (Ad E 1))), (1, (0, w)), (2, (0, i)), (3, (0, k)), (4, (2, (Ad E 43))), (5, (0, events))]) rfl ?_
                      refine r_getKI hX hP rfl fl_12_339 hS (x := latest) latest_e ?_
                      refine r_ic_lt hX hP rfl (tgt := 135) rfl (by first | decide | omega) (by first | decide | omega) (by first | decide | omega) (by first | decide | omega) (fun c124 => ?_) (fun c124 => ?_)
                      · skip
                        refine r_ex hX hP 2 (pc' := 137) (st' := [(0, 4), (2, (Ad E 1))]) (lo' := [(0, (2, (Ad E 1))), (1, (0, w)), (2, (0, i)), (3, (0, k)), (4, (2, (Ad E 43))), (5, (0, events))]) rfl ?_
                        refine r_callV gd hX hP rfl cv_12_321 hS (d' := 0) (mc' := 0) (ms' := 0) (as' := [(0, 4)]) (st := []) (by first | decide | omega) (by first | decide | omega) (by first | decide | omega) rfl rfl (Nat.le_of_ble_eq_true rfl) (c_X12_no E S (up (up G 1 (Ad E 1) 1 0) 1 (Ad E 1) 0 0) 4 hS (by first | decide | omega) (by first | decide | omega)) ?_
                        rintro _ _ _ ⟨rfl, ⟨G125, rfl⟩, z126, rfl, rfl⟩
                        exact r_retZ hX hP rfl rfl (by first | decide | omega) (by first | decide | omega) (by first | decide | omega) (by first | decide | omega) ⟨rfl, ⟨_, (hq_call (hq_up (hq_up (hq_refl _ _ _) rfl) rfl) rfl).symm⟩, 0, rfl, latest, latest_e, (by first | decide | omega), (by first | decide | omega), (Or.inr ⟨rfl, by omega, fun j => ⟨rfl, rfl, rfl⟩, by omega⟩)⟩
                      · skip
                        refine r_ex hX hP 2 (pc' := 128) (st' := [(0, i), (2, (Ad E 43))]) (lo' := [(0, (2, (Ad E 1))), (1, (0, w)), (2, (0, i)), (3, (0, k)), (4, (2, (Ad E 43))), (5, (0, events))]) rfl ?_
                        refine r_iald hX hP rfl al_43 s5 (by first | decide | omega) (by first | decide | omega) (fun x127 x127e x127a x127b => ?_)
                        have k128 : x127 = G 43 (Ad E 43) i := x127e
                        refine r_ldcw hX hP rfl (v := 1000000000) (tbg sg9 109 rfl rfl) ?_
                        refine r_ic_ge hX hP rfl (tgt := 141) rfl (by first | decide | omega) (by first | decide | omega) (by first | decide | omega) (by first | decide | omega) (fun c129 => ?_) (fun c129 => ?_)
                        · skip
                          refine r_ex hX hP 3 (pc' := 145) (st' := [(0, k), (0, i), (2, (Ad E 43))]) (lo' := [(0, (2, (Ad E 1))), (1, (0, w)), (2, (0, i)), (3, (0, k)), (4, (2, (Ad E 43))), (5, (0, events))]) rfl ?_
                          refine r_iastK hX hP rfl al_43 s5 (by first | decide | omega) (by first | decide | omega) (by first | decide | omega) (by first | decide | omega) (fun h130 => ?_)
                          refine r_ex hX hP 2 (pc' := 148) (st' := [(0, k), (2, (Ad E 1))]) (lo' := [(0, (2, (Ad E 1))), (1, (0, w)), (2, (0, i)), (3, (0, k)), (4, (2, (Ad E 43))), (5, (0, events))]) rfl ?_
                          refine r_putIK hX hP rfl fp_12_339 hS (by first | decide | omega) (by first | decide | omega) (fun h131 => ?_)
                          refine r_ex hX hP 1 (pc' := 152) (st' := [(0, 1)]) (lo' := [(0, (2, (Ad E 1))), (1, (0, w)), (2, (0, i)), (3, (0, k)), (4, (2, (Ad E 43))), (5, (0, events))]) rfl ?_
                          exact r_retZ hX hP rfl rfl (by first | decide | omega) (by first | decide | omega) (by first | decide | omega) (by first | decide | omega) ⟨rfl, ⟨_, (hq_up (hq_up (hq_up (hq_up (hq_refl _ _ _) rfl) rfl) rfl) rfl).symm⟩, 1, rfl, k, h131, (by first | decide | omega), (by first | decide | omega), (Or.inl ⟨by omega, by omega, by omega, by omega, (Or.inr (Or.inr ⟨rfl, by omega, by omega, by omega, by omega, (show (up (up (up G 1 (Ad E 1) 1 0) 1 (Ad E 1) 0 0) 43 (Ad E 43) i k) 43 (Ad E 43) i = k from up_self _ _ _ _ _), (fun j hi => ((show (up (up (up G 1 (Ad E 1) 1 0) 1 (Ad E 1) 0 0) 43 (Ad E 43) i k) 43 (Ad E 43) j = _ from up_ne (fun q => absurd q.2.2 (by first | decide | omega))).trans rfl)), (fun j => ⟨rfl, rfl⟩)⟩))⟩)⟩
                        · skip
                          refine r_ex hX hP 2 (pc' := 137) (st' := [(0, 4), (2, (Ad E 1))]) (lo' := [(0, (2, (Ad E 1))), (1, (0, w)), (2, (0, i)), (3, (0, k)), (4, (2, (Ad E 43))), (5, (0, events))]) rfl ?_
                          refine r_callV gd hX hP rfl cv_12_321 hS (d' := 0) (mc' := 0) (ms' := 0) (as' := [(0, 4)]) (st := []) (by first | decide | omega) (by first | decide | omega) (by first | decide | omega) rfl rfl (Nat.le_of_ble_eq_true rfl) (c_X12_no E S (up (up G 1 (Ad E 1) 1 0) 1 (Ad E 1) 0 0) 4 hS (by first | decide | omega) (by first | decide | omega)) ?_
                          rintro _ _ _ ⟨rfl, ⟨G132, rfl⟩, z133, rfl, rfl⟩
                          exact r_retZ hX hP rfl rfl (by first | decide | omega) (by first | decide | omega) (by first | decide | omega) (by first | decide | omega) ⟨rfl, ⟨_, (hq_call (hq_up (hq_up (hq_refl _ _ _) rfl) rfl) rfl).symm⟩, 0, rfl, latest, latest_e, (by first | decide | omega), (by first | decide | omega), (Or.inr ⟨rfl, by omega, fun j => ⟨rfl, rfl, rfl⟩, by omega⟩)⟩
                    · skip
                      exfalso; omega
                  · skip
                    refine r_if_ne hX hP rfl (tgt := 117) rfl (by first | decide | omega) (by first | decide | omega) (fun c134 => ?_) (fun c134 => ?_)
                    · skip
                      exfalso; omega
                    · skip
                      refine r_ex hX hP 2 (pc' := 113) (st' := [(0, 2), (2, (Ad E 1))]) (lo' := [(0, (2, (Ad E 1))), (1, (0, w)), (2, (0, i)), (3, (0, k)), (4, (2, (Ad E 43))), (5, (0, events))]) rfl ?_
                      refine r_callV gd hX hP rfl cv_12_321 hS (d' := 0) (mc' := 0) (ms' := 0) (as' := [(0, 2)]) (st := []) (by first | decide | omega) (by first | decide | omega) (by first | decide | omega) rfl rfl (Nat.le_of_ble_eq_true rfl) (c_X12_no E S (up (up G 1 (Ad E 1) 1 0) 1 (Ad E 1) 0 0) 2 hS (by first | decide | omega) (by first | decide | omega)) ?_
                      rintro _ _ _ ⟨rfl, ⟨G135, rfl⟩, z136, rfl, rfl⟩
                      exact r_retZ hX hP rfl rfl (by first | decide | omega) (by first | decide | omega) (by first | decide | omega) (by first | decide | omega) ⟨rfl, ⟨_, (hq_call (hq_up (hq_up (hq_refl _ _ _) rfl) rfl) rfl).symm⟩, 0, rfl, latest, latest_e, (by first | decide | omega), (by first | decide | omega), (Or.inr ⟨rfl, by omega, fun j => ⟨rfl, rfl, rfl⟩, by omega⟩)⟩
              · skip
                refine r_if_eq hX hP rfl (tgt := 111) rfl (by first | decide | omega) (by first | decide | omega) (fun c137 => ?_) (fun c137 => ?_)
                · skip
                  refine r_ex hX hP 2 (pc' := 113) (st' := [(0, 2), (2, (Ad E 1))]) (lo' := [(0, (2, (Ad E 1))), (1, (0, w)), (2, (0, i)), (3, (0, k)), (4, (2, (Ad E 43))), (5, (0, events))]) rfl ?_
                  refine r_callV gd hX hP rfl cv_12_321 hS (d' := 0) (mc' := 0) (ms' := 0) (as' := [(0, 2)]) (st := []) (by first | decide | omega) (by first | decide | omega) (by first | decide | omega) rfl rfl (Nat.le_of_ble_eq_true rfl) (c_X12_no E S (up (up G 1 (Ad E 1) 1 0) 1 (Ad E 1) 0 0) 2 hS (by first | decide | omega) (by first | decide | omega)) ?_
                  rintro _ _ _ ⟨rfl, ⟨G138, rfl⟩, z139, rfl, rfl⟩
                  exact r_retZ hX hP rfl rfl (by first | decide | omega) (by first | decide | omega) (by first | decide | omega) (by first | decide | omega) ⟨rfl, ⟨_, (hq_call (hq_up (hq_up (hq_refl _ _ _) rfl) rfl) rfl).symm⟩, 0, rfl, latest, latest_e, (by first | decide | omega), (by first | decide | omega), (Or.inr ⟨rfl, by omega, fun j => ⟨rfl, rfl, rfl⟩, by omega⟩)⟩
                · skip
                  exfalso; omega
            · skip
              exfalso; omega
      · skip
        refine r_ex hX hP 1 (pc' := 44) (st' := [(2, (Ad E 1))]) (lo' := [(0, (2, (Ad E 1))), (1, (0, w)), (2, (0, i)), (3, (0, k)), (4, (2, (Ad E 43)))]) rfl ?_
        refine r_getKI hX hP rfl fl_12_342 hS (x := trades) trades_e ?_
        refine r_ex hX hP 5 (pc' := 71) (st' := [(0, 2), (0, 0), (0, w)]) (lo' := [(0, (2, (Ad E 1))), (1, (0, w)), (2, (0, i)), (3, (0, k)), (4, (2, (Ad E 43))), (5, (0, trades))]) rfl ?_
        refine r_callS gd hX hP rfl cs_12_310 (d' := 0) (mc' := 0) (ms' := 0) (as' := [(0, w), (0, 0), (0, 2)]) (st := []) (by first | decide | omega) (by first | decide | omega) (by first | decide | omega) rfl rfl (Nat.le_of_ble_eq_true rfl) (c_X12_isIn E S (up (up G 1 (Ad E 1) 1 0) 1 (Ad E 1) 0 0) w 0 2 (by first | decide | omega) (by first | decide | omega) (by first | decide | omega) (by first | decide | omega) (by first | decide | omega) (by first | decide | omega)) ?_
        rintro _ _ _ ⟨rfl, rfl, z140, rfl, (⟨rfl, f141, f142⟩ | ⟨rfl, f143⟩)⟩
        · skip
          refine r_if_eq hX hP rfl (tgt := 95) rfl (by first | decide | omega) (by first | decide | omega) (fun c144 => ?_) (fun c144 => ?_)
          · skip
            exfalso; omega
          · skip
            refine r_ex hX hP 5 (pc' := 83) (st' := [(0, (trades - 1)), (0, 0), (0, i)]) (lo' := [(0, (2, (Ad E 1))), (1, (0, w)), (2, (0, i)), (3, (0, k)), (4, (2, (Ad E 43))), (5, (0, trades))]) rfl ?_
            refine r_callS gd hX hP rfl cs_12_310 (d' := 0) (mc' := 0) (ms' := 0) (as' := [(0, i), (0, 0), (0, (trades - 1))]) (st := []) (by first | decide | omega) (by first | decide | omega) (by first | decide | omega) rfl rfl (Nat.le_of_ble_eq_true rfl) (c_X12_isIn E S (up (up G 1 (Ad E 1) 1 0) 1 (Ad E 1) 0 0) i 0 (trades - 1) (by first | decide | omega) (by first | decide | omega) (by first | decide | omega) (by first | decide | omega) (by first | decide | omega) (by first | decide | omega)) ?_
            rintro _ _ _ ⟨rfl, rfl, z145, rfl, (⟨rfl, f146, f147⟩ | ⟨rfl, f148⟩)⟩
            · skip
              refine r_if_ne hX hP rfl (tgt := 95) rfl (by first | decide | omega) (by first | decide | omega) (fun c149 => ?_) (fun c149 => ?_)
              · skip
                refine r_ex hX hP 3 (pc' := 98) (st' := [(0, 2), (0, 0), (0, w)]) (lo' := [(0, (2, (Ad E 1))), (1, (0, w)), (2, (0, i)), (3, (0, k)), (4, (2, (Ad E 43))), (5, (0, trades))]) rfl ?_
                refine r_callS gd hX hP rfl cs_12_310 (d' := 0) (mc' := 0) (ms' := 0) (as' := [(0, w), (0, 0), (0, 2)]) (st := []) (by first | decide | omega) (by first | decide | omega) (by first | decide | omega) rfl rfl (Nat.le_of_ble_eq_true rfl) (c_X12_isIn E S (up (up G 1 (Ad E 1) 1 0) 1 (Ad E 1) 0 0) w 0 2 (by first | decide | omega) (by first | decide | omega) (by first | decide | omega) (by first | decide | omega) (by first | decide | omega) (by first | decide | omega)) ?_
                rintro _ _ _ ⟨rfl, rfl, z150, rfl, (⟨rfl, f151, f152⟩ | ⟨rfl, f153⟩)⟩
                · skip
                  refine r_if_eq hX hP rfl (tgt := 111) rfl (by first | decide | omega) (by first | decide | omega) (fun c154 => ?_) (fun c154 => ?_)
                  · skip
                    exfalso; omega
                  · skip
                    refine r_ex hX hP 1 (pc' := 105) (st' := [(0, k)]) (lo' := [(0, (2, (Ad E 1))), (1, (0, w)), (2, (0, i)), (3, (0, k)), (4, (2, (Ad E 43))), (5, (0, trades))]) rfl ?_
                    refine r_callS gd hX hP rfl cs_12_317 (d' := 1) (mc' := 0) (ms' := 0) (as' := [(0, k)]) (st := []) (by first | decide | omega) (by first | decide | omega) (by first | decide | omega) rfl rfl (Nat.le_of_ble_eq_true rfl) (c_X12_isDay E S (up (up G 1 (Ad E 1) 1 0) 1 (Ad E 1) 0 0) k (by first | decide | omega) (by first | decide | omega)) ?_
                    rintro _ _ _ ⟨rfl, rfl, z155, rfl, (⟨rfl, f156, f157⟩ | ⟨rfl, f158⟩)⟩
                    · skip
                      refine r_if_ne hX hP rfl (tgt := 117) rfl (by first | decide | omega) (by first | decide | omega) (fun c159 => ?_) (fun c159 => ?_)
                      · skip
                        refine r_ex hX hP 2 (pc' := 119) (st' := [(2, (Ad E 1)), (0, k)]) (lo' := [(0, (2, (Ad E 1))), (1, (0, w)), (2, (0, i)), (3, (0, k)), (4, (2, (Ad E 43))), (5, (0, trades))]) rfl ?_
                        refine r_getKI hX hP rfl fl_12_339 hS (x := latest) latest_e ?_
                        refine r_ic_lt hX hP rfl (tgt := 135) rfl (by first | decide | omega) (by first | decide | omega) (by first | decide | omega) (by first | decide | omega) (fun c160 => ?_) (fun c160 => ?_)
                        · skip
                          refine r_ex hX hP 2 (pc' := 137) (st' := [(0, 4), (2, (Ad E 1))]) (lo' := [(0, (2, (Ad E 1))), (1, (0, w)), (2, (0, i)), (3, (0, k)), (4, (2, (Ad E 43))), (5, (0, trades))]) rfl ?_
                          refine r_callV gd hX hP rfl cv_12_321 hS (d' := 0) (mc' := 0) (ms' := 0) (as' := [(0, 4)]) (st := []) (by first | decide | omega) (by first | decide | omega) (by first | decide | omega) rfl rfl (Nat.le_of_ble_eq_true rfl) (c_X12_no E S (up (up G 1 (Ad E 1) 1 0) 1 (Ad E 1) 0 0) 4 hS (by first | decide | omega) (by first | decide | omega)) ?_
                          rintro _ _ _ ⟨rfl, ⟨G161, rfl⟩, z162, rfl, rfl⟩
                          exact r_retZ hX hP rfl rfl (by first | decide | omega) (by first | decide | omega) (by first | decide | omega) (by first | decide | omega) ⟨rfl, ⟨_, (hq_call (hq_up (hq_up (hq_refl _ _ _) rfl) rfl) rfl).symm⟩, 0, rfl, latest, latest_e, (by first | decide | omega), (by first | decide | omega), (Or.inr ⟨rfl, by omega, fun j => ⟨rfl, rfl, rfl⟩, by omega⟩)⟩
                        · skip
                          refine r_ex hX hP 2 (pc' := 128) (st' := [(0, i), (2, (Ad E 43))]) (lo' := [(0, (2, (Ad E 1))), (1, (0, w)), (2, (0, i)), (3, (0, k)), (4, (2, (Ad E 43))), (5, (0, trades))]) rfl ?_
                          refine r_iald hX hP rfl al_43 s5 (by first | decide | omega) (by first | decide | omega) (fun x163 x163e x163a x163b => ?_)
                          have k164 : x163 = G 43 (Ad E 43) i := x163e
                          refine r_ldcw hX hP rfl (v := 1000000000) (tbg sg9 109 rfl rfl) ?_
                          refine r_ic_ge hX hP rfl (tgt := 141) rfl (by first | decide | omega) (by first | decide | omega) (by first | decide | omega) (by first | decide | omega) (fun c165 => ?_) (fun c165 => ?_)
                          · skip
                            refine r_ex hX hP 3 (pc' := 145) (st' := [(0, k), (0, i), (2, (Ad E 43))]) (lo' := [(0, (2, (Ad E 1))), (1, (0, w)), (2, (0, i)), (3, (0, k)), (4, (2, (Ad E 43))), (5, (0, trades))]) rfl ?_
                            refine r_iastK hX hP rfl al_43 s5 (by first | decide | omega) (by first | decide | omega) (by first | decide | omega) (by first | decide | omega) (fun h166 => ?_)
                            refine r_ex hX hP 2 (pc' := 148) (st' := [(0, k), (2, (Ad E 1))]) (lo' := [(0, (2, (Ad E 1))), (1, (0, w)), (2, (0, i)), (3, (0, k)), (4, (2, (Ad E 43))), (5, (0, trades))]) rfl ?_
                            refine r_putIK hX hP rfl fp_12_339 hS (by first | decide | omega) (by first | decide | omega) (fun h167 => ?_)
                            refine r_ex hX hP 1 (pc' := 152) (st' := [(0, 1)]) (lo' := [(0, (2, (Ad E 1))), (1, (0, w)), (2, (0, i)), (3, (0, k)), (4, (2, (Ad E 43))), (5, (0, trades))]) rfl ?_
                            exact r_retZ hX hP rfl rfl (by first | decide | omega) (by first | decide | omega) (by first | decide | omega) (by first | decide | omega) ⟨rfl, ⟨_, (hq_up (hq_up (hq_up (hq_up (hq_refl _ _ _) rfl) rfl) rfl) rfl).symm⟩, 1, rfl, k, h167, (by first | decide | omega), (by first | decide | omega), (Or.inl ⟨by omega, by omega, by omega, by omega, (Or.inr (Or.inr ⟨rfl, by omega, by omega, by omega, by omega, (show (up (up (up G 1 (Ad E 1) 1 0) 1 (Ad E 1) 0 0) 43 (Ad E 43) i k) 43 (Ad E 43) i = k from up_self _ _ _ _ _), (fun j hi => ((show (up (up (up G 1 (Ad E 1) 1 0) 1 (Ad E 1) 0 0) 43 (Ad E 43) i k) 43 (Ad E 43) j = _ from up_ne (fun q => absurd q.2.2 (by first | decide | omega))).trans rfl)), (fun j => ⟨rfl, rfl⟩)⟩))⟩)⟩
                          · skip
                            refine r_ex hX hP 2 (pc' := 137) (st' := [(0, 4), (2, (Ad E 1))]) (lo' := [(0, (2, (Ad E 1))), (1, (0, w)), (2, (0, i)), (3, (0, k)), (4, (2, (Ad E 43))), (5, (0, trades))]) rfl ?_
                            refine r_callV gd hX hP rfl cv_12_321 hS (d' := 0) (mc' := 0) (ms' := 0) (as' := [(0, 4)]) (st := []) (by first | decide | omega) (by first | decide | omega) (by first | decide | omega) rfl rfl (Nat.le_of_ble_eq_true rfl) (c_X12_no E S (up (up G 1 (Ad E 1) 1 0) 1 (Ad E 1) 0 0) 4 hS (by first | decide | omega) (by first | decide | omega)) ?_
                            rintro _ _ _ ⟨rfl, ⟨G168, rfl⟩, z169, rfl, rfl⟩
                            exact r_retZ hX hP rfl rfl (by first | decide | omega) (by first | decide | omega) (by first | decide | omega) (by first | decide | omega) ⟨rfl, ⟨_, (hq_call (hq_up (hq_up (hq_refl _ _ _) rfl) rfl) rfl).symm⟩, 0, rfl, latest, latest_e, (by first | decide | omega), (by first | decide | omega), (Or.inr ⟨rfl, by omega, fun j => ⟨rfl, rfl, rfl⟩, by omega⟩)⟩
                      · skip
                        exfalso; omega
                    · skip
                      refine r_if_ne hX hP rfl (tgt := 117) rfl (by first | decide | omega) (by first | decide | omega) (fun c170 => ?_) (fun c170 => ?_)
                      · skip
                        exfalso; omega
                      · skip
                        refine r_ex hX hP 2 (pc' := 113) (st' := [(0, 2), (2, (Ad E 1))]) (lo' := [(0, (2, (Ad E 1))), (1, (0, w)), (2, (0, i)), (3, (0, k)), (4, (2, (Ad E 43))), (5, (0, trades))]) rfl ?_
                        refine r_callV gd hX hP rfl cv_12_321 hS (d' := 0) (mc' := 0) (ms' := 0) (as' := [(0, 2)]) (st := []) (by first | decide | omega) (by first | decide | omega) (by first | decide | omega) rfl rfl (Nat.le_of_ble_eq_true rfl) (c_X12_no E S (up (up G 1 (Ad E 1) 1 0) 1 (Ad E 1) 0 0) 2 hS (by first | decide | omega) (by first | decide | omega)) ?_
                        rintro _ _ _ ⟨rfl, ⟨G171, rfl⟩, z172, rfl, rfl⟩
                        exact r_retZ hX hP rfl rfl (by first | decide | omega) (by first | decide | omega) (by first | decide | omega) (by first | decide | omega) ⟨rfl, ⟨_, (hq_call (hq_up (hq_up (hq_refl _ _ _) rfl) rfl) rfl).symm⟩, 0, rfl, latest, latest_e, (by first | decide | omega), (by first | decide | omega), (Or.inr ⟨rfl, by omega, fun j => ⟨rfl, rfl, rfl⟩, by omega⟩)⟩
                · skip
                  refine r_if_eq hX hP rfl (tgt := 111) rfl (by first | decide | omega) (by first | decide | omega) (fun c173 => ?_) (fun c173 => ?_)
                  · skip
                    refine r_ex hX hP 2 (pc' := 113) (st' := [(0, 2), (2, (Ad E 1))]) (lo' := [(0, (2, (Ad E 1))), (1, (0, w)), (2, (0, i)), (3, (0, k)), (4, (2, (Ad E 43))), (5, (0, trades))]) rfl ?_
                    refine r_callV gd hX hP rfl cv_12_321 hS (d' := 0) (mc' := 0) (ms' := 0) (as' := [(0, 2)]) (st := []) (by first | decide | omega) (by first | decide | omega) (by first | decide | omega) rfl rfl (Nat.le_of_ble_eq_true rfl) (c_X12_no E S (up (up G 1 (Ad E 1) 1 0) 1 (Ad E 1) 0 0) 2 hS (by first | decide | omega) (by first | decide | omega)) ?_
                    rintro _ _ _ ⟨rfl, ⟨G174, rfl⟩, z175, rfl, rfl⟩
                    exact r_retZ hX hP rfl rfl (by first | decide | omega) (by first | decide | omega) (by first | decide | omega) (by first | decide | omega) ⟨rfl, ⟨_, (hq_call (hq_up (hq_up (hq_refl _ _ _) rfl) rfl) rfl).symm⟩, 0, rfl, latest, latest_e, (by first | decide | omega), (by first | decide | omega), (Or.inr ⟨rfl, by omega, fun j => ⟨rfl, rfl, rfl⟩, by omega⟩)⟩
                  · skip
                    exfalso; omega
              · skip
                exfalso; omega
            · skip
              refine r_if_ne hX hP rfl (tgt := 95) rfl (by first | decide | omega) (by first | decide | omega) (fun c176 => ?_) (fun c176 => ?_)
              · skip
                exfalso; omega
              · skip
                refine r_ex hX hP 2 (pc' := 91) (st' := [(0, 1), (2, (Ad E 1))]) (lo' := [(0, (2, (Ad E 1))), (1, (0, w)), (2, (0, i)), (3, (0, k)), (4, (2, (Ad E 43))), (5, (0, trades))]) rfl ?_
                refine r_callV gd hX hP rfl cv_12_321 hS (d' := 0) (mc' := 0) (ms' := 0) (as' := [(0, 1)]) (st := []) (by first | decide | omega) (by first | decide | omega) (by first | decide | omega) rfl rfl (Nat.le_of_ble_eq_true rfl) (c_X12_no E S (up (up G 1 (Ad E 1) 1 0) 1 (Ad E 1) 0 0) 1 hS (by first | decide | omega) (by first | decide | omega)) ?_
                rintro _ _ _ ⟨rfl, ⟨G177, rfl⟩, z178, rfl, rfl⟩
                exact r_retZ hX hP rfl rfl (by first | decide | omega) (by first | decide | omega) (by first | decide | omega) (by first | decide | omega) ⟨rfl, ⟨_, (hq_call (hq_up (hq_up (hq_refl _ _ _) rfl) rfl) rfl).symm⟩, 0, rfl, latest, latest_e, (by first | decide | omega), (by first | decide | omega), (Or.inr ⟨rfl, by omega, fun j => ⟨rfl, rfl, rfl⟩, by omega⟩)⟩
        · skip
          refine r_if_eq hX hP rfl (tgt := 95) rfl (by first | decide | omega) (by first | decide | omega) (fun c179 => ?_) (fun c179 => ?_)
          · skip
            refine r_ex hX hP 3 (pc' := 98) (st' := [(0, 2), (0, 0), (0, w)]) (lo' := [(0, (2, (Ad E 1))), (1, (0, w)), (2, (0, i)), (3, (0, k)), (4, (2, (Ad E 43))), (5, (0, trades))]) rfl ?_
            refine r_callS gd hX hP rfl cs_12_310 (d' := 0) (mc' := 0) (ms' := 0) (as' := [(0, w), (0, 0), (0, 2)]) (st := []) (by first | decide | omega) (by first | decide | omega) (by first | decide | omega) rfl rfl (Nat.le_of_ble_eq_true rfl) (c_X12_isIn E S (up (up G 1 (Ad E 1) 1 0) 1 (Ad E 1) 0 0) w 0 2 (by first | decide | omega) (by first | decide | omega) (by first | decide | omega) (by first | decide | omega) (by first | decide | omega) (by first | decide | omega)) ?_
            rintro _ _ _ ⟨rfl, rfl, z180, rfl, (⟨rfl, f181, f182⟩ | ⟨rfl, f183⟩)⟩
            · skip
              refine r_if_eq hX hP rfl (tgt := 111) rfl (by first | decide | omega) (by first | decide | omega) (fun c184 => ?_) (fun c184 => ?_)
              · skip
                exfalso; omega
              · skip
                refine r_ex hX hP 1 (pc' := 105) (st' := [(0, k)]) (lo' := [(0, (2, (Ad E 1))), (1, (0, w)), (2, (0, i)), (3, (0, k)), (4, (2, (Ad E 43))), (5, (0, trades))]) rfl ?_
                refine r_callS gd hX hP rfl cs_12_317 (d' := 1) (mc' := 0) (ms' := 0) (as' := [(0, k)]) (st := []) (by first | decide | omega) (by first | decide | omega) (by first | decide | omega) rfl rfl (Nat.le_of_ble_eq_true rfl) (c_X12_isDay E S (up (up G 1 (Ad E 1) 1 0) 1 (Ad E 1) 0 0) k (by first | decide | omega) (by first | decide | omega)) ?_
                rintro _ _ _ ⟨rfl, rfl, z185, rfl, (⟨rfl, f186, f187⟩ | ⟨rfl, f188⟩)⟩
                · skip
                  refine r_if_ne hX hP rfl (tgt := 117) rfl (by first | decide | omega) (by first | decide | omega) (fun c189 => ?_) (fun c189 => ?_)
                  · skip
                    refine r_ex hX hP 2 (pc' := 119) (st' := [(2, (Ad E 1)), (0, k)]) (lo' := [(0, (2, (Ad E 1))), (1, (0, w)), (2, (0, i)), (3, (0, k)), (4, (2, (Ad E 43))), (5, (0, trades))]) rfl ?_
                    refine r_getKI hX hP rfl fl_12_339 hS (x := latest) latest_e ?_
                    refine r_ic_lt hX hP rfl (tgt := 135) rfl (by first | decide | omega) (by first | decide | omega) (by first | decide | omega) (by first | decide | omega) (fun c190 => ?_) (fun c190 => ?_)
                    · skip
                      refine r_ex hX hP 2 (pc' := 137) (st' := [(0, 4), (2, (Ad E 1))]) (lo' := [(0, (2, (Ad E 1))), (1, (0, w)), (2, (0, i)), (3, (0, k)), (4, (2, (Ad E 43))), (5, (0, trades))]) rfl ?_
                      refine r_callV gd hX hP rfl cv_12_321 hS (d' := 0) (mc' := 0) (ms' := 0) (as' := [(0, 4)]) (st := []) (by first | decide | omega) (by first | decide | omega) (by first | decide | omega) rfl rfl (Nat.le_of_ble_eq_true rfl) (c_X12_no E S (up (up G 1 (Ad E 1) 1 0) 1 (Ad E 1) 0 0) 4 hS (by first | decide | omega) (by first | decide | omega)) ?_
                      rintro _ _ _ ⟨rfl, ⟨G191, rfl⟩, z192, rfl, rfl⟩
                      exact r_retZ hX hP rfl rfl (by first | decide | omega) (by first | decide | omega) (by first | decide | omega) (by first | decide | omega) ⟨rfl, ⟨_, (hq_call (hq_up (hq_up (hq_refl _ _ _) rfl) rfl) rfl).symm⟩, 0, rfl, latest, latest_e, (by first | decide | omega), (by first | decide | omega), (Or.inr ⟨rfl, by omega, fun j => ⟨rfl, rfl, rfl⟩, by omega⟩)⟩
                    · skip
                      refine r_ex hX hP 2 (pc' := 128) (st' := [(0, i), (2, (Ad E 43))]) (lo' := [(0, (2, (Ad E 1))), (1, (0, w)), (2, (0, i)), (3, (0, k)), (4, (2, (Ad E 43))), (5, (0, trades))]) rfl ?_
                      refine r_iald hX hP rfl al_43 s5 (by first | decide | omega) (by first | decide | omega) (fun x193 x193e x193a x193b => ?_)
                      have k194 : x193 = G 43 (Ad E 43) i := x193e
                      refine r_ldcw hX hP rfl (v := 1000000000) (tbg sg9 109 rfl rfl) ?_
                      refine r_ic_ge hX hP rfl (tgt := 141) rfl (by first | decide | omega) (by first | decide | omega) (by first | decide | omega) (by first | decide | omega) (fun c195 => ?_) (fun c195 => ?_)
                      · skip
                        refine r_ex hX hP 3 (pc' := 145) (st' := [(0, k), (0, i), (2, (Ad E 43))]) (lo' := [(0, (2, (Ad E 1))), (1, (0, w)), (2, (0, i)), (3, (0, k)), (4, (2, (Ad E 43))), (5, (0, trades))]) rfl ?_
                        refine r_iastK hX hP rfl al_43 s5 (by first | decide | omega) (by first | decide | omega) (by first | decide | omega) (by first | decide | omega) (fun h196 => ?_)
                        refine r_ex hX hP 2 (pc' := 148) (st' := [(0, k), (2, (Ad E 1))]) (lo' := [(0, (2, (Ad E 1))), (1, (0, w)), (2, (0, i)), (3, (0, k)), (4, (2, (Ad E 43))), (5, (0, trades))]) rfl ?_
                        refine r_putIK hX hP rfl fp_12_339 hS (by first | decide | omega) (by first | decide | omega) (fun h197 => ?_)
                        refine r_ex hX hP 1 (pc' := 152) (st' := [(0, 1)]) (lo' := [(0, (2, (Ad E 1))), (1, (0, w)), (2, (0, i)), (3, (0, k)), (4, (2, (Ad E 43))), (5, (0, trades))]) rfl ?_
                        exact r_retZ hX hP rfl rfl (by first | decide | omega) (by first | decide | omega) (by first | decide | omega) (by first | decide | omega) ⟨rfl, ⟨_, (hq_up (hq_up (hq_up (hq_up (hq_refl _ _ _) rfl) rfl) rfl) rfl).symm⟩, 1, rfl, k, h197, (by first | decide | omega), (by first | decide | omega), (Or.inl ⟨by omega, by omega, by omega, by omega, (Or.inr (Or.inr ⟨rfl, by omega, by omega, by omega, by omega, (show (up (up (up G 1 (Ad E 1) 1 0) 1 (Ad E 1) 0 0) 43 (Ad E 43) i k) 43 (Ad E 43) i = k from up_self _ _ _ _ _), (fun j hi => ((show (up (up (up G 1 (Ad E 1) 1 0) 1 (Ad E 1) 0 0) 43 (Ad E 43) i k) 43 (Ad E 43) j = _ from up_ne (fun q => absurd q.2.2 (by first | decide | omega))).trans rfl)), (fun j => ⟨rfl, rfl⟩)⟩))⟩)⟩
                      · skip
                        refine r_ex hX hP 2 (pc' := 137) (st' := [(0, 4), (2, (Ad E 1))]) (lo' := [(0, (2, (Ad E 1))), (1, (0, w)), (2, (0, i)), (3, (0, k)), (4, (2, (Ad E 43))), (5, (0, trades))]) rfl ?_
                        refine r_callV gd hX hP rfl cv_12_321 hS (d' := 0) (mc' := 0) (ms' := 0) (as' := [(0, 4)]) (st := []) (by first | decide | omega) (by first | decide | omega) (by first | decide | omega) rfl rfl (Nat.le_of_ble_eq_true rfl) (c_X12_no E S (up (up G 1 (Ad E 1) 1 0) 1 (Ad E 1) 0 0) 4 hS (by first | decide | omega) (by first | decide | omega)) ?_
                        rintro _ _ _ ⟨rfl, ⟨G198, rfl⟩, z199, rfl, rfl⟩
                        exact r_retZ hX hP rfl rfl (by first | decide | omega) (by first | decide | omega) (by first | decide | omega) (by first | decide | omega) ⟨rfl, ⟨_, (hq_call (hq_up (hq_up (hq_refl _ _ _) rfl) rfl) rfl).symm⟩, 0, rfl, latest, latest_e, (by first | decide | omega), (by first | decide | omega), (Or.inr ⟨rfl, by omega, fun j => ⟨rfl, rfl, rfl⟩, by omega⟩)⟩
                  · skip
                    exfalso; omega
                · skip
                  refine r_if_ne hX hP rfl (tgt := 117) rfl (by first | decide | omega) (by first | decide | omega) (fun c200 => ?_) (fun c200 => ?_)
                  · skip
                    exfalso; omega
                  · skip
                    refine r_ex hX hP 2 (pc' := 113) (st' := [(0, 2), (2, (Ad E 1))]) (lo' := [(0, (2, (Ad E 1))), (1, (0, w)), (2, (0, i)), (3, (0, k)), (4, (2, (Ad E 43))), (5, (0, trades))]) rfl ?_
                    refine r_callV gd hX hP rfl cv_12_321 hS (d' := 0) (mc' := 0) (ms' := 0) (as' := [(0, 2)]) (st := []) (by first | decide | omega) (by first | decide | omega) (by first | decide | omega) rfl rfl (Nat.le_of_ble_eq_true rfl) (c_X12_no E S (up (up G 1 (Ad E 1) 1 0) 1 (Ad E 1) 0 0) 2 hS (by first | decide | omega) (by first | decide | omega)) ?_
                    rintro _ _ _ ⟨rfl, ⟨G201, rfl⟩, z202, rfl, rfl⟩
                    exact r_retZ hX hP rfl rfl (by first | decide | omega) (by first | decide | omega) (by first | decide | omega) (by first | decide | omega) ⟨rfl, ⟨_, (hq_call (hq_up (hq_up (hq_refl _ _ _) rfl) rfl) rfl).symm⟩, 0, rfl, latest, latest_e, (by first | decide | omega), (by first | decide | omega), (Or.inr ⟨rfl, by omega, fun j => ⟨rfl, rfl, rfl⟩, by omega⟩)⟩
            · skip
              refine r_if_eq hX hP rfl (tgt := 111) rfl (by first | decide | omega) (by first | decide | omega) (fun c203 => ?_) (fun c203 => ?_)
              · skip
                refine r_ex hX hP 2 (pc' := 113) (st' := [(0, 2), (2, (Ad E 1))]) (lo' := [(0, (2, (Ad E 1))), (1, (0, w)), (2, (0, i)), (3, (0, k)), (4, (2, (Ad E 43))), (5, (0, trades))]) rfl ?_
                refine r_callV gd hX hP rfl cv_12_321 hS (d' := 0) (mc' := 0) (ms' := 0) (as' := [(0, 2)]) (st := []) (by first | decide | omega) (by first | decide | omega) (by first | decide | omega) rfl rfl (Nat.le_of_ble_eq_true rfl) (c_X12_no E S (up (up G 1 (Ad E 1) 1 0) 1 (Ad E 1) 0 0) 2 hS (by first | decide | omega) (by first | decide | omega)) ?_
                rintro _ _ _ ⟨rfl, ⟨G204, rfl⟩, z205, rfl, rfl⟩
                exact r_retZ hX hP rfl rfl (by first | decide | omega) (by first | decide | omega) (by first | decide | omega) (by first | decide | omega) ⟨rfl, ⟨_, (hq_call (hq_up (hq_up (hq_refl _ _ _) rfl) rfl) rfl).symm⟩, 0, rfl, latest, latest_e, (by first | decide | omega), (by first | decide | omega), (Or.inr ⟨rfl, by omega, fun j => ⟨rfl, rfl, rfl⟩, by omega⟩)⟩
              · skip
                exfalso; omega
          · skip
            exfalso; omega
    · skip
      refine r_ex hX hP 1 (pc' := 27) (st' := [(2, (Ad E 1))]) (lo' := [(0, (2, (Ad E 1))), (1, (0, w)), (2, (0, i)), (3, (0, k))]) rfl ?_
      refine r_getC hX hP rfl fl_12_89 hS (fun s206 => ?_)
      refine r_ex hX hP 3 (pc' := 40) (st' := [(0, w)]) (lo' := [(0, (2, (Ad E 1))), (1, (0, w)), (2, (0, i)), (3, (0, k)), (4, (2, (Ad E 25)))]) rfl ?_
      refine r_if_ne hX hP rfl (tgt := 50) rfl (by first | decide | omega) (by first | decide | omega) (fun c207 => ?_) (fun c207 => ?_)
      · skip
        refine r_ex hX hP 2 (pc' := 52) (st' := [(0, 1), (0, w)]) (lo' := [(0, (2, (Ad E 1))), (1, (0, w)), (2, (0, i)), (3, (0, k)), (4, (2, (Ad E 25)))]) rfl ?_
        refine r_ic_ne hX hP rfl (tgt := 62) rfl (by first | decide | omega) (by first | decide | omega) (by first | decide | omega) (by first | decide | omega) (fun c208 => ?_) (fun c208 => ?_)
        · skip
          exfalso; omega
        · skip
          refine r_ex hX hP 1 (pc' := 56) (st' := [(2, (Ad E 1))]) (lo' := [(0, (2, (Ad E 1))), (1, (0, w)), (2, (0, i)), (3, (0, k)), (4, (2, (Ad E 25)))]) rfl ?_
          refine r_getKI hX hP rfl fl_12_490 hS (x := events) events_e ?_
          refine r_ex hX hP 5 (pc' := 71) (st' := [(0, 2), (0, 0), (0, w)]) (lo' := [(0, (2, (Ad E 1))), (1, (0, w)), (2, (0, i)), (3, (0, k)), (4, (2, (Ad E 25))), (5, (0, events))]) rfl ?_
          refine r_callS gd hX hP rfl cs_12_310 (d' := 0) (mc' := 0) (ms' := 0) (as' := [(0, w), (0, 0), (0, 2)]) (st := []) (by first | decide | omega) (by first | decide | omega) (by first | decide | omega) rfl rfl (Nat.le_of_ble_eq_true rfl) (c_X12_isIn E S (up (up G 1 (Ad E 1) 1 0) 1 (Ad E 1) 0 0) w 0 2 (by first | decide | omega) (by first | decide | omega) (by first | decide | omega) (by first | decide | omega) (by first | decide | omega) (by first | decide | omega)) ?_
          rintro _ _ _ ⟨rfl, rfl, z209, rfl, (⟨rfl, f210, f211⟩ | ⟨rfl, f212⟩)⟩
          · skip
            refine r_if_eq hX hP rfl (tgt := 95) rfl (by first | decide | omega) (by first | decide | omega) (fun c213 => ?_) (fun c213 => ?_)
            · skip
              exfalso; omega
            · skip
              refine r_ex hX hP 5 (pc' := 83) (st' := [(0, (events - 1)), (0, 0), (0, i)]) (lo' := [(0, (2, (Ad E 1))), (1, (0, w)), (2, (0, i)), (3, (0, k)), (4, (2, (Ad E 25))), (5, (0, events))]) rfl ?_
              refine r_callS gd hX hP rfl cs_12_310 (d' := 0) (mc' := 0) (ms' := 0) (as' := [(0, i), (0, 0), (0, (events - 1))]) (st := []) (by first | decide | omega) (by first | decide | omega) (by first | decide | omega) rfl rfl (Nat.le_of_ble_eq_true rfl) (c_X12_isIn E S (up (up G 1 (Ad E 1) 1 0) 1 (Ad E 1) 0 0) i 0 (events - 1) (by first | decide | omega) (by first | decide | omega) (by first | decide | omega) (by first | decide | omega) (by first | decide | omega) (by first | decide | omega)) ?_
              rintro _ _ _ ⟨rfl, rfl, z214, rfl, (⟨rfl, f215, f216⟩ | ⟨rfl, f217⟩)⟩
              · skip
                refine r_if_ne hX hP rfl (tgt := 95) rfl (by first | decide | omega) (by first | decide | omega) (fun c218 => ?_) (fun c218 => ?_)
                · skip
                  refine r_ex hX hP 3 (pc' := 98) (st' := [(0, 2), (0, 0), (0, w)]) (lo' := [(0, (2, (Ad E 1))), (1, (0, w)), (2, (0, i)), (3, (0, k)), (4, (2, (Ad E 25))), (5, (0, events))]) rfl ?_
                  refine r_callS gd hX hP rfl cs_12_310 (d' := 0) (mc' := 0) (ms' := 0) (as' := [(0, w), (0, 0), (0, 2)]) (st := []) (by first | decide | omega) (by first | decide | omega) (by first | decide | omega) rfl rfl (Nat.le_of_ble_eq_true rfl) (c_X12_isIn E S (up (up G 1 (Ad E 1) 1 0) 1 (Ad E 1) 0 0) w 0 2 (by first | decide | omega) (by first | decide | omega) (by first | decide | omega) (by first | decide | omega) (by first | decide | omega) (by first | decide | omega)) ?_
                  rintro _ _ _ ⟨rfl, rfl, z219, rfl, (⟨rfl, f220, f221⟩ | ⟨rfl, f222⟩)⟩
                  · skip
                    refine r_if_eq hX hP rfl (tgt := 111) rfl (by first | decide | omega) (by first | decide | omega) (fun c223 => ?_) (fun c223 => ?_)
                    · skip
                      exfalso; omega
                    · skip
                      refine r_ex hX hP 1 (pc' := 105) (st' := [(0, k)]) (lo' := [(0, (2, (Ad E 1))), (1, (0, w)), (2, (0, i)), (3, (0, k)), (4, (2, (Ad E 25))), (5, (0, events))]) rfl ?_
                      refine r_callS gd hX hP rfl cs_12_317 (d' := 1) (mc' := 0) (ms' := 0) (as' := [(0, k)]) (st := []) (by first | decide | omega) (by first | decide | omega) (by first | decide | omega) rfl rfl (Nat.le_of_ble_eq_true rfl) (c_X12_isDay E S (up (up G 1 (Ad E 1) 1 0) 1 (Ad E 1) 0 0) k (by first | decide | omega) (by first | decide | omega)) ?_
                      rintro _ _ _ ⟨rfl, rfl, z224, rfl, (⟨rfl, f225, f226⟩ | ⟨rfl, f227⟩)⟩
                      · skip
                        refine r_if_ne hX hP rfl (tgt := 117) rfl (by first | decide | omega) (by first | decide | omega) (fun c228 => ?_) (fun c228 => ?_)
                        · skip
                          refine r_ex hX hP 2 (pc' := 119) (st' := [(2, (Ad E 1)), (0, k)]) (lo' := [(0, (2, (Ad E 1))), (1, (0, w)), (2, (0, i)), (3, (0, k)), (4, (2, (Ad E 25))), (5, (0, events))]) rfl ?_
                          refine r_getKI hX hP rfl fl_12_339 hS (x := latest) latest_e ?_
                          refine r_ic_lt hX hP rfl (tgt := 135) rfl (by first | decide | omega) (by first | decide | omega) (by first | decide | omega) (by first | decide | omega) (fun c229 => ?_) (fun c229 => ?_)
                          · skip
                            refine r_ex hX hP 2 (pc' := 137) (st' := [(0, 4), (2, (Ad E 1))]) (lo' := [(0, (2, (Ad E 1))), (1, (0, w)), (2, (0, i)), (3, (0, k)), (4, (2, (Ad E 25))), (5, (0, events))]) rfl ?_
                            refine r_callV gd hX hP rfl cv_12_321 hS (d' := 0) (mc' := 0) (ms' := 0) (as' := [(0, 4)]) (st := []) (by first | decide | omega) (by first | decide | omega) (by first | decide | omega) rfl rfl (Nat.le_of_ble_eq_true rfl) (c_X12_no E S (up (up G 1 (Ad E 1) 1 0) 1 (Ad E 1) 0 0) 4 hS (by first | decide | omega) (by first | decide | omega)) ?_
                            rintro _ _ _ ⟨rfl, ⟨G230, rfl⟩, z231, rfl, rfl⟩
                            exact r_retZ hX hP rfl rfl (by first | decide | omega) (by first | decide | omega) (by first | decide | omega) (by first | decide | omega) ⟨rfl, ⟨_, (hq_call (hq_up (hq_up (hq_refl _ _ _) rfl) rfl) rfl).symm⟩, 0, rfl, latest, latest_e, (by first | decide | omega), (by first | decide | omega), (Or.inr ⟨rfl, by omega, fun j => ⟨rfl, rfl, rfl⟩, by omega⟩)⟩
                          · skip
                            refine r_ex hX hP 2 (pc' := 128) (st' := [(0, i), (2, (Ad E 25))]) (lo' := [(0, (2, (Ad E 1))), (1, (0, w)), (2, (0, i)), (3, (0, k)), (4, (2, (Ad E 25))), (5, (0, events))]) rfl ?_
                            refine r_iald hX hP rfl al_25 s206 (by first | decide | omega) (by first | decide | omega) (fun x232 x232e x232a x232b => ?_)
                            have k233 : x232 = G 25 (Ad E 25) i := x232e
                            refine r_ldcw hX hP rfl (v := 1000000000) (tbg sg9 109 rfl rfl) ?_
                            refine r_ic_ge hX hP rfl (tgt := 141) rfl (by first | decide | omega) (by first | decide | omega) (by first | decide | omega) (by first | decide | omega) (fun c234 => ?_) (fun c234 => ?_)
                            · skip
                              refine r_ex hX hP 3 (pc' := 145) (st' := [(0, k), (0, i), (2, (Ad E 25))]) (lo' := [(0, (2, (Ad E 1))), (1, (0, w)), (2, (0, i)), (3, (0, k)), (4, (2, (Ad E 25))), (5, (0, events))]) rfl ?_
                              refine r_iastK hX hP rfl al_25 s206 (by first | decide | omega) (by first | decide | omega) (by first | decide | omega) (by first | decide | omega) (fun h235 => ?_)
                              refine r_ex hX hP 2 (pc' := 148) (st' := [(0, k), (2, (Ad E 1))]) (lo' := [(0, (2, (Ad E 1))), (1, (0, w)), (2, (0, i)), (3, (0, k)), (4, (2, (Ad E 25))), (5, (0, events))]) rfl ?_
                              refine r_putIK hX hP rfl fp_12_339 hS (by first | decide | omega) (by first | decide | omega) (fun h236 => ?_)
                              refine r_ex hX hP 1 (pc' := 152) (st' := [(0, 1)]) (lo' := [(0, (2, (Ad E 1))), (1, (0, w)), (2, (0, i)), (3, (0, k)), (4, (2, (Ad E 25))), (5, (0, events))]) rfl ?_
                              exact r_retZ hX hP rfl rfl (by first | decide | omega) (by first | decide | omega) (by first | decide | omega) (by first | decide | omega) ⟨rfl, ⟨_, (hq_up (hq_up (hq_up (hq_up (hq_refl _ _ _) rfl) rfl) rfl) rfl).symm⟩, 1, rfl, k, h236, (by first | decide | omega), (by first | decide | omega), (Or.inl ⟨by omega, by omega, by omega, by omega, (Or.inr (Or.inl ⟨rfl, by omega, by omega, by omega, by omega, (show (up (up (up G 1 (Ad E 1) 1 0) 1 (Ad E 1) 0 0) 25 (Ad E 25) i k) 25 (Ad E 25) i = k from up_self _ _ _ _ _), (fun j hi => ((show (up (up (up G 1 (Ad E 1) 1 0) 1 (Ad E 1) 0 0) 25 (Ad E 25) i k) 25 (Ad E 25) j = _ from up_ne (fun q => absurd q.2.2 (by first | decide | omega))).trans rfl)), (fun j => ⟨rfl, rfl⟩)⟩))⟩)⟩
                            · skip
                              refine r_ex hX hP 2 (pc' := 137) (st' := [(0, 4), (2, (Ad E 1))]) (lo' := [(0, (2, (Ad E 1))), (1, (0, w)), (2, (0, i)), (3, (0, k)), (4, (2, (Ad E 25))), (5, (0, events))]) rfl ?_
                              refine r_callV gd hX hP rfl cv_12_321 hS (d' := 0) (mc' := 0) (ms' := 0) (as' := [(0, 4)]) (st := []) (by first | decide | omega) (by first | decide | omega) (by first | decide | omega) rfl rfl (Nat.le_of_ble_eq_true rfl) (c_X12_no E S (up (up G 1 (Ad E 1) 1 0) 1 (Ad E 1) 0 0) 4 hS (by first | decide | omega) (by first | decide | omega)) ?_
                              rintro _ _ _ ⟨rfl, ⟨G237, rfl⟩, z238, rfl, rfl⟩
                              exact r_retZ hX hP rfl rfl (by first | decide | omega) (by first | decide | omega) (by first | decide | omega) (by first | decide | omega) ⟨rfl, ⟨_, (hq_call (hq_up (hq_up (hq_refl _ _ _) rfl) rfl) rfl).symm⟩, 0, rfl, latest, latest_e, (by first | decide | omega), (by first | decide | omega), (Or.inr ⟨rfl, by omega, fun j => ⟨rfl, rfl, rfl⟩, by omega⟩)⟩
                        · skip
                          exfalso; omega
                      · skip
                        refine r_if_ne hX hP rfl (tgt := 117) rfl (by first | decide | omega) (by first | decide | omega) (fun c239 => ?_) (fun c239 => ?_)
                        · skip
                          exfalso; omega
                        · skip
                          refine r_ex hX hP 2 (pc' := 113) (st' := [(0, 2), (2, (Ad E 1))]) (lo' := [(0, (2, (Ad E 1))), (1, (0, w)), (2, (0, i)), (3, (0, k)), (4, (2, (Ad E 25))), (5, (0, events))]) rfl ?_
                          refine r_callV gd hX hP rfl cv_12_321 hS (d' := 0) (mc' := 0) (ms' := 0) (as' := [(0, 2)]) (st := []) (by first | decide | omega) (by first | decide | omega) (by first | decide | omega) rfl rfl (Nat.le_of_ble_eq_true rfl) (c_X12_no E S (up (up G 1 (Ad E 1) 1 0) 1 (Ad E 1) 0 0) 2 hS (by first | decide | omega) (by first | decide | omega)) ?_
                          rintro _ _ _ ⟨rfl, ⟨G240, rfl⟩, z241, rfl, rfl⟩
                          exact r_retZ hX hP rfl rfl (by first | decide | omega) (by first | decide | omega) (by first | decide | omega) (by first | decide | omega) ⟨rfl, ⟨_, (hq_call (hq_up (hq_up (hq_refl _ _ _) rfl) rfl) rfl).symm⟩, 0, rfl, latest, latest_e, (by first | decide | omega), (by first | decide | omega), (Or.inr ⟨rfl, by omega, fun j => ⟨rfl, rfl, rfl⟩, by omega⟩)⟩
                  · skip
                    refine r_if_eq hX hP rfl (tgt := 111) rfl (by first | decide | omega) (by first | decide | omega) (fun c242 => ?_) (fun c242 => ?_)
                    · skip
                      refine r_ex hX hP 2 (pc' := 113) (st' := [(0, 2), (2, (Ad E 1))]) (lo' := [(0, (2, (Ad E 1))), (1, (0, w)), (2, (0, i)), (3, (0, k)), (4, (2, (Ad E 25))), (5, (0, events))]) rfl ?_
                      refine r_callV gd hX hP rfl cv_12_321 hS (d' := 0) (mc' := 0) (ms' := 0) (as' := [(0, 2)]) (st := []) (by first | decide | omega) (by first | decide | omega) (by first | decide | omega) rfl rfl (Nat.le_of_ble_eq_true rfl) (c_X12_no E S (up (up G 1 (Ad E 1) 1 0) 1 (Ad E 1) 0 0) 2 hS (by first | decide | omega) (by first | decide | omega)) ?_
                      rintro _ _ _ ⟨rfl, ⟨G243, rfl⟩, z244, rfl, rfl⟩
                      exact r_retZ hX hP rfl rfl (by first | decide | omega) (by first | decide | omega) (by first | decide | omega) (by first | decide | omega) ⟨rfl, ⟨_, (hq_call (hq_up (hq_up (hq_refl _ _ _) rfl) rfl) rfl).symm⟩, 0, rfl, latest, latest_e, (by first | decide | omega), (by first | decide | omega), (Or.inr ⟨rfl, by omega, fun j => ⟨rfl, rfl, rfl⟩, by omega⟩)⟩
                    · skip
                      exfalso; omega
                · skip
                  exfalso; omega
              · skip
                refine r_if_ne hX hP rfl (tgt := 95) rfl (by first | decide | omega) (by first | decide | omega) (fun c245 => ?_) (fun c245 => ?_)
                · skip
                  exfalso; omega
                · skip
                  refine r_ex hX hP 2 (pc' := 91) (st' := [(0, 1), (2, (Ad E 1))]) (lo' := [(0, (2, (Ad E 1))), (1, (0, w)), (2, (0, i)), (3, (0, k)), (4, (2, (Ad E 25))), (5, (0, events))]) rfl ?_
                  refine r_callV gd hX hP rfl cv_12_321 hS (d' := 0) (mc' := 0) (ms' := 0) (as' := [(0, 1)]) (st := []) (by first | decide | omega) (by first | decide | omega) (by first | decide | omega) rfl rfl (Nat.le_of_ble_eq_true rfl) (c_X12_no E S (up (up G 1 (Ad E 1) 1 0) 1 (Ad E 1) 0 0) 1 hS (by first | decide | omega) (by first | decide | omega)) ?_
                  rintro _ _ _ ⟨rfl, ⟨G246, rfl⟩, z247, rfl, rfl⟩
                  exact r_retZ hX hP rfl rfl (by first | decide | omega) (by first | decide | omega) (by first | decide | omega) (by first | decide | omega) ⟨rfl, ⟨_, (hq_call (hq_up (hq_up (hq_refl _ _ _) rfl) rfl) rfl).symm⟩, 0, rfl, latest, latest_e, (by first | decide | omega), (by first | decide | omega), (Or.inr ⟨rfl, by omega, fun j => ⟨rfl, rfl, rfl⟩, by omega⟩)⟩
          · skip
            refine r_if_eq hX hP rfl (tgt := 95) rfl (by first | decide | omega) (by first | decide | omega) (fun c248 => ?_) (fun c248 => ?_)
            · skip
              refine r_ex hX hP 3 (pc' := 98) (st' := [(0, 2), (0, 0), (0, w)]) (lo' := [(0, (2, (Ad E 1))), (1, (0, w)), (2, (0, i)), (3, (0, k)), (4, (2, (Ad E 25))), (5, (0, events))]) rfl ?_
              refine r_callS gd hX hP rfl cs_12_310 (d' := 0) (mc' := 0) (ms' := 0) (as' := [(0, w), (0, 0), (0, 2)]) (st := []) (by first | decide | omega) (by first | decide | omega) (by first | decide | omega) rfl rfl (Nat.le_of_ble_eq_true rfl) (c_X12_isIn E S (up (up G 1 (Ad E 1) 1 0) 1 (Ad E 1) 0 0) w 0 2 (by first | decide | omega) (by first | decide | omega) (by first | decide | omega) (by first | decide | omega) (by first | decide | omega) (by first | decide | omega)) ?_
              rintro _ _ _ ⟨rfl, rfl, z249, rfl, (⟨rfl, f250, f251⟩ | ⟨rfl, f252⟩)⟩
              · skip
                refine r_if_eq hX hP rfl (tgt := 111) rfl (by first | decide | omega) (by first | decide | omega) (fun c253 => ?_) (fun c253 => ?_)
                · skip
                  exfalso; omega
                · skip
                  refine r_ex hX hP 1 (pc' := 105) (st' := [(0, k)]) (lo' := [(0, (2, (Ad E 1))), (1, (0, w)), (2, (0, i)), (3, (0, k)), (4, (2, (Ad E 25))), (5, (0, events))]) rfl ?_
                  refine r_callS gd hX hP rfl cs_12_317 (d' := 1) (mc' := 0) (ms' := 0) (as' := [(0, k)]) (st := []) (by first | decide | omega) (by first | decide | omega) (by first | decide | omega) rfl rfl (Nat.le_of_ble_eq_true rfl) (c_X12_isDay E S (up (up G 1 (Ad E 1) 1 0) 1 (Ad E 1) 0 0) k (by first | decide | omega) (by first | decide | omega)) ?_
                  rintro _ _ _ ⟨rfl, rfl, z254, rfl, (⟨rfl, f255, f256⟩ | ⟨rfl, f257⟩)⟩
                  · skip
                    refine r_if_ne hX hP rfl (tgt := 117) rfl (by first | decide | omega) (by first | decide | omega) (fun c258 => ?_) (fun c258 => ?_)
                    · skip
                      refine r_ex hX hP 2 (pc' := 119) (st' := [(2, (Ad E 1)), (0, k)]) (lo' := [(0, (2, (Ad E 1))), (1, (0, w)), (2, (0, i)), (3, (0, k)), (4, (2, (Ad E 25))), (5, (0, events))]) rfl ?_
                      refine r_getKI hX hP rfl fl_12_339 hS (x := latest) latest_e ?_
                      refine r_ic_lt hX hP rfl (tgt := 135) rfl (by first | decide | omega) (by first | decide | omega) (by first | decide | omega) (by first | decide | omega) (fun c259 => ?_) (fun c259 => ?_)
                      · skip
                        refine r_ex hX hP 2 (pc' := 137) (st' := [(0, 4), (2, (Ad E 1))]) (lo' := [(0, (2, (Ad E 1))), (1, (0, w)), (2, (0, i)), (3, (0, k)), (4, (2, (Ad E 25))), (5, (0, events))]) rfl ?_
                        refine r_callV gd hX hP rfl cv_12_321 hS (d' := 0) (mc' := 0) (ms' := 0) (as' := [(0, 4)]) (st := []) (by first | decide | omega) (by first | decide | omega) (by first | decide | omega) rfl rfl (Nat.le_of_ble_eq_true rfl) (c_X12_no E S (up (up G 1 (Ad E 1) 1 0) 1 (Ad E 1) 0 0) 4 hS (by first | decide | omega) (by first | decide | omega)) ?_
                        rintro _ _ _ ⟨rfl, ⟨G260, rfl⟩, z261, rfl, rfl⟩
                        exact r_retZ hX hP rfl rfl (by first | decide | omega) (by first | decide | omega) (by first | decide | omega) (by first | decide | omega) ⟨rfl, ⟨_, (hq_call (hq_up (hq_up (hq_refl _ _ _) rfl) rfl) rfl).symm⟩, 0, rfl, latest, latest_e, (by first | decide | omega), (by first | decide | omega), (Or.inr ⟨rfl, by omega, fun j => ⟨rfl, rfl, rfl⟩, by omega⟩)⟩
                      · skip
                        refine r_ex hX hP 2 (pc' := 128) (st' := [(0, i), (2, (Ad E 25))]) (lo' := [(0, (2, (Ad E 1))), (1, (0, w)), (2, (0, i)), (3, (0, k)), (4, (2, (Ad E 25))), (5, (0, events))]) rfl ?_
                        refine r_iald hX hP rfl al_25 s206 (by first | decide | omega) (by first | decide | omega) (fun x262 x262e x262a x262b => ?_)
                        have k263 : x262 = G 25 (Ad E 25) i := x262e
                        refine r_ldcw hX hP rfl (v := 1000000000) (tbg sg9 109 rfl rfl) ?_
                        refine r_ic_ge hX hP rfl (tgt := 141) rfl (by first | decide | omega) (by first | decide | omega) (by first | decide | omega) (by first | decide | omega) (fun c264 => ?_) (fun c264 => ?_)
                        · skip
                          refine r_ex hX hP 3 (pc' := 145) (st' := [(0, k), (0, i), (2, (Ad E 25))]) (lo' := [(0, (2, (Ad E 1))), (1, (0, w)), (2, (0, i)), (3, (0, k)), (4, (2, (Ad E 25))), (5, (0, events))]) rfl ?_
                          refine r_iastK hX hP rfl al_25 s206 (by first | decide | omega) (by first | decide | omega) (by first | decide | omega) (by first | decide | omega) (fun h265 => ?_)
                          refine r_ex hX hP 2 (pc' := 148) (st' := [(0, k), (2, (Ad E 1))]) (lo' := [(0, (2, (Ad E 1))), (1, (0, w)), (2, (0, i)), (3, (0, k)), (4, (2, (Ad E 25))), (5, (0, events))]) rfl ?_
                          refine r_putIK hX hP rfl fp_12_339 hS (by first | decide | omega) (by first | decide | omega) (fun h266 => ?_)
                          refine r_ex hX hP 1 (pc' := 152) (st' := [(0, 1)]) (lo' := [(0, (2, (Ad E 1))), (1, (0, w)), (2, (0, i)), (3, (0, k)), (4, (2, (Ad E 25))), (5, (0, events))]) rfl ?_
                          exact r_retZ hX hP rfl rfl (by first | decide | omega) (by first | decide | omega) (by first | decide | omega) (by first | decide | omega) ⟨rfl, ⟨_, (hq_up (hq_up (hq_up (hq_up (hq_refl _ _ _) rfl) rfl) rfl) rfl).symm⟩, 1, rfl, k, h266, (by first | decide | omega), (by first | decide | omega), (Or.inl ⟨by omega, by omega, by omega, by omega, (Or.inr (Or.inl ⟨rfl, by omega, by omega, by omega, by omega, (show (up (up (up G 1 (Ad E 1) 1 0) 1 (Ad E 1) 0 0) 25 (Ad E 25) i k) 25 (Ad E 25) i = k from up_self _ _ _ _ _), (fun j hi => ((show (up (up (up G 1 (Ad E 1) 1 0) 1 (Ad E 1) 0 0) 25 (Ad E 25) i k) 25 (Ad E 25) j = _ from up_ne (fun q => absurd q.2.2 (by first | decide | omega))).trans rfl)), (fun j => ⟨rfl, rfl⟩)⟩))⟩)⟩
                        · skip
                          refine r_ex hX hP 2 (pc' := 137) (st' := [(0, 4), (2, (Ad E 1))]) (lo' := [(0, (2, (Ad E 1))), (1, (0, w)), (2, (0, i)), (3, (0, k)), (4, (2, (Ad E 25))), (5, (0, events))]) rfl ?_
                          refine r_callV gd hX hP rfl cv_12_321 hS (d' := 0) (mc' := 0) (ms' := 0) (as' := [(0, 4)]) (st := []) (by first | decide | omega) (by first | decide | omega) (by first | decide | omega) rfl rfl (Nat.le_of_ble_eq_true rfl) (c_X12_no E S (up (up G 1 (Ad E 1) 1 0) 1 (Ad E 1) 0 0) 4 hS (by first | decide | omega) (by first | decide | omega)) ?_
                          rintro _ _ _ ⟨rfl, ⟨G267, rfl⟩, z268, rfl, rfl⟩
                          exact r_retZ hX hP rfl rfl (by first | decide | omega) (by first | decide | omega) (by first | decide | omega) (by first | decide | omega) ⟨rfl, ⟨_, (hq_call (hq_up (hq_up (hq_refl _ _ _) rfl) rfl) rfl).symm⟩, 0, rfl, latest, latest_e, (by first | decide | omega), (by first | decide | omega), (Or.inr ⟨rfl, by omega, fun j => ⟨rfl, rfl, rfl⟩, by omega⟩)⟩
                    · skip
                      exfalso; omega
                  · skip
                    refine r_if_ne hX hP rfl (tgt := 117) rfl (by first | decide | omega) (by first | decide | omega) (fun c269 => ?_) (fun c269 => ?_)
                    · skip
                      exfalso; omega
                    · skip
                      refine r_ex hX hP 2 (pc' := 113) (st' := [(0, 2), (2, (Ad E 1))]) (lo' := [(0, (2, (Ad E 1))), (1, (0, w)), (2, (0, i)), (3, (0, k)), (4, (2, (Ad E 25))), (5, (0, events))]) rfl ?_
                      refine r_callV gd hX hP rfl cv_12_321 hS (d' := 0) (mc' := 0) (ms' := 0) (as' := [(0, 2)]) (st := []) (by first | decide | omega) (by first | decide | omega) (by first | decide | omega) rfl rfl (Nat.le_of_ble_eq_true rfl) (c_X12_no E S (up (up G 1 (Ad E 1) 1 0) 1 (Ad E 1) 0 0) 2 hS (by first | decide | omega) (by first | decide | omega)) ?_
                      rintro _ _ _ ⟨rfl, ⟨G270, rfl⟩, z271, rfl, rfl⟩
                      exact r_retZ hX hP rfl rfl (by first | decide | omega) (by first | decide | omega) (by first | decide | omega) (by first | decide | omega) ⟨rfl, ⟨_, (hq_call (hq_up (hq_up (hq_refl _ _ _) rfl) rfl) rfl).symm⟩, 0, rfl, latest, latest_e, (by first | decide | omega), (by first | decide | omega), (Or.inr ⟨rfl, by omega, fun j => ⟨rfl, rfl, rfl⟩, by omega⟩)⟩
              · skip
                refine r_if_eq hX hP rfl (tgt := 111) rfl (by first | decide | omega) (by first | decide | omega) (fun c272 => ?_) (fun c272 => ?_)
                · skip
                  refine r_ex hX hP 2 (pc' := 113) (st' := [(0, 2), (2, (Ad E 1))]) (lo' := [(0, (2, (Ad E 1))), (1, (0, w)), (2, (0, i)), (3, (0, k)), (4, (2, (Ad E 25))), (5, (0, events))]) rfl ?_
                  refine r_callV gd hX hP rfl cv_12_321 hS (d' := 0) (mc' := 0) (ms' := 0) (as' := [(0, 2)]) (st := []) (by first | decide | omega) (by first | decide | omega) (by first | decide | omega) rfl rfl (Nat.le_of_ble_eq_true rfl) (c_X12_no E S (up (up G 1 (Ad E 1) 1 0) 1 (Ad E 1) 0 0) 2 hS (by first | decide | omega) (by first | decide | omega)) ?_
                  rintro _ _ _ ⟨rfl, ⟨G273, rfl⟩, z274, rfl, rfl⟩
                  exact r_retZ hX hP rfl rfl (by first | decide | omega) (by first | decide | omega) (by first | decide | omega) (by first | decide | omega) ⟨rfl, ⟨_, (hq_call (hq_up (hq_up (hq_refl _ _ _) rfl) rfl) rfl).symm⟩, 0, rfl, latest, latest_e, (by first | decide | omega), (by first | decide | omega), (Or.inr ⟨rfl, by omega, fun j => ⟨rfl, rfl, rfl⟩, by omega⟩)⟩
                · skip
                  exfalso; omega
            · skip
              exfalso; omega
      · skip
        exfalso; omega
  · skip
    refine r_ex hX hP 1 (pc' := 15) (st' := [(2, (Ad E 1))]) (lo' := [(0, (2, (Ad E 1))), (1, (0, w)), (2, (0, i)), (3, (0, k))]) rfl ?_
    refine r_getC hX hP rfl fl_12_67 hS (fun s275 => ?_)
    refine r_ex hX hP 3 (pc' := 40) (st' := [(0, w)]) (lo' := [(0, (2, (Ad E 1))), (1, (0, w)), (2, (0, i)), (3, (0, k)), (4, (2, (Ad E 18)))]) rfl ?_
    refine r_if_ne hX hP rfl (tgt := 50) rfl (by first | decide | omega) (by first | decide | omega) (fun c276 => ?_) (fun c276 => ?_)
    · skip
      exfalso; omega
    · skip
      refine r_ex hX hP 1 (pc' := 44) (st' := [(2, (Ad E 1))]) (lo' := [(0, (2, (Ad E 1))), (1, (0, w)), (2, (0, i)), (3, (0, k)), (4, (2, (Ad E 18)))]) rfl ?_
      refine r_getKI hX hP rfl fl_12_342 hS (x := trades) trades_e ?_
      refine r_ex hX hP 5 (pc' := 71) (st' := [(0, 2), (0, 0), (0, w)]) (lo' := [(0, (2, (Ad E 1))), (1, (0, w)), (2, (0, i)), (3, (0, k)), (4, (2, (Ad E 18))), (5, (0, trades))]) rfl ?_
      refine r_callS gd hX hP rfl cs_12_310 (d' := 0) (mc' := 0) (ms' := 0) (as' := [(0, w), (0, 0), (0, 2)]) (st := []) (by first | decide | omega) (by first | decide | omega) (by first | decide | omega) rfl rfl (Nat.le_of_ble_eq_true rfl) (c_X12_isIn E S (up (up G 1 (Ad E 1) 1 0) 1 (Ad E 1) 0 0) w 0 2 (by first | decide | omega) (by first | decide | omega) (by first | decide | omega) (by first | decide | omega) (by first | decide | omega) (by first | decide | omega)) ?_
      rintro _ _ _ ⟨rfl, rfl, z277, rfl, (⟨rfl, f278, f279⟩ | ⟨rfl, f280⟩)⟩
      · skip
        refine r_if_eq hX hP rfl (tgt := 95) rfl (by first | decide | omega) (by first | decide | omega) (fun c281 => ?_) (fun c281 => ?_)
        · skip
          exfalso; omega
        · skip
          refine r_ex hX hP 5 (pc' := 83) (st' := [(0, (trades - 1)), (0, 0), (0, i)]) (lo' := [(0, (2, (Ad E 1))), (1, (0, w)), (2, (0, i)), (3, (0, k)), (4, (2, (Ad E 18))), (5, (0, trades))]) rfl ?_
          refine r_callS gd hX hP rfl cs_12_310 (d' := 0) (mc' := 0) (ms' := 0) (as' := [(0, i), (0, 0), (0, (trades - 1))]) (st := []) (by first | decide | omega) (by first | decide | omega) (by first | decide | omega) rfl rfl (Nat.le_of_ble_eq_true rfl) (c_X12_isIn E S (up (up G 1 (Ad E 1) 1 0) 1 (Ad E 1) 0 0) i 0 (trades - 1) (by first | decide | omega) (by first | decide | omega) (by first | decide | omega) (by first | decide | omega) (by first | decide | omega) (by first | decide | omega)) ?_
          rintro _ _ _ ⟨rfl, rfl, z282, rfl, (⟨rfl, f283, f284⟩ | ⟨rfl, f285⟩)⟩
          · skip
            refine r_if_ne hX hP rfl (tgt := 95) rfl (by first | decide | omega) (by first | decide | omega) (fun c286 => ?_) (fun c286 => ?_)
            · skip
              refine r_ex hX hP 3 (pc' := 98) (st' := [(0, 2), (0, 0), (0, w)]) (lo' := [(0, (2, (Ad E 1))), (1, (0, w)), (2, (0, i)), (3, (0, k)), (4, (2, (Ad E 18))), (5, (0, trades))]) rfl ?_
              refine r_callS gd hX hP rfl cs_12_310 (d' := 0) (mc' := 0) (ms' := 0) (as' := [(0, w), (0, 0), (0, 2)]) (st := []) (by first | decide | omega) (by first | decide | omega) (by first | decide | omega) rfl rfl (Nat.le_of_ble_eq_true rfl) (c_X12_isIn E S (up (up G 1 (Ad E 1) 1 0) 1 (Ad E 1) 0 0) w 0 2 (by first | decide | omega) (by first | decide | omega) (by first | decide | omega) (by first | decide | omega) (by first | decide | omega) (by first | decide | omega)) ?_
              rintro _ _ _ ⟨rfl, rfl, z287, rfl, (⟨rfl, f288, f289⟩ | ⟨rfl, f290⟩)⟩
              · skip
                refine r_if_eq hX hP rfl (tgt := 111) rfl (by first | decide | omega) (by first | decide | omega) (fun c291 => ?_) (fun c291 => ?_)
                · skip
                  exfalso; omega
                · skip
                  refine r_ex hX hP 1 (pc' := 105) (st' := [(0, k)]) (lo' := [(0, (2, (Ad E 1))), (1, (0, w)), (2, (0, i)), (3, (0, k)), (4, (2, (Ad E 18))), (5, (0, trades))]) rfl ?_
                  refine r_callS gd hX hP rfl cs_12_317 (d' := 1) (mc' := 0) (ms' := 0) (as' := [(0, k)]) (st := []) (by first | decide | omega) (by first | decide | omega) (by first | decide | omega) rfl rfl (Nat.le_of_ble_eq_true rfl) (c_X12_isDay E S (up (up G 1 (Ad E 1) 1 0) 1 (Ad E 1) 0 0) k (by first | decide | omega) (by first | decide | omega)) ?_
                  rintro _ _ _ ⟨rfl, rfl, z292, rfl, (⟨rfl, f293, f294⟩ | ⟨rfl, f295⟩)⟩
                  · skip
                    refine r_if_ne hX hP rfl (tgt := 117) rfl (by first | decide | omega) (by first | decide | omega) (fun c296 => ?_) (fun c296 => ?_)
                    · skip
                      refine r_ex hX hP 2 (pc' := 119) (st' := [(2, (Ad E 1)), (0, k)]) (lo' := [(0, (2, (Ad E 1))), (1, (0, w)), (2, (0, i)), (3, (0, k)), (4, (2, (Ad E 18))), (5, (0, trades))]) rfl ?_
                      refine r_getKI hX hP rfl fl_12_339 hS (x := latest) latest_e ?_
                      refine r_ic_lt hX hP rfl (tgt := 135) rfl (by first | decide | omega) (by first | decide | omega) (by first | decide | omega) (by first | decide | omega) (fun c297 => ?_) (fun c297 => ?_)
                      · skip
                        refine r_ex hX hP 2 (pc' := 137) (st' := [(0, 4), (2, (Ad E 1))]) (lo' := [(0, (2, (Ad E 1))), (1, (0, w)), (2, (0, i)), (3, (0, k)), (4, (2, (Ad E 18))), (5, (0, trades))]) rfl ?_
                        refine r_callV gd hX hP rfl cv_12_321 hS (d' := 0) (mc' := 0) (ms' := 0) (as' := [(0, 4)]) (st := []) (by first | decide | omega) (by first | decide | omega) (by first | decide | omega) rfl rfl (Nat.le_of_ble_eq_true rfl) (c_X12_no E S (up (up G 1 (Ad E 1) 1 0) 1 (Ad E 1) 0 0) 4 hS (by first | decide | omega) (by first | decide | omega)) ?_
                        rintro _ _ _ ⟨rfl, ⟨G298, rfl⟩, z299, rfl, rfl⟩
                        exact r_retZ hX hP rfl rfl (by first | decide | omega) (by first | decide | omega) (by first | decide | omega) (by first | decide | omega) ⟨rfl, ⟨_, (hq_call (hq_up (hq_up (hq_refl _ _ _) rfl) rfl) rfl).symm⟩, 0, rfl, latest, latest_e, (by first | decide | omega), (by first | decide | omega), (Or.inr ⟨rfl, by omega, fun j => ⟨rfl, rfl, rfl⟩, by omega⟩)⟩
                      · skip
                        refine r_ex hX hP 2 (pc' := 128) (st' := [(0, i), (2, (Ad E 18))]) (lo' := [(0, (2, (Ad E 1))), (1, (0, w)), (2, (0, i)), (3, (0, k)), (4, (2, (Ad E 18))), (5, (0, trades))]) rfl ?_
                        refine r_iald hX hP rfl al_18 s275 (by first | decide | omega) (by first | decide | omega) (fun x300 x300e x300a x300b => ?_)
                        have k301 : x300 = G 18 (Ad E 18) i := x300e
                        refine r_ldcw hX hP rfl (v := 1000000000) (tbg sg9 109 rfl rfl) ?_
                        refine r_ic_ge hX hP rfl (tgt := 141) rfl (by first | decide | omega) (by first | decide | omega) (by first | decide | omega) (by first | decide | omega) (fun c302 => ?_) (fun c302 => ?_)
                        · skip
                          refine r_ex hX hP 3 (pc' := 145) (st' := [(0, k), (0, i), (2, (Ad E 18))]) (lo' := [(0, (2, (Ad E 1))), (1, (0, w)), (2, (0, i)), (3, (0, k)), (4, (2, (Ad E 18))), (5, (0, trades))]) rfl ?_
                          refine r_iastK hX hP rfl al_18 s275 (by first | decide | omega) (by first | decide | omega) (by first | decide | omega) (by first | decide | omega) (fun h303 => ?_)
                          refine r_ex hX hP 2 (pc' := 148) (st' := [(0, k), (2, (Ad E 1))]) (lo' := [(0, (2, (Ad E 1))), (1, (0, w)), (2, (0, i)), (3, (0, k)), (4, (2, (Ad E 18))), (5, (0, trades))]) rfl ?_
                          refine r_putIK hX hP rfl fp_12_339 hS (by first | decide | omega) (by first | decide | omega) (fun h304 => ?_)
                          refine r_ex hX hP 1 (pc' := 152) (st' := [(0, 1)]) (lo' := [(0, (2, (Ad E 1))), (1, (0, w)), (2, (0, i)), (3, (0, k)), (4, (2, (Ad E 18))), (5, (0, trades))]) rfl ?_
                          exact r_retZ hX hP rfl rfl (by first | decide | omega) (by first | decide | omega) (by first | decide | omega) (by first | decide | omega) ⟨rfl, ⟨_, (hq_up (hq_up (hq_up (hq_up (hq_refl _ _ _) rfl) rfl) rfl) rfl).symm⟩, 1, rfl, k, h304, (by first | decide | omega), (by first | decide | omega), (Or.inl ⟨by omega, by omega, by omega, by omega, (Or.inl ⟨rfl, by omega, by omega, by omega, by omega, (show (up (up (up G 1 (Ad E 1) 1 0) 1 (Ad E 1) 0 0) 18 (Ad E 18) i k) 18 (Ad E 18) i = k from up_self _ _ _ _ _), (fun j hi => ((show (up (up (up G 1 (Ad E 1) 1 0) 1 (Ad E 1) 0 0) 18 (Ad E 18) i k) 18 (Ad E 18) j = _ from up_ne (fun q => absurd q.2.2 (by first | decide | omega))).trans rfl)), (fun j => ⟨rfl, rfl⟩)⟩)⟩)⟩
                        · skip
                          refine r_ex hX hP 2 (pc' := 137) (st' := [(0, 4), (2, (Ad E 1))]) (lo' := [(0, (2, (Ad E 1))), (1, (0, w)), (2, (0, i)), (3, (0, k)), (4, (2, (Ad E 18))), (5, (0, trades))]) rfl ?_
                          refine r_callV gd hX hP rfl cv_12_321 hS (d' := 0) (mc' := 0) (ms' := 0) (as' := [(0, 4)]) (st := []) (by first | decide | omega) (by first | decide | omega) (by first | decide | omega) rfl rfl (Nat.le_of_ble_eq_true rfl) (c_X12_no E S (up (up G 1 (Ad E 1) 1 0) 1 (Ad E 1) 0 0) 4 hS (by first | decide | omega) (by first | decide | omega)) ?_
                          rintro _ _ _ ⟨rfl, ⟨G305, rfl⟩, z306, rfl, rfl⟩
                          exact r_retZ hX hP rfl rfl (by first | decide | omega) (by first | decide | omega) (by first | decide | omega) (by first | decide | omega) ⟨rfl, ⟨_, (hq_call (hq_up (hq_up (hq_refl _ _ _) rfl) rfl) rfl).symm⟩, 0, rfl, latest, latest_e, (by first | decide | omega), (by first | decide | omega), (Or.inr ⟨rfl, by omega, fun j => ⟨rfl, rfl, rfl⟩, by omega⟩)⟩
                    · skip
                      exfalso; omega
                  · skip
                    refine r_if_ne hX hP rfl (tgt := 117) rfl (by first | decide | omega) (by first | decide | omega) (fun c307 => ?_) (fun c307 => ?_)
                    · skip
                      exfalso; omega
                    · skip
                      refine r_ex hX hP 2 (pc' := 113) (st' := [(0, 2), (2, (Ad E 1))]) (lo' := [(0, (2, (Ad E 1))), (1, (0, w)), (2, (0, i)), (3, (0, k)), (4, (2, (Ad E 18))), (5, (0, trades))]) rfl ?_
                      refine r_callV gd hX hP rfl cv_12_321 hS (d' := 0) (mc' := 0) (ms' := 0) (as' := [(0, 2)]) (st := []) (by first | decide | omega) (by first | decide | omega) (by first | decide | omega) rfl rfl (Nat.le_of_ble_eq_true rfl) (c_X12_no E S (up (up G 1 (Ad E 1) 1 0) 1 (Ad E 1) 0 0) 2 hS (by first | decide | omega) (by first | decide | omega)) ?_
                      rintro _ _ _ ⟨rfl, ⟨G308, rfl⟩, z309, rfl, rfl⟩
                      exact r_retZ hX hP rfl rfl (by first | decide | omega) (by first | decide | omega) (by first | decide | omega) (by first | decide | omega) ⟨rfl, ⟨_, (hq_call (hq_up (hq_up (hq_refl _ _ _) rfl) rfl) rfl).symm⟩, 0, rfl, latest, latest_e, (by first | decide | omega), (by first | decide | omega), (Or.inr ⟨rfl, by omega, fun j => ⟨rfl, rfl, rfl⟩, by omega⟩)⟩
              · skip
                refine r_if_eq hX hP rfl (tgt := 111) rfl (by first | decide | omega) (by first | decide | omega) (fun c310 => ?_) (fun c310 => ?_)
                · skip
                  refine r_ex hX hP 2 (pc' := 113) (st' := [(0, 2), (2, (Ad E 1))]) (lo' := [(0, (2, (Ad E 1))), (1, (0, w)), (2, (0, i)), (3, (0, k)), (4, (2, (Ad E 18))), (5, (0, trades))]) rfl ?_
                  refine r_callV gd hX hP rfl cv_12_321 hS (d' := 0) (mc' := 0) (ms' := 0) (as' := [(0, 2)]) (st := []) (by first | decide | omega) (by first | decide | omega) (by first | decide | omega) rfl rfl (Nat.le_of_ble_eq_true rfl) (c_X12_no E S (up (up G 1 (Ad E 1) 1 0) 1 (Ad E 1) 0 0) 2 hS (by first | decide | omega) (by first | decide | omega)) ?_
                  rintro _ _ _ ⟨rfl, ⟨G311, rfl⟩, z312, rfl, rfl⟩
                  exact r_retZ hX hP rfl rfl (by first | decide | omega) (by first | decide | omega) (by first | decide | omega) (by first | decide | omega) ⟨rfl, ⟨_, (hq_call (hq_up (hq_up (hq_refl _ _ _) rfl) rfl) rfl).symm⟩, 0, rfl, latest, latest_e, (by first | decide | omega), (by first | decide | omega), (Or.inr ⟨rfl, by omega, fun j => ⟨rfl, rfl, rfl⟩, by omega⟩)⟩
                · skip
                  exfalso; omega
            · skip
              exfalso; omega
          · skip
            refine r_if_ne hX hP rfl (tgt := 95) rfl (by first | decide | omega) (by first | decide | omega) (fun c313 => ?_) (fun c313 => ?_)
            · skip
              exfalso; omega
            · skip
              refine r_ex hX hP 2 (pc' := 91) (st' := [(0, 1), (2, (Ad E 1))]) (lo' := [(0, (2, (Ad E 1))), (1, (0, w)), (2, (0, i)), (3, (0, k)), (4, (2, (Ad E 18))), (5, (0, trades))]) rfl ?_
              refine r_callV gd hX hP rfl cv_12_321 hS (d' := 0) (mc' := 0) (ms' := 0) (as' := [(0, 1)]) (st := []) (by first | decide | omega) (by first | decide | omega) (by first | decide | omega) rfl rfl (Nat.le_of_ble_eq_true rfl) (c_X12_no E S (up (up G 1 (Ad E 1) 1 0) 1 (Ad E 1) 0 0) 1 hS (by first | decide | omega) (by first | decide | omega)) ?_
              rintro _ _ _ ⟨rfl, ⟨G314, rfl⟩, z315, rfl, rfl⟩
              exact r_retZ hX hP rfl rfl (by first | decide | omega) (by first | decide | omega) (by first | decide | omega) (by first | decide | omega) ⟨rfl, ⟨_, (hq_call (hq_up (hq_up (hq_refl _ _ _) rfl) rfl) rfl).symm⟩, 0, rfl, latest, latest_e, (by first | decide | omega), (by first | decide | omega), (Or.inr ⟨rfl, by omega, fun j => ⟨rfl, rfl, rfl⟩, by omega⟩)⟩
      · skip
        refine r_if_eq hX hP rfl (tgt := 95) rfl (by first | decide | omega) (by first | decide | omega) (fun c316 => ?_) (fun c316 => ?_)
        · skip
          refine r_ex hX hP 3 (pc' := 98) (st' := [(0, 2), (0, 0), (0, w)]) (lo' := [(0, (2, (Ad E 1))), (1, (0, w)), (2, (0, i)), (3, (0, k)), (4, (2, (Ad E 18))), (5, (0, trades))]) rfl ?_
          refine r_callS gd hX hP rfl cs_12_310 (d' := 0) (mc' := 0) (ms' := 0) (as' := [(0, w), (0, 0), (0, 2)]) (st := []) (by first | decide | omega) (by first | decide | omega) (by first | decide | omega) rfl rfl (Nat.le_of_ble_eq_true rfl) (c_X12_isIn E S (up (up G 1 (Ad E 1) 1 0) 1 (Ad E 1) 0 0) w 0 2 (by first | decide | omega) (by first | decide | omega) (by first | decide | omega) (by first | decide | omega) (by first | decide | omega) (by first | decide | omega)) ?_
          rintro _ _ _ ⟨rfl, rfl, z317, rfl, (⟨rfl, f318, f319⟩ | ⟨rfl, f320⟩)⟩
          · skip
            refine r_if_eq hX hP rfl (tgt := 111) rfl (by first | decide | omega) (by first | decide | omega) (fun c321 => ?_) (fun c321 => ?_)
            · skip
              exfalso; omega
            · skip
              refine r_ex hX hP 1 (pc' := 105) (st' := [(0, k)]) (lo' := [(0, (2, (Ad E 1))), (1, (0, w)), (2, (0, i)), (3, (0, k)), (4, (2, (Ad E 18))), (5, (0, trades))]) rfl ?_
              refine r_callS gd hX hP rfl cs_12_317 (d' := 1) (mc' := 0) (ms' := 0) (as' := [(0, k)]) (st := []) (by first | decide | omega) (by first | decide | omega) (by first | decide | omega) rfl rfl (Nat.le_of_ble_eq_true rfl) (c_X12_isDay E S (up (up G 1 (Ad E 1) 1 0) 1 (Ad E 1) 0 0) k (by first | decide | omega) (by first | decide | omega)) ?_
              rintro _ _ _ ⟨rfl, rfl, z322, rfl, (⟨rfl, f323, f324⟩ | ⟨rfl, f325⟩)⟩
              · skip
                refine r_if_ne hX hP rfl (tgt := 117) rfl (by first | decide | omega) (by first | decide | omega) (fun c326 => ?_) (fun c326 => ?_)
                · skip
                  refine r_ex hX hP 2 (pc' := 119) (st' := [(2, (Ad E 1)), (0, k)]) (lo' := [(0, (2, (Ad E 1))), (1, (0, w)), (2, (0, i)), (3, (0, k)), (4, (2, (Ad E 18))), (5, (0, trades))]) rfl ?_
                  refine r_getKI hX hP rfl fl_12_339 hS (x := latest) latest_e ?_
                  refine r_ic_lt hX hP rfl (tgt := 135) rfl (by first | decide | omega) (by first | decide | omega) (by first | decide | omega) (by first | decide | omega) (fun c327 => ?_) (fun c327 => ?_)
                  · skip
                    refine r_ex hX hP 2 (pc' := 137) (st' := [(0, 4), (2, (Ad E 1))]) (lo' := [(0, (2, (Ad E 1))), (1, (0, w)), (2, (0, i)), (3, (0, k)), (4, (2, (Ad E 18))), (5, (0, trades))]) rfl ?_
                    refine r_callV gd hX hP rfl cv_12_321 hS (d' := 0) (mc' := 0) (ms' := 0) (as' := [(0, 4)]) (st := []) (by first | decide | omega) (by first | decide | omega) (by first | decide | omega) rfl rfl (Nat.le_of_ble_eq_true rfl) (c_X12_no E S (up (up G 1 (Ad E 1) 1 0) 1 (Ad E 1) 0 0) 4 hS (by first | decide | omega) (by first | decide | omega)) ?_
                    rintro _ _ _ ⟨rfl, ⟨G328, rfl⟩, z329, rfl, rfl⟩
                    exact r_retZ hX hP rfl rfl (by first | decide | omega) (by first | decide | omega) (by first | decide | omega) (by first | decide | omega) ⟨rfl, ⟨_, (hq_call (hq_up (hq_up (hq_refl _ _ _) rfl) rfl) rfl).symm⟩, 0, rfl, latest, latest_e, (by first | decide | omega), (by first | decide | omega), (Or.inr ⟨rfl, by omega, fun j => ⟨rfl, rfl, rfl⟩, by omega⟩)⟩
                  · skip
                    refine r_ex hX hP 2 (pc' := 128) (st' := [(0, i), (2, (Ad E 18))]) (lo' := [(0, (2, (Ad E 1))), (1, (0, w)), (2, (0, i)), (3, (0, k)), (4, (2, (Ad E 18))), (5, (0, trades))]) rfl ?_
                    refine r_iald hX hP rfl al_18 s275 (by first | decide | omega) (by first | decide | omega) (fun x330 x330e x330a x330b => ?_)
                    have k331 : x330 = G 18 (Ad E 18) i := x330e
                    refine r_ldcw hX hP rfl (v := 1000000000) (tbg sg9 109 rfl rfl) ?_
                    refine r_ic_ge hX hP rfl (tgt := 141) rfl (by first | decide | omega) (by first | decide | omega) (by first | decide | omega) (by first | decide | omega) (fun c332 => ?_) (fun c332 => ?_)
                    · skip
                      refine r_ex hX hP 3 (pc' := 145) (st' := [(0, k), (0, i), (2, (Ad E 18))]) (lo' := [(0, (2, (Ad E 1))), (1, (0, w)), (2, (0, i)), (3, (0, k)), (4, (2, (Ad E 18))), (5, (0, trades))]) rfl ?_
                      refine r_iastK hX hP rfl al_18 s275 (by first | decide | omega) (by first | decide | omega) (by first | decide | omega) (by first | decide | omega) (fun h333 => ?_)
                      refine r_ex hX hP 2 (pc' := 148) (st' := [(0, k), (2, (Ad E 1))]) (lo' := [(0, (2, (Ad E 1))), (1, (0, w)), (2, (0, i)), (3, (0, k)), (4, (2, (Ad E 18))), (5, (0, trades))]) rfl ?_
                      refine r_putIK hX hP rfl fp_12_339 hS (by first | decide | omega) (by first | decide | omega) (fun h334 => ?_)
                      refine r_ex hX hP 1 (pc' := 152) (st' := [(0, 1)]) (lo' := [(0, (2, (Ad E 1))), (1, (0, w)), (2, (0, i)), (3, (0, k)), (4, (2, (Ad E 18))), (5, (0, trades))]) rfl ?_
                      exact r_retZ hX hP rfl rfl (by first | decide | omega) (by first | decide | omega) (by first | decide | omega) (by first | decide | omega) ⟨rfl, ⟨_, (hq_up (hq_up (hq_up (hq_up (hq_refl _ _ _) rfl) rfl) rfl) rfl).symm⟩, 1, rfl, k, h334, (by first | decide | omega), (by first | decide | omega), (Or.inl ⟨by omega, by omega, by omega, by omega, (Or.inl ⟨rfl, by omega, by omega, by omega, by omega, (show (up (up (up G 1 (Ad E 1) 1 0) 1 (Ad E 1) 0 0) 18 (Ad E 18) i k) 18 (Ad E 18) i = k from up_self _ _ _ _ _), (fun j hi => ((show (up (up (up G 1 (Ad E 1) 1 0) 1 (Ad E 1) 0 0) 18 (Ad E 18) i k) 18 (Ad E 18) j = _ from up_ne (fun q => absurd q.2.2 (by first | decide | omega))).trans rfl)), (fun j => ⟨rfl, rfl⟩)⟩)⟩)⟩
                    · skip
                      refine r_ex hX hP 2 (pc' := 137) (st' := [(0, 4), (2, (Ad E 1))]) (lo' := [(0, (2, (Ad E 1))), (1, (0, w)), (2, (0, i)), (3, (0, k)), (4, (2, (Ad E 18))), (5, (0, trades))]) rfl ?_
                      refine r_callV gd hX hP rfl cv_12_321 hS (d' := 0) (mc' := 0) (ms' := 0) (as' := [(0, 4)]) (st := []) (by first | decide | omega) (by first | decide | omega) (by first | decide | omega) rfl rfl (Nat.le_of_ble_eq_true rfl) (c_X12_no E S (up (up G 1 (Ad E 1) 1 0) 1 (Ad E 1) 0 0) 4 hS (by first | decide | omega) (by first | decide | omega)) ?_
                      rintro _ _ _ ⟨rfl, ⟨G335, rfl⟩, z336, rfl, rfl⟩
                      exact r_retZ hX hP rfl rfl (by first | decide | omega) (by first | decide | omega) (by first | decide | omega) (by first | decide | omega) ⟨rfl, ⟨_, (hq_call (hq_up (hq_up (hq_refl _ _ _) rfl) rfl) rfl).symm⟩, 0, rfl, latest, latest_e, (by first | decide | omega), (by first | decide | omega), (Or.inr ⟨rfl, by omega, fun j => ⟨rfl, rfl, rfl⟩, by omega⟩)⟩
                · skip
                  exfalso; omega
              · skip
                refine r_if_ne hX hP rfl (tgt := 117) rfl (by first | decide | omega) (by first | decide | omega) (fun c337 => ?_) (fun c337 => ?_)
                · skip
                  exfalso; omega
                · skip
                  refine r_ex hX hP 2 (pc' := 113) (st' := [(0, 2), (2, (Ad E 1))]) (lo' := [(0, (2, (Ad E 1))), (1, (0, w)), (2, (0, i)), (3, (0, k)), (4, (2, (Ad E 18))), (5, (0, trades))]) rfl ?_
                  refine r_callV gd hX hP rfl cv_12_321 hS (d' := 0) (mc' := 0) (ms' := 0) (as' := [(0, 2)]) (st := []) (by first | decide | omega) (by first | decide | omega) (by first | decide | omega) rfl rfl (Nat.le_of_ble_eq_true rfl) (c_X12_no E S (up (up G 1 (Ad E 1) 1 0) 1 (Ad E 1) 0 0) 2 hS (by first | decide | omega) (by first | decide | omega)) ?_
                  rintro _ _ _ ⟨rfl, ⟨G338, rfl⟩, z339, rfl, rfl⟩
                  exact r_retZ hX hP rfl rfl (by first | decide | omega) (by first | decide | omega) (by first | decide | omega) (by first | decide | omega) ⟨rfl, ⟨_, (hq_call (hq_up (hq_up (hq_refl _ _ _) rfl) rfl) rfl).symm⟩, 0, rfl, latest, latest_e, (by first | decide | omega), (by first | decide | omega), (Or.inr ⟨rfl, by omega, fun j => ⟨rfl, rfl, rfl⟩, by omega⟩)⟩
          · skip
            refine r_if_eq hX hP rfl (tgt := 111) rfl (by first | decide | omega) (by first | decide | omega) (fun c340 => ?_) (fun c340 => ?_)
            · skip
              refine r_ex hX hP 2 (pc' := 113) (st' := [(0, 2), (2, (Ad E 1))]) (lo' := [(0, (2, (Ad E 1))), (1, (0, w)), (2, (0, i)), (3, (0, k)), (4, (2, (Ad E 18))), (5, (0, trades))]) rfl ?_
              refine r_callV gd hX hP rfl cv_12_321 hS (d' := 0) (mc' := 0) (ms' := 0) (as' := [(0, 2)]) (st := []) (by first | decide | omega) (by first | decide | omega) (by first | decide | omega) rfl rfl (Nat.le_of_ble_eq_true rfl) (c_X12_no E S (up (up G 1 (Ad E 1) 1 0) 1 (Ad E 1) 0 0) 2 hS (by first | decide | omega) (by first | decide | omega)) ?_
              rintro _ _ _ ⟨rfl, ⟨G341, rfl⟩, z342, rfl, rfl⟩
              exact r_retZ hX hP rfl rfl (by first | decide | omega) (by first | decide | omega) (by first | decide | omega) (by first | decide | omega) ⟨rfl, ⟨_, (hq_call (hq_up (hq_up (hq_refl _ _ _) rfl) rfl) rfl).symm⟩, 0, rfl, latest, latest_e, (by first | decide | omega), (by first | decide | omega), (Or.inr ⟨rfl, by omega, fun j => ⟨rfl, rfl, rfl⟩, by omega⟩)⟩
            · skip
              exfalso; omega
        · skip
          exfalso; omega

