set_option maxRecDepth 100000 in
set_option maxHeartbeats 4000000 in
theorem c_X12_accountX (E : En) (S : Sg) (G : Gh) (u l d : Int) (hS : S (Ad E 1) = 1) (accounts : Int) (accounts_e : accounts = G 1 (Ad E 1) 6) (u_a : (-2147483648) ≤ u) (u_b : u ≤ 2147483647) (l_a : (-2147483648) ≤ l) (l_b : l ≤ 2147483647) (d_a : (-2147483648) ≤ d) (d_b : d ≤ 2147483647) (mi : MI E G) : Calls E mX12_account [(2, (Ad E 1)), (0, u), (0, l), (0, d)] S G 2 0 0 (fun r S' G' => S = S' ∧ (∃ G1, hv [0, 1, 6] [2, 3, 4] G G1 = G') ∧ ∃ z : Int, r = some (0, z) ∧ ∃ c2 : Int, c2 = G' 1 (Ad E 1) 6 ∧ ((z = (-1) ∧ c2 = accounts ∧ ((u ≠ -1 ∧ (u < 0 ∨ accounts ≤ u)) ∨ l < 0 ∨ 30 < l ∨ d < 0 ∨ 30 < d ∨ 20 ≤ accounts)) ∨ (0 ≤ z ∧ z ≤ 19 ∧ z = accounts ∧ c2 = accounts + 1 ∧ (u = -1 ∨ (0 ≤ u ∧ u + 1 ≤ accounts)) ∧ 0 ≤ l ∧ l ≤ 30 ∧ 0 ≤ d ∧ d ≤ 30 ∧ accounts + 1 ≤ 20)) ∧ MI E G') := by
  refine calls_by [(0, (2, (Ad E 1))), (1, (0, u)), (2, (0, l)), (3, (0, d))] rfl rfl (Nat.le_of_ble_eq_true rfl) (fun X hX => ?_)
  have hP := hPX12_account
  refine r_peekI hX (tl1 6 rfl (by decide)) hS (fun accounts_o accounts_oe accounts_oa accounts_ob => ?_)
  obtain rfl : accounts = accounts_o := accounts_e.trans accounts_oe.symm
  refine r_ex hX hP 2 (pc' := 2) (st' := [(0, 0), (2, (Ad E 1))]) (lo' := [(0, (2, (Ad E 1))), (1, (0, u)), (2, (0, l)), (3, (0, d))]) rfl ?_
  refine r_putIK hX hP rfl fp_12_304 hS (by first | decide | omega) (by first | decide | omega) (fun h1 => ?_)
  refine r_ex hX hP 2 (pc' := 7) (st' := [(0, 0), (2, (Ad E 1))]) (lo' := [(0, (2, (Ad E 1))), (1, (0, u)), (2, (0, l)), (3, (0, d))]) rfl ?_
  refine r_putIK hX hP rfl fp_12_307 hS (by first | decide | omega) (by first | decide | omega) (fun h2 => ?_)
  refine r_ex hX hP 2 (pc' := 12) (st' := [(0, (-1)), (0, u)]) (lo' := [(0, (2, (Ad E 1))), (1, (0, u)), (2, (0, l)), (3, (0, d))]) rfl ?_
  refine r_ic_eq hX hP rfl (tgt := 29) rfl (by first | decide | omega) (by first | decide | omega) (by first | decide | omega) (by first | decide | omega) (fun c3 => ?_) (fun c3 => ?_)
  · skip
    refine r_ex hX hP 3 (pc' := 33) (st' := [(0, 30), (0, 0), (0, l)]) (lo' := [(0, (2, (Ad E 1))), (1, (0, u)), (2, (0, l)), (3, (0, d))]) rfl ?_
    refine r_callS gd hX hP rfl cs_12_310 (d' := 0) (mc' := 0) (ms' := 0) (as' := [(0, l), (0, 0), (0, 30)]) (st := []) (by first | decide | omega) (by first | decide | omega) (by first | decide | omega) rfl rfl (Nat.le_of_ble_eq_true rfl) (c_X12_isIn E S (up (up G 1 (Ad E 1) 1 0) 1 (Ad E 1) 0 0) l 0 30 (by first | decide | omega) (by first | decide | omega) (by first | decide | omega) (by first | decide | omega) (by first | decide | omega) (by first | decide | omega)) ?_
    rintro _ _ _ ⟨rfl, rfl, z4, rfl, (⟨rfl, f5, f6⟩ | ⟨rfl, f7⟩)⟩
    · skip
      refine r_if_eq hX hP rfl (tgt := 49) rfl (by first | decide | omega) (by first | decide | omega) (fun c8 => ?_) (fun c8 => ?_)
      · skip
        exfalso; omega
      · skip
        refine r_ex hX hP 3 (pc' := 43) (st' := [(0, 30), (0, 0), (0, d)]) (lo' := [(0, (2, (Ad E 1))), (1, (0, u)), (2, (0, l)), (3, (0, d))]) rfl ?_
        refine r_callS gd hX hP rfl cs_12_310 (d' := 0) (mc' := 0) (ms' := 0) (as' := [(0, d), (0, 0), (0, 30)]) (st := []) (by first | decide | omega) (by first | decide | omega) (by first | decide | omega) rfl rfl (Nat.le_of_ble_eq_true rfl) (c_X12_isIn E S (up (up G 1 (Ad E 1) 1 0) 1 (Ad E 1) 0 0) d 0 30 (by first | decide | omega) (by first | decide | omega) (by first | decide | omega) (by first | decide | omega) (by first | decide | omega) (by first | decide | omega)) ?_
        rintro _ _ _ ⟨rfl, rfl, z9, rfl, (⟨rfl, f10, f11⟩ | ⟨rfl, f12⟩)⟩
        · skip
          refine r_if_ne hX hP rfl (tgt := 55) rfl (by first | decide | omega) (by first | decide | omega) (fun c13 => ?_) (fun c13 => ?_)
          · skip
            refine r_ex hX hP 1 (pc' := 56) (st' := [(2, (Ad E 1))]) (lo' := [(0, (2, (Ad E 1))), (1, (0, u)), (2, (0, l)), (3, (0, d))]) rfl ?_
            refine r_getKI hX hP rfl fl_12_314 hS (x := accounts) accounts_e ?_
            refine r_ex hX hP 1 (pc' := 61) (st' := [(0, 20), (0, accounts)]) (lo' := [(0, (2, (Ad E 1))), (1, (0, u)), (2, (0, l)), (3, (0, d))]) rfl ?_
            refine r_ic_ne hX hP rfl (tgt := 70) rfl (by first | decide | omega) (by first | decide | omega) (by first | decide | omega) (by first | decide | omega) (fun c14 => ?_) (fun c14 => ?_)
            · skip
              refine r_ex hX hP 1 (pc' := 71) (st' := [(2, (Ad E 1))]) (lo' := [(0, (2, (Ad E 1))), (1, (0, u)), (2, (0, l)), (3, (0, d))]) rfl ?_
              refine r_getC hX hP rfl fl_12_18 hS (fun s15 => ?_)
              refine r_ex hX hP 1 (pc' := 75) (st' := [(2, (Ad E 1)), (2, (Ad E 2))]) (lo' := [(0, (2, (Ad E 1))), (1, (0, u)), (2, (0, l)), (3, (0, d))]) rfl ?_
              refine r_getKI hX hP rfl fl_12_314 hS (x := accounts) accounts_e ?_
              refine r_ex hX hP 1 (pc' := 79) (st' := [(0, u), (0, accounts), (2, (Ad E 2))]) (lo' := [(0, (2, (Ad E 1))), (1, (0, u)), (2, (0, l)), (3, (0, d))]) rfl ?_
              refine r_iastK hX hP rfl al_2 s15 (by first | decide | omega) (by first | decide | omega) (by first | decide | omega) (by first | decide | omega) (fun h16 => ?_)
              refine r_ex hX hP 1 (pc' := 81) (st' := [(2, (Ad E 1))]) (lo' := [(0, (2, (Ad E 1))), (1, (0, u)), (2, (0, l)), (3, (0, d))]) rfl ?_
              refine r_getC hX hP rfl fl_12_22 hS (fun s17 => ?_)
              refine r_ex hX hP 1 (pc' := 85) (st' := [(2, (Ad E 1)), (2, (Ad E 3))]) (lo' := [(0, (2, (Ad E 1))), (1, (0, u)), (2, (0, l)), (3, (0, d))]) rfl ?_
              refine r_getKI hX hP rfl fl_12_314 hS (x := accounts) accounts_e ?_
              refine r_ex hX hP 1 (pc' := 89) (st' := [(0, l), (0, accounts), (2, (Ad E 3))]) (lo' := [(0, (2, (Ad E 1))), (1, (0, u)), (2, (0, l)), (3, (0, d))]) rfl ?_
              refine r_iastK hX hP rfl al_3 s17 (by first | decide | omega) (by first | decide | omega) (by first | decide | omega) (by first | decide | omega) (fun h18 => ?_)
              refine r_ex hX hP 1 (pc' := 91) (st' := [(2, (Ad E 1))]) (lo' := [(0, (2, (Ad E 1))), (1, (0, u)), (2, (0, l)), (3, (0, d))]) rfl ?_
              refine r_getC hX hP rfl fl_12_25 hS (fun s19 => ?_)
              refine r_ex hX hP 1 (pc' := 95) (st' := [(2, (Ad E 1)), (2, (Ad E 4))]) (lo' := [(0, (2, (Ad E 1))), (1, (0, u)), (2, (0, l)), (3, (0, d))]) rfl ?_
              refine r_getKI hX hP rfl fl_12_314 hS (x := accounts) accounts_e ?_
              refine r_ex hX hP 1 (pc' := 99) (st' := [(0, d), (0, accounts), (2, (Ad E 4))]) (lo' := [(0, (2, (Ad E 1))), (1, (0, u)), (2, (0, l)), (3, (0, d))]) rfl ?_
              refine r_iastK hX hP rfl al_4 s19 (by first | decide | omega) (by first | decide | omega) (by first | decide | omega) (by first | decide | omega) (fun h20 => ?_)
              refine r_ex hX hP 2 (pc' := 102) (st' := [(2, (Ad E 1)), (2, (Ad E 1))]) (lo' := [(0, (2, (Ad E 1))), (1, (0, u)), (2, (0, l)), (3, (0, d))]) rfl ?_
              refine r_getKI hX hP rfl fl_12_314 hS (x := accounts) accounts_e ?_
              refine r_ex hX hP 2 (pc' := 107) (st' := [(0, (accounts + 1)), (2, (Ad E 1))]) (lo' := [(0, (2, (Ad E 1))), (1, (0, u)), (2, (0, l)), (3, (0, d))]) rfl ?_
              refine r_putIK hX hP rfl fp_12_314 hS (by first | decide | omega) (by first | decide | omega) (fun h21 => ?_)
              refine r_ex hX hP 1 (pc' := 111) (st' := [(2, (Ad E 1))]) (lo' := [(0, (2, (Ad E 1))), (1, (0, u)), (2, (0, l)), (3, (0, d))]) rfl ?_
              refine r_getKI hX hP rfl fl_12_314 hS (x := (accounts + 1)) h21 ?_
              refine r_ex hX hP 2 (pc' := 116) (st' := [(0, ((accounts + 1) - 1))]) (lo' := [(0, (2, (Ad E 1))), (1, (0, u)), (2, (0, l)), (3, (0, d))]) rfl ?_
              exact r_retI hX hP rfl rfl (by first | decide | omega) (by first | decide | omega) ⟨rfl, ⟨_, (hq_up (hq_up (hq_up (hq_up (hq_up (hq_up (hq_refl _ _ _) rfl) rfl) rfl) rfl) rfl) rfl).symm⟩, ((accounts + 1) - 1), rfl, (accounts + 1), h21, (by first | decide | omega), (mi_account mi accounts_e (by first | decide | omega) (up_self (up (up (up (up (up G 1 (Ad E 1) 1 0) 1 (Ad E 1) 0 0) 2 (Ad E 2) accounts u) 3 (Ad E 3) accounts l) 4 (Ad E 4) accounts d) 1 (Ad E 1) 6 (accounts + 1)) rfl rfl rfl rfl rfl (fun i hi => show (up (up (up G 1 (Ad E 1) 1 0) 1 (Ad E 1) 0 0) 2 (Ad E 2) accounts u) 2 (Ad E 2) i = _ from up_ne (fun q => hi q.2.2)) (show (up (up (up G 1 (Ad E 1) 1 0) 1 (Ad E 1) 0 0) 2 (Ad E 2) accounts u) 2 (Ad E 2) accounts = _ from up_self _ _ _ _ _) (fun _ => rfl) (fun _ => rfl) (fun _ => rfl) (fun _ => rfl) (fun _ => rfl) (fun _ => rfl) (fun _ => rfl) (fun _ => rfl) (fun _ => rfl) (fun _ => rfl) (fun _ => rfl) (fun _ => rfl))⟩
            · skip
              refine r_ex hX hP 2 (pc' := 66) (st' := [(0, 3), (2, (Ad E 1))]) (lo' := [(0, (2, (Ad E 1))), (1, (0, u)), (2, (0, l)), (3, (0, d))]) rfl ?_
              refine r_callV gd hX hP rfl cv_12_327 hS (d' := 0) (mc' := 0) (ms' := 0) (as' := [(0, 3)]) (st := []) (by first | decide | omega) (by first | decide | omega) (by first | decide | omega) rfl rfl (Nat.le_of_ble_eq_true rfl) (c_X12_refuse E S (up (up G 1 (Ad E 1) 1 0) 1 (Ad E 1) 0 0) 3 hS (by first | decide | omega) (by first | decide | omega)) ?_
              rintro _ _ _ ⟨rfl, ⟨G22, rfl⟩, z23, rfl, rfl⟩
              have mi24 : MI E (hv [0] [] (up (up G 1 (Ad E 1) 1 0) 1 (Ad E 1) 0 0) G22) := mi_keep mi rfl rfl rfl rfl rfl rfl (fun _ => rfl) (fun _ => rfl) (fun _ => rfl) (fun _ => rfl) (fun _ => rfl) (fun _ => rfl) (fun _ => rfl) (fun _ => rfl) (fun _ => rfl) (fun _ => rfl) (fun _ => rfl) (fun _ => rfl) (fun _ => rfl)
              exact r_retI hX hP rfl rfl (by first | decide | omega) (by first | decide | omega) ⟨rfl, ⟨_, (hq_call (hq_up (hq_up (hq_refl _ _ _) rfl) rfl) rfl).symm⟩, (-1), rfl, accounts, accounts_e, (by first | decide | omega), mi24⟩
          · skip
            exfalso; omega
        · skip
          refine r_if_ne hX hP rfl (tgt := 55) rfl (by first | decide | omega) (by first | decide | omega) (fun c25 => ?_) (fun c25 => ?_)
          · skip
            exfalso; omega
          · skip
            refine r_ex hX hP 2 (pc' := 51) (st' := [(0, 2), (2, (Ad E 1))]) (lo' := [(0, (2, (Ad E 1))), (1, (0, u)), (2, (0, l)), (3, (0, d))]) rfl ?_
            refine r_callV gd hX hP rfl cv_12_327 hS (d' := 0) (mc' := 0) (ms' := 0) (as' := [(0, 2)]) (st := []) (by first | decide | omega) (by first | decide | omega) (by first | decide | omega) rfl rfl (Nat.le_of_ble_eq_true rfl) (c_X12_refuse E S (up (up G 1 (Ad E 1) 1 0) 1 (Ad E 1) 0 0) 2 hS (by first | decide | omega) (by first | decide | omega)) ?_
            rintro _ _ _ ⟨rfl, ⟨G26, rfl⟩, z27, rfl, rfl⟩
            have mi28 : MI E (hv [0] [] (up (up G 1 (Ad E 1) 1 0) 1 (Ad E 1) 0 0) G26) := mi_keep mi rfl rfl rfl rfl rfl rfl (fun _ => rfl) (fun _ => rfl) (fun _ => rfl) (fun _ => rfl) (fun _ => rfl) (fun _ => rfl) (fun _ => rfl) (fun _ => rfl) (fun _ => rfl) (fun _ => rfl) (fun _ => rfl) (fun _ => rfl) (fun _ => rfl)
            exact r_retI hX hP rfl rfl (by first | decide | omega) (by first | decide | omega) ⟨rfl, ⟨_, (hq_call (hq_up (hq_up (hq_refl _ _ _) rfl) rfl) rfl).symm⟩, (-1), rfl, accounts, accounts_e, (by first | decide | omega), mi28⟩
    · skip
      refine r_if_eq hX hP rfl (tgt := 49) rfl (by first | decide | omega) (by first | decide | omega) (fun c29 => ?_) (fun c29 => ?_)
      · skip
        refine r_ex hX hP 2 (pc' := 51) (st' := [(0, 2), (2, (Ad E 1))]) (lo' := [(0, (2, (Ad E 1))), (1, (0, u)), (2, (0, l)), (3, (0, d))]) rfl ?_
        refine r_callV gd hX hP rfl cv_12_327 hS (d' := 0) (mc' := 0) (ms' := 0) (as' := [(0, 2)]) (st := []) (by first | decide | omega) (by first | decide | omega) (by first | decide | omega) rfl rfl (Nat.le_of_ble_eq_true rfl) (c_X12_refuse E S (up (up G 1 (Ad E 1) 1 0) 1 (Ad E 1) 0 0) 2 hS (by first | decide | omega) (by first | decide | omega)) ?_
        rintro _ _ _ ⟨rfl, ⟨G30, rfl⟩, z31, rfl, rfl⟩
        have mi32 : MI E (hv [0] [] (up (up G 1 (Ad E 1) 1 0) 1 (Ad E 1) 0 0) G30) := mi_keep mi rfl rfl rfl rfl rfl rfl (fun _ => rfl) (fun _ => rfl) (fun _ => rfl) (fun _ => rfl) (fun _ => rfl) (fun _ => rfl) (fun _ => rfl) (fun _ => rfl) (fun _ => rfl) (fun _ => rfl) (fun _ => rfl) (fun _ => rfl) (fun _ => rfl)
        exact r_retI hX hP rfl rfl (by first | decide | omega) (by first | decide | omega) ⟨rfl, ⟨_, (hq_call (hq_up (hq_up (hq_refl _ _ _) rfl) rfl) rfl).symm⟩, (-1), rfl, accounts, accounts_e, (by first | decide | omega), mi32⟩
      · skip
        exfalso; omega
  · skip
    refine r_ex hX hP 2 (pc' := 17) (st' := [(0, u), (2, (Ad E 1))]) (lo' := [(0, (2, (Ad E 1))), (1, (0, u)), (2, (0, l)), (3, (0, d))]) rfl ?_
    refine r_callV gd hX hP rfl cv_12_324 hS (d' := 1) (mc' := 0) (ms' := 0) (as' := [(0, u)]) (st := []) (by first | decide | omega) (by first | decide | omega) (by first | decide | omega) rfl rfl (Nat.le_of_ble_eq_true rfl) (c_X12_isAccount E S (up (up G 1 (Ad E 1) 1 0) 1 (Ad E 1) 0 0) u hS accounts accounts_e (by first | decide | omega) (by first | decide | omega)) ?_
    rintro _ _ _ ⟨rfl, rfl, z33, rfl, (⟨rfl, f34, f35⟩ | ⟨rfl, f36⟩)⟩
    · skip
      refine r_if_ne hX hP rfl (tgt := 29) rfl (by first | decide | omega) (by first | decide | omega) (fun c37 => ?_) (fun c37 => ?_)
      · skip
        refine r_ex hX hP 3 (pc' := 33) (st' := [(0, 30), (0, 0), (0, l)]) (lo' := [(0, (2, (Ad E 1))), (1, (0, u)), (2, (0, l)), (3, (0, d))]) rfl ?_
        refine r_callS gd hX hP rfl cs_12_310 (d' := 0) (mc' := 0) (ms' := 0) (as' := [(0, l), (0, 0), (0, 30)]) (st := []) (by first | decide | omega) (by first | decide | omega) (by first | decide | omega) rfl rfl (Nat.le_of_ble_eq_true rfl) (c_X12_isIn E S (up (up G 1 (Ad E 1) 1 0) 1 (Ad E 1) 0 0) l 0 30 (by first | decide | omega) (by first | decide | omega) (by first | decide | omega) (by first | decide | omega) (by first | decide | omega) (by first | decide | omega)) ?_
        rintro _ _ _ ⟨rfl, rfl, z38, rfl, (⟨rfl, f39, f40⟩ | ⟨rfl, f41⟩)⟩
        · skip
          refine r_if_eq hX hP rfl (tgt := 49) rfl (by first | decide | omega) (by first | decide | omega) (fun c42 => ?_) (fun c42 => ?_)
          · skip
            exfalso; omega
          · skip
            refine r_ex hX hP 3 (pc' := 43) (st' := [(0, 30), (0, 0), (0, d)]) (lo' := [(0, (2, (Ad E 1))), (1, (0, u)), (2, (0, l)), (3, (0, d))]) rfl ?_
            refine r_callS gd hX hP rfl cs_12_310 (d' := 0) (mc' := 0) (ms' := 0) (as' := [(0, d), (0, 0), (0, 30)]) (st := []) (by first | decide | omega) (by first | decide | omega) (by first | decide | omega) rfl rfl (Nat.le_of_ble_eq_true rfl) (c_X12_isIn E S (up (up G 1 (Ad E 1) 1 0) 1 (Ad E 1) 0 0) d 0 30 (by first | decide | omega) (by first | decide | omega) (by first | decide | omega) (by first | decide | omega) (by first | decide | omega) (by first | decide | omega)) ?_
            rintro _ _ _ ⟨rfl, rfl, z43, rfl, (⟨rfl, f44, f45⟩ | ⟨rfl, f46⟩)⟩
            · skip
              refine r_if_ne hX hP rfl (tgt := 55) rfl (by first | decide | omega) (by first | decide | omega) (fun c47 => ?_) (fun c47 => ?_)
              · skip
                refine r_ex hX hP 1 (pc' := 56) (st' := [(2, (Ad E 1))]) (lo' := [(0, (2, (Ad E 1))), (1, (0, u)), (2, (0, l)), (3, (0, d))]) rfl ?_
                refine r_getKI hX hP rfl fl_12_314 hS (x := accounts) accounts_e ?_
                refine r_ex hX hP 1 (pc' := 61) (st' := [(0, 20), (0, accounts)]) (lo' := [(0, (2, (Ad E 1))), (1, (0, u)), (2, (0, l)), (3, (0, d))]) rfl ?_
                refine r_ic_ne hX hP rfl (tgt := 70) rfl (by first | decide | omega) (by first | decide | omega) (by first | decide | omega) (by first | decide | omega) (fun c48 => ?_) (fun c48 => ?_)
                · skip
                  refine r_ex hX hP 1 (pc' := 71) (st' := [(2, (Ad E 1))]) (lo' := [(0, (2, (Ad E 1))), (1, (0, u)), (2, (0, l)), (3, (0, d))]) rfl ?_
                  refine r_getC hX hP rfl fl_12_18 hS (fun s49 => ?_)
                  refine r_ex hX hP 1 (pc' := 75) (st' := [(2, (Ad E 1)), (2, (Ad E 2))]) (lo' := [(0, (2, (Ad E 1))), (1, (0, u)), (2, (0, l)), (3, (0, d))]) rfl ?_
                  refine r_getKI hX hP rfl fl_12_314 hS (x := accounts) accounts_e ?_
                  refine r_ex hX hP 1 (pc' := 79) (st' := [(0, u), (0, accounts), (2, (Ad E 2))]) (lo' := [(0, (2, (Ad E 1))), (1, (0, u)), (2, (0, l)), (3, (0, d))]) rfl ?_
                  refine r_iastK hX hP rfl al_2 s49 (by first | decide | omega) (by first | decide | omega) (by first | decide | omega) (by first | decide | omega) (fun h50 => ?_)
                  refine r_ex hX hP 1 (pc' := 81) (st' := [(2, (Ad E 1))]) (lo' := [(0, (2, (Ad E 1))), (1, (0, u)), (2, (0, l)), (3, (0, d))]) rfl ?_
                  refine r_getC hX hP rfl fl_12_22 hS (fun s51 => ?_)
                  refine r_ex hX hP 1 (pc' := 85) (st' := [(2, (Ad E 1)), (2, (Ad E 3))]) (lo' := [(0, (2, (Ad E 1))), (1, (0, u)), (2, (0, l)), (3, (0, d))]) rfl ?_
                  refine r_getKI hX hP rfl fl_12_314 hS (x := accounts) accounts_e ?_
                  refine r_ex hX hP 1 (pc' := 89) (st' := [(0, l), (0, accounts), (2, (Ad E 3))]) (lo' := [(0, (2, (Ad E 1))), (1, (0, u)), (2, (0, l)), (3, (0, d))]) rfl ?_
                  refine r_iastK hX hP rfl al_3 s51 (by first | decide | omega) (by first | decide | omega) (by first | decide | omega) (by first | decide | omega) (fun h52 => ?_)
                  refine r_ex hX hP 1 (pc' := 91) (st' := [(2, (Ad E 1))]) (lo' := [(0, (2, (Ad E 1))), (1, (0, u)), (2, (0, l)), (3, (0, d))]) rfl ?_
                  refine r_getC hX hP rfl fl_12_25 hS (fun s53 => ?_)
                  refine r_ex hX hP 1 (pc' := 95) (st' := [(2, (Ad E 1)), (2, (Ad E 4))]) (lo' := [(0, (2, (Ad E 1))), (1, (0, u)), (2, (0, l)), (3, (0, d))]) rfl ?_
                  refine r_getKI hX hP rfl fl_12_314 hS (x := accounts) accounts_e ?_
                  refine r_ex hX hP 1 (pc' := 99) (st' := [(0, d), (0, accounts), (2, (Ad E 4))]) (lo' := [(0, (2, (Ad E 1))), (1, (0, u)), (2, (0, l)), (3, (0, d))]) rfl ?_
                  refine r_iastK hX hP rfl al_4 s53 (by first | decide | omega) (by first | decide | omega) (by first | decide | omega) (by first | decide | omega) (fun h54 => ?_)
                  refine r_ex hX hP 2 (pc' := 102) (st' := [(2, (Ad E 1)), (2, (Ad E 1))]) (lo' := [(0, (2, (Ad E 1))), (1, (0, u)), (2, (0, l)), (3, (0, d))]) rfl ?_
                  refine r_getKI hX hP rfl fl_12_314 hS (x := accounts) accounts_e ?_
                  refine r_ex hX hP 2 (pc' := 107) (st' := [(0, (accounts + 1)), (2, (Ad E 1))]) (lo' := [(0, (2, (Ad E 1))), (1, (0, u)), (2, (0, l)), (3, (0, d))]) rfl ?_
                  refine r_putIK hX hP rfl fp_12_314 hS (by first | decide | omega) (by first | decide | omega) (fun h55 => ?_)
                  refine r_ex hX hP 1 (pc' := 111) (st' := [(2, (Ad E 1))]) (lo' := [(0, (2, (Ad E 1))), (1, (0, u)), (2, (0, l)), (3, (0, d))]) rfl ?_
                  refine r_getKI hX hP rfl fl_12_314 hS (x := (accounts + 1)) h55 ?_
                  refine r_ex hX hP 2 (pc' := 116) (st' := [(0, ((accounts + 1) - 1))]) (lo' := [(0, (2, (Ad E 1))), (1, (0, u)), (2, (0, l)), (3, (0, d))]) rfl ?_
                  exact r_retI hX hP rfl rfl (by first | decide | omega) (by first | decide | omega) ⟨rfl, ⟨_, (hq_up (hq_up (hq_up (hq_up (hq_up (hq_up (hq_refl _ _ _) rfl) rfl) rfl) rfl) rfl) rfl).symm⟩, ((accounts + 1) - 1), rfl, (accounts + 1), h55, (by first | decide | omega), (mi_account mi accounts_e (by first | decide | omega) (up_self (up (up (up (up (up G 1 (Ad E 1) 1 0) 1 (Ad E 1) 0 0) 2 (Ad E 2) accounts u) 3 (Ad E 3) accounts l) 4 (Ad E 4) accounts d) 1 (Ad E 1) 6 (accounts + 1)) rfl rfl rfl rfl rfl (fun i hi => show (up (up (up G 1 (Ad E 1) 1 0) 1 (Ad E 1) 0 0) 2 (Ad E 2) accounts u) 2 (Ad E 2) i = _ from up_ne (fun q => hi q.2.2)) (show (up (up (up G 1 (Ad E 1) 1 0) 1 (Ad E 1) 0 0) 2 (Ad E 2) accounts u) 2 (Ad E 2) accounts = _ from up_self _ _ _ _ _) (fun _ => rfl) (fun _ => rfl) (fun _ => rfl) (fun _ => rfl) (fun _ => rfl) (fun _ => rfl) (fun _ => rfl) (fun _ => rfl) (fun _ => rfl) (fun _ => rfl) (fun _ => rfl) (fun _ => rfl))⟩
                · skip
                  refine r_ex hX hP 2 (pc' := 66) (st' := [(0, 3), (2, (Ad E 1))]) (lo' := [(0, (2, (Ad E 1))), (1, (0, u)), (2, (0, l)), (3, (0, d))]) rfl ?_
                  refine r_callV gd hX hP rfl cv_12_327 hS (d' := 0) (mc' := 0) (ms' := 0) (as' := [(0, 3)]) (st := []) (by first | decide | omega) (by first | decide | omega) (by first | decide | omega) rfl rfl (Nat.le_of_ble_eq_true rfl) (c_X12_refuse E S (up (up G 1 (Ad E 1) 1 0) 1 (Ad E 1) 0 0) 3 hS (by first | decide | omega) (by first | decide | omega)) ?_
                  rintro _ _ _ ⟨rfl, ⟨G56, rfl⟩, z57, rfl, rfl⟩
                  have mi58 : MI E (hv [0] [] (up (up G 1 (Ad E 1) 1 0) 1 (Ad E 1) 0 0) G56) := mi_keep mi rfl rfl rfl rfl rfl rfl (fun _ => rfl) (fun _ => rfl) (fun _ => rfl) (fun _ => rfl) (fun _ => rfl) (fun _ => rfl) (fun _ => rfl) (fun _ => rfl) (fun _ => rfl) (fun _ => rfl) (fun _ => rfl) (fun _ => rfl) (fun _ => rfl)
                  exact r_retI hX hP rfl rfl (by first | decide | omega) (by first | decide | omega) ⟨rfl, ⟨_, (hq_call (hq_up (hq_up (hq_refl _ _ _) rfl) rfl) rfl).symm⟩, (-1), rfl, accounts, accounts_e, (by first | decide | omega), mi58⟩
              · skip
                exfalso; omega
            · skip
              refine r_if_ne hX hP rfl (tgt := 55) rfl (by first | decide | omega) (by first | decide | omega) (fun c59 => ?_) (fun c59 => ?_)
              · skip
                exfalso; omega
              · skip
                refine r_ex hX hP 2 (pc' := 51) (st' := [(0, 2), (2, (Ad E 1))]) (lo' := [(0, (2, (Ad E 1))), (1, (0, u)), (2, (0, l)), (3, (0, d))]) rfl ?_
                refine r_callV gd hX hP rfl cv_12_327 hS (d' := 0) (mc' := 0) (ms' := 0) (as' := [(0, 2)]) (st := []) (by first | decide | omega) (by first | decide | omega) (by first | decide | omega) rfl rfl (Nat.le_of_ble_eq_true rfl) (c_X12_refuse E S (up (up G 1 (Ad E 1) 1 0) 1 (Ad E 1) 0 0) 2 hS (by first | decide | omega) (by first | decide | omega)) ?_
                rintro _ _ _ ⟨rfl, ⟨G60, rfl⟩, z61, rfl, rfl⟩
                have mi62 : MI E (hv [0] [] (up (up G 1 (Ad E 1) 1 0) 1 (Ad E 1) 0 0) G60) := mi_keep mi rfl rfl rfl rfl rfl rfl (fun _ => rfl) (fun _ => rfl) (fun _ => rfl) (fun _ => rfl) (fun _ => rfl) (fun _ => rfl) (fun _ => rfl) (fun _ => rfl) (fun _ => rfl) (fun _ => rfl) (fun _ => rfl) (fun _ => rfl) (fun _ => rfl)
                exact r_retI hX hP rfl rfl (by first | decide | omega) (by first | decide | omega) ⟨rfl, ⟨_, (hq_call (hq_up (hq_up (hq_refl _ _ _) rfl) rfl) rfl).symm⟩, (-1), rfl, accounts, accounts_e, (by first | decide | omega), mi62⟩
        · skip
          refine r_if_eq hX hP rfl (tgt := 49) rfl (by first | decide | omega) (by first | decide | omega) (fun c63 => ?_) (fun c63 => ?_)
          · skip
            refine r_ex hX hP 2 (pc' := 51) (st' := [(0, 2), (2, (Ad E 1))]) (lo' := [(0, (2, (Ad E 1))), (1, (0, u)), (2, (0, l)), (3, (0, d))]) rfl ?_
            refine r_callV gd hX hP rfl cv_12_327 hS (d' := 0) (mc' := 0) (ms' := 0) (as' := [(0, 2)]) (st := []) (by first | decide | omega) (by first | decide | omega) (by first | decide | omega) rfl rfl (Nat.le_of_ble_eq_true rfl) (c_X12_refuse E S (up (up G 1 (Ad E 1) 1 0) 1 (Ad E 1) 0 0) 2 hS (by first | decide | omega) (by first | decide | omega)) ?_
            rintro _ _ _ ⟨rfl, ⟨G64, rfl⟩, z65, rfl, rfl⟩
            have mi66 : MI E (hv [0] [] (up (up G 1 (Ad E 1) 1 0) 1 (Ad E 1) 0 0) G64) := mi_keep mi rfl rfl rfl rfl rfl rfl (fun _ => rfl) (fun _ => rfl) (fun _ => rfl) (fun _ => rfl) (fun _ => rfl) (fun _ => rfl) (fun _ => rfl) (fun _ => rfl) (fun _ => rfl) (fun _ => rfl) (fun _ => rfl) (fun _ => rfl) (fun _ => rfl)
            exact r_retI hX hP rfl rfl (by first | decide | omega) (by first | decide | omega) ⟨rfl, ⟨_, (hq_call (hq_up (hq_up (hq_refl _ _ _) rfl) rfl) rfl).symm⟩, (-1), rfl, accounts, accounts_e, (by first | decide | omega), mi66⟩
          · skip
            exfalso; omega
      · skip
        exfalso; omega
    · skip
      refine r_if_ne hX hP rfl (tgt := 29) rfl (by first | decide | omega) (by first | decide | omega) (fun c67 => ?_) (fun c67 => ?_)
      · skip
        exfalso; omega
      · skip
        refine r_ex hX hP 2 (pc' := 25) (st' := [(0, 1), (2, (Ad E 1))]) (lo' := [(0, (2, (Ad E 1))), (1, (0, u)), (2, (0, l)), (3, (0, d))]) rfl ?_
        refine r_callV gd hX hP rfl cv_12_327 hS (d' := 0) (mc' := 0) (ms' := 0) (as' := [(0, 1)]) (st := []) (by first | decide | omega) (by first | decide | omega) (by first | decide | omega) rfl rfl (Nat.le_of_ble_eq_true rfl) (c_X12_refuse E S (up (up G 1 (Ad E 1) 1 0) 1 (Ad E 1) 0 0) 1 hS (by first | decide | omega) (by first | decide | omega)) ?_
        rintro _ _ _ ⟨rfl, ⟨G68, rfl⟩, z69, rfl, rfl⟩
        have mi70 : MI E (hv [0] [] (up (up G 1 (Ad E 1) 1 0) 1 (Ad E 1) 0 0) G68) := mi_keep mi rfl rfl rfl rfl rfl rfl (fun _ => rfl) (fun _ => rfl) (fun _ => rfl) (fun _ => rfl) (fun _ => rfl) (fun _ => rfl) (fun _ => rfl) (fun _ => rfl) (fun _ => rfl) (fun _ => rfl) (fun _ => rfl) (fun _ => rfl) (fun _ => rfl)
        exact r_retI hX hP rfl rfl (by first | decide | omega) (by first | decide | omega) ⟨rfl, ⟨_, (hq_call (hq_up (hq_up (hq_refl _ _ _) rfl) rfl) rfl).symm⟩, (-1), rfl, accounts, accounts_e, (by first | decide | omega), mi70⟩
