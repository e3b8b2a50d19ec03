set_option maxRecDepth 100000 in
set_option maxHeartbeats 4000000 in
theorem c_X12_asofT (E : En) (S : Sg) (G : Gh) (d : Int) (hS : S (Ad E 1) = 1) (asof : Int) (asof_e : asof = G 1 (Ad E 1) 2) (d_a : (-2147483648) ≤ d) (d_b : d ≤ 2147483647) : Calls E mX12_asof [(2, (Ad E 1)), (0, d)] S G 2 0 0 (fun r S' G' => S = S' ∧ (∃ G1, hv [0, 1, 2] [] G G1 = G') ∧ ∃ z : Int, r = some (0, z) ∧ ∃ a2 : Int, a2 = G' 1 (Ad E 1) 2 ∧ 0 ≤ z ∧ z ≤ 1 ∧ ((0 ≤ d ∧ d ≤ 40000 ∧ z = 1 ∧ a2 = d) ∨ (z = 0 ∧ a2 = asof ∧ ¬ (0 ≤ d ∧ d ≤ 40000)))) := by
  refine calls_by [(0, (2, (Ad E 1))), (1, (0, d))] rfl rfl (Nat.le_of_ble_eq_true rfl) (fun X hX => ?_)
  have hP := hPX12_asof
  refine r_peekI hX (tl1 2 rfl (by decide)) hS (fun asof_o asof_oe asof_oa asof_ob => ?_)
  obtain rfl : asof = asof_o := asof_e.trans asof_oe.symm
  refine r_ex hX hP 2 (pc' := 2) (st' := [(0, 0), (2, (Ad E 1))]) (lo' := [(0, (2, (Ad E 1))), (1, (0, d))]) rfl ?_
  refine r_putIK hX hP rfl fp_12_304 hS (by first | decide | omega) (by first | decide | omega) (fun h1 => ?_)
  refine r_ex hX hP 2 (pc' := 7) (st' := [(0, 0), (2, (Ad E 1))]) (lo' := [(0, (2, (Ad E 1))), (1, (0, d))]) rfl ?_
  refine r_putIK hX hP rfl fp_12_307 hS (by first | decide | omega) (by first | decide | omega) (fun h2 => ?_)
  refine r_ex hX hP 1 (pc' := 11) (st' := [(0, d)]) (lo' := [(0, (2, (Ad E 1))), (1, (0, d))]) rfl ?_
  refine r_callS gd hX hP rfl cs_12_317 (d' := 1) (mc' := 0) (ms' := 0) (as' := [(0, d)]) (st := []) (by first | decide | omega) (by first | decide | omega) (by first | decide | omega) rfl rfl (Nat.le_of_ble_eq_true rfl) (c_X12_isDay E S (up (up G 1 (Ad E 1) 1 0) 1 (Ad E 1) 0 0) d (by first | decide | omega) (by first | decide | omega)) ?_
  rintro _ _ _ ⟨rfl, rfl, z3, rfl, (⟨rfl, f4, f5⟩ | ⟨rfl, f6⟩)⟩
  · skip
    refine r_if_ne hX hP rfl (tgt := 23) rfl (by first | decide | omega) (by first | decide | omega) (fun c7 => ?_) (fun c7 => ?_)
    · skip
      refine r_ex hX hP 2 (pc' := 25) (st' := [(0, d), (2, (Ad E 1))]) (lo' := [(0, (2, (Ad E 1))), (1, (0, d))]) rfl ?_
      refine r_putIK hX hP rfl fp_12_10 hS (by first | decide | omega) (by first | decide | omega) (fun h8 => ?_)
      refine r_ex hX hP 1 (pc' := 29) (st' := [(0, 1)]) (lo' := [(0, (2, (Ad E 1))), (1, (0, d))]) rfl ?_
      exact r_retZ hX hP rfl rfl (by first | decide | omega) (by first | decide | omega) (by first | decide | omega) (by first | decide | omega) ⟨rfl, ⟨_, (hq_up (hq_up (hq_up (hq_refl _ _ _) rfl) rfl) rfl).symm⟩, 1, rfl, d, h8, (by first | decide | omega), (by first | decide | omega), (by first | decide | omega)⟩
    · skip
      exfalso; omega
  · skip
    refine r_if_ne hX hP rfl (tgt := 23) rfl (by first | decide | omega) (by first | decide | omega) (fun c9 => ?_) (fun c9 => ?_)
    · skip
      exfalso; omega
    · skip
      refine r_ex hX hP 2 (pc' := 19) (st' := [(0, 2), (2, (Ad E 1))]) (lo' := [(0, (2, (Ad E 1))), (1, (0, d))]) rfl ?_
      refine r_callV gd hX hP rfl cv_12_321 hS (d' := 0) (mc' := 0) (ms' := 0) (as' := [(0, 2)]) (st := []) (by first | decide | omega) (by first | decide | omega) (by first | decide | omega) rfl rfl (Nat.le_of_ble_eq_true rfl) (c_X12_no E S (up (up G 1 (Ad E 1) 1 0) 1 (Ad E 1) 0 0) 2 hS (by first | decide | omega) (by first | decide | omega)) ?_
      rintro _ _ _ ⟨rfl, ⟨G10, rfl⟩, z11, rfl, rfl⟩
      exact r_retZ hX hP rfl rfl (by first | decide | omega) (by first | decide | omega) (by first | decide | omega) (by first | decide | omega) ⟨rfl, ⟨_, (hq_call (hq_up (hq_up (hq_refl _ _ _) rfl) rfl) rfl).symm⟩, 0, rfl, asof, asof_e, (by first | decide | omega), (by first | decide | omega), (by first | decide | omega)⟩
set_option maxRecDepth 100000 in
set_option maxHeartbeats 4000000 in
theorem c_X12_issueT (E : En) (S : Sg) (G : Gh) (a p d sh w k : Int) (hS : S (Ad E 1) = 1) (accounts : Int) (accounts_e : accounts = G 1 (Ad E 1) 6) (issues : Int) (issues_e : issues = G 1 (Ad E 1) 7) (latest : Int) (latest_e : latest = G 1 (Ad E 1) 3) (a_a : (-2147483648) ≤ a) (a_b : a ≤ 2147483647) (p_a : (-2147483648) ≤ p) (p_b : p ≤ 2147483647) (d_a : (-2147483648) ≤ d) (d_b : d ≤ 2147483647) (sh_a : (-2147483648) ≤ sh) (sh_b : sh ≤ 2147483647) (w_a : (-2147483648) ≤ w) (w_b : w ≤ 2147483647) (k_a : (-2147483648) ≤ k) (k_b : k ≤ 2147483647) : Calls E mX12_issue [(2, (Ad E 1)), (0, a), (0, p), (0, d), (0, sh), (0, w), (0, k)] S G 2 0 0 (fun r S' G' => S = S' ∧ (∃ G1, hv [0, 1, 3, 7] [5, 6, 7, 8, 9, 10] G G1 = G') ∧ ∃ z : Int, r = some (0, z) ∧ ∃ c2 : Int, c2 = G' 1 (Ad E 1) 7 ∧ ∃ l2 : Int, l2 = G' 1 (Ad E 1) 3 ∧ 0 ≤ z ∧ z ≤ 1 ∧ ((0 ≤ a ∧ a < accounts ∧ 0 ≤ p ∧ p ≤ 19 ∧ 0 ≤ d ∧ d ≤ 40000 ∧ 1 ≤ sh ∧ sh ≤ 1000000 ∧ 0 ≤ w ∧ w ≤ 100000000 ∧ 0 ≤ k ∧ k ≤ 40000 ∧ issues < 40 ∧ latest ≤ k ∧ z = 1 ∧ c2 = issues + 1 ∧ l2 = k) ∨ (z = 0 ∧ c2 = issues ∧ l2 = latest ∧ ¬ (0 ≤ a ∧ a < accounts ∧ 0 ≤ p ∧ p ≤ 19 ∧ 0 ≤ d ∧ d ≤ 40000 ∧ 1 ≤ sh ∧ sh ≤ 1000000 ∧ 0 ≤ w ∧ w ≤ 100000000 ∧ 0 ≤ k ∧ k ≤ 40000 ∧ issues < 40 ∧ latest ≤ k)))) := by
  refine calls_by [(0, (2, (Ad E 1))), (1, (0, a)), (2, (0, p)), (3, (0, d)), (4, (0, sh)), (5, (0, w)), (6, (0, k))] rfl rfl (Nat.le_of_ble_eq_true rfl) (fun X hX => ?_)
  have hP := hPX12_issue
  refine r_peekI hX (tl1 6 rfl (by decide)) hS (fun accounts_o accounts_oe accounts_oa accounts_ob => ?_)
  obtain rfl : accounts = accounts_o := accounts_e.trans accounts_oe.symm
  refine r_peekI hX (tl1 7 rfl (by decide)) hS (fun issues_o issues_oe issues_oa issues_ob => ?_)
  obtain rfl : issues = issues_o := issues_e.trans issues_oe.symm
  refine r_peekI hX (tl1 3 rfl (by decide)) hS (fun latest_o latest_oe latest_oa latest_ob => ?_)
  obtain rfl : latest = latest_o := latest_e.trans latest_oe.symm
  refine r_ex hX hP 2 (pc' := 2) (st' := [(0, 0), (2, (Ad E 1))]) (lo' := [(0, (2, (Ad E 1))), (1, (0, a)), (2, (0, p)), (3, (0, d)), (4, (0, sh)), (5, (0, w)), (6, (0, k))]) rfl ?_
  refine r_putIK hX hP rfl fp_12_304 hS (by first | decide | omega) (by first | decide | omega) (fun h1 => ?_)
  refine r_ex hX hP 2 (pc' := 7) (st' := [(0, 0), (2, (Ad E 1))]) (lo' := [(0, (2, (Ad E 1))), (1, (0, a)), (2, (0, p)), (3, (0, d)), (4, (0, sh)), (5, (0, w)), (6, (0, k))]) rfl ?_
  refine r_putIK hX hP rfl fp_12_307 hS (by first | decide | omega) (by first | decide | omega) (fun h2 => ?_)
  refine r_ex hX hP 2 (pc' := 12) (st' := [(0, a), (2, (Ad E 1))]) (lo' := [(0, (2, (Ad E 1))), (1, (0, a)), (2, (0, p)), (3, (0, d)), (4, (0, sh)), (5, (0, w)), (6, (0, k))]) rfl ?_
  refine r_callV gd hX hP rfl cv_12_324 hS (d' := 1) (mc' := 0) (ms' := 0) (as' := [(0, a)]) (st := []) (by first | decide | omega) (by first | decide | omega) (by first | decide | omega) rfl rfl (Nat.le_of_ble_eq_true rfl) (c_X12_isAccount E S (up (up G 1 (Ad E 1) 1 0) 1 (Ad E 1) 0 0) a hS accounts accounts_e (by first | decide | omega) (by first | decide | omega)) ?_
  rintro _ _ _ ⟨rfl, rfl, z3, rfl, (⟨rfl, f4, f5⟩ | ⟨rfl, f6⟩)⟩
  · skip
    refine r_if_eq hX hP rfl (tgt := 25) rfl (by first | decide | omega) (by first | decide | omega) (fun c7 => ?_) (fun c7 => ?_)
    · skip
      exfalso; omega
    · skip
      refine r_ex hX hP 1 (pc' := 19) (st' := [(0, p)]) (lo' := [(0, (2, (Ad E 1))), (1, (0, a)), (2, (0, p)), (3, (0, d)), (4, (0, sh)), (5, (0, w)), (6, (0, k))]) rfl ?_
      refine r_callS gd hX hP rfl cs_12_331 (d' := 1) (mc' := 0) (ms' := 0) (as' := [(0, p)]) (st := []) (by first | decide | omega) (by first | decide | omega) (by first | decide | omega) rfl rfl (Nat.le_of_ble_eq_true rfl) (c_X12_isPaper E S (up (up G 1 (Ad E 1) 1 0) 1 (Ad E 1) 0 0) p (by first | decide | omega) (by first | decide | omega)) ?_
      rintro _ _ _ ⟨rfl, rfl, z8, rfl, (⟨rfl, f9, f10⟩ | ⟨rfl, f11⟩)⟩
      · skip
        refine r_if_ne hX hP rfl (tgt := 31) rfl (by first | decide | omega) (by first | decide | omega) (fun c12 => ?_) (fun c12 => ?_)
        · skip
          refine r_ex hX hP 1 (pc' := 32) (st' := [(0, d)]) (lo' := [(0, (2, (Ad E 1))), (1, (0, a)), (2, (0, p)), (3, (0, d)), (4, (0, sh)), (5, (0, w)), (6, (0, k))]) rfl ?_
          refine r_callS gd hX hP rfl cs_12_317 (d' := 1) (mc' := 0) (ms' := 0) (as' := [(0, d)]) (st := []) (by first | decide | omega) (by first | decide | omega) (by first | decide | omega) rfl rfl (Nat.le_of_ble_eq_true rfl) (c_X12_isDay E S (up (up G 1 (Ad E 1) 1 0) 1 (Ad E 1) 0 0) d (by first | decide | omega) (by first | decide | omega)) ?_
          rintro _ _ _ ⟨rfl, rfl, z13, rfl, (⟨rfl, f14, f15⟩ | ⟨rfl, f16⟩)⟩
          · skip
            refine r_if_eq hX hP rfl (tgt := 70) rfl (by first | decide | omega) (by first | decide | omega) (fun c17 => ?_) (fun c17 => ?_)
            · skip
              exfalso; omega
            · skip
              refine r_ex hX hP 2 (pc' := 41) (st' := [(0, 1), (0, sh)]) (lo' := [(0, (2, (Ad E 1))), (1, (0, a)), (2, (0, p)), (3, (0, d)), (4, (0, sh)), (5, (0, w)), (6, (0, k))]) rfl ?_
              refine r_ldcw hX hP rfl (v := 1000000) (tbg sg9 103 rfl rfl) ?_
              refine r_callS gd hX hP rfl cs_12_310 (d' := 0) (mc' := 0) (ms' := 0) (as' := [(0, sh), (0, 1), (0, 1000000)]) (st := []) (by first | decide | omega) (by first | decide | omega) (by first | decide | omega) rfl rfl (Nat.le_of_ble_eq_true rfl) (c_X12_isIn E S (up (up G 1 (Ad E 1) 1 0) 1 (Ad E 1) 0 0) sh 1 1000000 (by first | decide | omega) (by first | decide | omega) (by first | decide | omega) (by first | decide | omega) (by first | decide | omega) (by first | decide | omega)) ?_
              rintro _ _ _ ⟨rfl, rfl, z18, rfl, (⟨rfl, f19, f20⟩ | ⟨rfl, f21⟩)⟩
              · skip
                refine r_if_eq hX hP rfl (tgt := 70) rfl (by first | decide | omega) (by first | decide | omega) (fun c22 => ?_) (fun c22 => ?_)
                · skip
                  exfalso; omega
                · skip
                  refine r_ex hX hP 2 (pc' := 53) (st' := [(0, 0), (0, w)]) (lo' := [(0, (2, (Ad E 1))), (1, (0, a)), (2, (0, p)), (3, (0, d)), (4, (0, sh)), (5, (0, w)), (6, (0, k))]) rfl ?_
                  refine r_ldcw hX hP rfl (v := 100000000) (tbg sg9 104 rfl rfl) ?_
                  refine r_callS gd hX hP rfl cs_12_310 (d' := 0) (mc' := 0) (ms' := 0) (as' := [(0, w), (0, 0), (0, 100000000)]) (st := []) (by first | decide | omega) (by first | decide | omega) (by first | decide | omega) rfl rfl (Nat.le_of_ble_eq_true rfl) (c_X12_isIn E S (up (up G 1 (Ad E 1) 1 0) 1 (Ad E 1) 0 0) w 0 100000000 (by first | decide | omega) (by first | decide | omega) (by first | decide | omega) (by first | decide | omega) (by first | decide | omega) (by first | decide | omega)) ?_
                  rintro _ _ _ ⟨rfl, rfl, z23, rfl, (⟨rfl, f24, f25⟩ | ⟨rfl, f26⟩)⟩
                  · skip
                    refine r_if_eq hX hP rfl (tgt := 70) rfl (by first | decide | omega) (by first | decide | omega) (fun c27 => ?_) (fun c27 => ?_)
                    · skip
                      exfalso; omega
                    · skip
                      refine r_ex hX hP 1 (pc' := 64) (st' := [(0, k)]) (lo' := [(0, (2, (Ad E 1))), (1, (0, a)), (2, (0, p)), (3, (0, d)), (4, (0, sh)), (5, (0, w)), (6, (0, k))]) rfl ?_
                      refine r_callS gd hX hP rfl cs_12_317 (d' := 1) (mc' := 0) (ms' := 0) (as' := [(0, k)]) (st := []) (by first | decide | omega) (by first | decide | omega) (by first | decide | omega) rfl rfl (Nat.le_of_ble_eq_true rfl) (c_X12_isDay E S (up (up G 1 (Ad E 1) 1 0) 1 (Ad E 1) 0 0) k (by first | decide | omega) (by first | decide | omega)) ?_
                      rintro _ _ _ ⟨rfl, rfl, z28, rfl, (⟨rfl, f29, f30⟩ | ⟨rfl, f31⟩)⟩
                      · skip
                        refine r_if_ne hX hP rfl (tgt := 76) rfl (by first | decide | omega) (by first | decide | omega) (fun c32 => ?_) (fun c32 => ?_)
                        · skip
                          refine r_ex hX hP 1 (pc' := 77) (st' := [(2, (Ad E 1))]) (lo' := [(0, (2, (Ad E 1))), (1, (0, a)), (2, (0, p)), (3, (0, d)), (4, (0, sh)), (5, (0, w)), (6, (0, k))]) rfl ?_
                          refine r_getKI hX hP rfl fl_12_336 hS (x := issues) issues_e ?_
                          refine r_ex hX hP 1 (pc' := 82) (st' := [(0, 40), (0, issues)]) (lo' := [(0, (2, (Ad E 1))), (1, (0, a)), (2, (0, p)), (3, (0, d)), (4, (0, sh)), (5, (0, w)), (6, (0, k))]) rfl ?_
                          refine r_ic_ne hX hP rfl (tgt := 91) rfl (by first | decide | omega) (by first | decide | omega) (by first | decide | omega) (by first | decide | omega) (fun c33 => ?_) (fun c33 => ?_)
                          · skip
                            refine r_ex hX hP 2 (pc' := 94) (st' := [(2, (Ad E 1)), (0, k)]) (lo' := [(0, (2, (Ad E 1))), (1, (0, a)), (2, (0, p)), (3, (0, d)), (4, (0, sh)), (5, (0, w)), (6, (0, k))]) rfl ?_
                            refine r_getKI hX hP rfl fl_12_339 hS (x := latest) latest_e ?_
                            refine r_ic_ge hX hP rfl (tgt := 106) rfl (by first | decide | omega) (by first | decide | omega) (by first | decide | omega) (by first | decide | omega) (fun c34 => ?_) (fun c34 => ?_)
                            · skip
                              refine r_ex hX hP 1 (pc' := 107) (st' := [(2, (Ad E 1))]) (lo' := [(0, (2, (Ad E 1))), (1, (0, a)), (2, (0, p)), (3, (0, d)), (4, (0, sh)), (5, (0, w)), (6, (0, k))]) rfl ?_
                              refine r_getC hX hP rfl fl_12_28 hS (fun s35 => ?_)
                              refine r_ex hX hP 1 (pc' := 111) (st' := [(2, (Ad E 1)), (2, (Ad E 5))]) (lo' := [(0, (2, (Ad E 1))), (1, (0, a)), (2, (0, p)), (3, (0, d)), (4, (0, sh)), (5, (0, w)), (6, (0, k))]) rfl ?_
                              refine r_getKI hX hP rfl fl_12_336 hS (x := issues) issues_e ?_
                              refine r_ex hX hP 1 (pc' := 115) (st' := [(0, a), (0, issues), (2, (Ad E 5))]) (lo' := [(0, (2, (Ad E 1))), (1, (0, a)), (2, (0, p)), (3, (0, d)), (4, (0, sh)), (5, (0, w)), (6, (0, k))]) rfl ?_
                              refine r_iastK hX hP rfl al_5 s35 (by first | decide | omega) (by first | decide | omega) (by first | decide | omega) (by first | decide | omega) (fun h36 => ?_)
                              refine r_ex hX hP 1 (pc' := 117) (st' := [(2, (Ad E 1))]) (lo' := [(0, (2, (Ad E 1))), (1, (0, a)), (2, (0, p)), (3, (0, d)), (4, (0, sh)), (5, (0, w)), (6, (0, k))]) rfl ?_
                              refine r_getC hX hP rfl fl_12_31 hS (fun s37 => ?_)
                              refine r_ex hX hP 1 (pc' := 121) (st' := [(2, (Ad E 1)), (2, (Ad E 6))]) (lo' := [(0, (2, (Ad E 1))), (1, (0, a)), (2, (0, p)), (3, (0, d)), (4, (0, sh)), (5, (0, w)), (6, (0, k))]) rfl ?_
                              refine r_getKI hX hP rfl fl_12_336 hS (x := issues) issues_e ?_
                              refine r_ex hX hP 1 (pc' := 125) (st' := [(0, p), (0, issues), (2, (Ad E 6))]) (lo' := [(0, (2, (Ad E 1))), (1, (0, a)), (2, (0, p)), (3, (0, d)), (4, (0, sh)), (5, (0, w)), (6, (0, k))]) rfl ?_
                              refine r_iastK hX hP rfl al_6 s37 (by first | decide | omega) (by first | decide | omega) (by first | decide | omega) (by first | decide | omega) (fun h38 => ?_)
                              refine r_ex hX hP 1 (pc' := 127) (st' := [(2, (Ad E 1))]) (lo' := [(0, (2, (Ad E 1))), (1, (0, a)), (2, (0, p)), (3, (0, d)), (4, (0, sh)), (5, (0, w)), (6, (0, k))]) rfl ?_
                              refine r_getC hX hP rfl fl_12_34 hS (fun s39 => ?_)
                              refine r_ex hX hP 1 (pc' := 131) (st' := [(2, (Ad E 1)), (2, (Ad E 7))]) (lo' := [(0, (2, (Ad E 1))), (1, (0, a)), (2, (0, p)), (3, (0, d)), (4, (0, sh)), (5, (0, w)), (6, (0, k))]) rfl ?_
                              refine r_getKI hX hP rfl fl_12_336 hS (x := issues) issues_e ?_
                              refine r_ex hX hP 1 (pc' := 135) (st' := [(0, d), (0, issues), (2, (Ad E 7))]) (lo' := [(0, (2, (Ad E 1))), (1, (0, a)), (2, (0, p)), (3, (0, d)), (4, (0, sh)), (5, (0, w)), (6, (0, k))]) rfl ?_
                              refine r_iastK hX hP rfl al_7 s39 (by first | decide | omega) (by first | decide | omega) (by first | decide | omega) (by first | decide | omega) (fun h40 => ?_)
                              refine r_ex hX hP 1 (pc' := 137) (st' := [(2, (Ad E 1))]) (lo' := [(0, (2, (Ad E 1))), (1, (0, a)), (2, (0, p)), (3, (0, d)), (4, (0, sh)), (5, (0, w)), (6, (0, k))]) rfl ?_
                              refine r_getC hX hP rfl fl_12_37 hS (fun s41 => ?_)
                              refine r_ex hX hP 1 (pc' := 141) (st' := [(2, (Ad E 1)), (2, (Ad E 8))]) (lo' := [(0, (2, (Ad E 1))), (1, (0, a)), (2, (0, p)), (3, (0, d)), (4, (0, sh)), (5, (0, w)), (6, (0, k))]) rfl ?_
                              refine r_getKI hX hP rfl fl_12_336 hS (x := issues) issues_e ?_
                              refine r_ex hX hP 1 (pc' := 146) (st' := [(0, sh), (0, issues), (2, (Ad E 8))]) (lo' := [(0, (2, (Ad E 1))), (1, (0, a)), (2, (0, p)), (3, (0, d)), (4, (0, sh)), (5, (0, w)), (6, (0, k))]) rfl ?_
                              refine r_iastK hX hP rfl al_8 s41 (by first | decide | omega) (by first | decide | omega) (by first | decide | omega) (by first | decide | omega) (fun h42 => ?_)
                              refine r_ex hX hP 1 (pc' := 148) (st' := [(2, (Ad E 1))]) (lo' := [(0, (2, (Ad E 1))), (1, (0, a)), (2, (0, p)), (3, (0, d)), (4, (0, sh)), (5, (0, w)), (6, (0, k))]) rfl ?_
                              refine r_getC hX hP rfl fl_12_40 hS (fun s43 => ?_)
                              refine r_ex hX hP 1 (pc' := 152) (st' := [(2, (Ad E 1)), (2, (Ad E 9))]) (lo' := [(0, (2, (Ad E 1))), (1, (0, a)), (2, (0, p)), (3, (0, d)), (4, (0, sh)), (5, (0, w)), (6, (0, k))]) rfl ?_
                              refine r_getKI hX hP rfl fl_12_336 hS (x := issues) issues_e ?_
                              refine r_ex hX hP 1 (pc' := 157) (st' := [(0, w), (0, issues), (2, (Ad E 9))]) (lo' := [(0, (2, (Ad E 1))), (1, (0, a)), (2, (0, p)), (3, (0, d)), (4, (0, sh)), (5, (0, w)), (6, (0, k))]) rfl ?_
                              refine r_iastK hX hP rfl al_9 s43 (by first | decide | omega) (by first | decide | omega) (by first | decide | omega) (by first | decide | omega) (fun h44 => ?_)
                              refine r_ex hX hP 1 (pc' := 159) (st' := [(2, (Ad E 1))]) (lo' := [(0, (2, (Ad E 1))), (1, (0, a)), (2, (0, p)), (3, (0, d)), (4, (0, sh)), (5, (0, w)), (6, (0, k))]) rfl ?_
                              refine r_getC hX hP rfl fl_12_43 hS (fun s45 => ?_)
                              refine r_ex hX hP 1 (pc' := 163) (st' := [(2, (Ad E 1)), (2, (Ad E 10))]) (lo' := [(0, (2, (Ad E 1))), (1, (0, a)), (2, (0, p)), (3, (0, d)), (4, (0, sh)), (5, (0, w)), (6, (0, k))]) rfl ?_
                              refine r_getKI hX hP rfl fl_12_336 hS (x := issues) issues_e ?_
                              refine r_ex hX hP 1 (pc' := 168) (st' := [(0, k), (0, issues), (2, (Ad E 10))]) (lo' := [(0, (2, (Ad E 1))), (1, (0, a)), (2, (0, p)), (3, (0, d)), (4, (0, sh)), (5, (0, w)), (6, (0, k))]) rfl ?_
                              refine r_iastK hX hP rfl al_10 s45 (by first | decide | omega) (by first | decide | omega) (by first | decide | omega) (by first | decide | omega) (fun h46 => ?_)
                              refine r_ex hX hP 2 (pc' := 171) (st' := [(2, (Ad E 1)), (2, (Ad E 1))]) (lo' := [(0, (2, (Ad E 1))), (1, (0, a)), (2, (0, p)), (3, (0, d)), (4, (0, sh)), (5, (0, w)), (6, (0, k))]) rfl ?_
                              refine r_getKI hX hP rfl fl_12_336 hS (x := issues) issues_e ?_
                              refine r_ex hX hP 2 (pc' := 176) (st' := [(0, (issues + 1)), (2, (Ad E 1))]) (lo' := [(0, (2, (Ad E 1))), (1, (0, a)), (2, (0, p)), (3, (0, d)), (4, (0, sh)), (5, (0, w)), (6, (0, k))]) rfl ?_
                              refine r_putIK hX hP rfl fp_12_336 hS (by first | decide | omega) (by first | decide | omega) (fun h47 => ?_)
                              refine r_ex hX hP 2 (pc' := 182) (st' := [(0, k), (2, (Ad E 1))]) (lo' := [(0, (2, (Ad E 1))), (1, (0, a)), (2, (0, p)), (3, (0, d)), (4, (0, sh)), (5, (0, w)), (6, (0, k))]) rfl ?_
                              refine r_putIK hX hP rfl fp_12_339 hS (by first | decide | omega) (by first | decide | omega) (fun h48 => ?_)
                              refine r_ex hX hP 1 (pc' := 186) (st' := [(0, 1)]) (lo' := [(0, (2, (Ad E 1))), (1, (0, a)), (2, (0, p)), (3, (0, d)), (4, (0, sh)), (5, (0, w)), (6, (0, k))]) rfl ?_
                              exact r_retZ hX hP rfl rfl (by first | decide | omega) (by first | decide | omega) (by first | decide | omega) (by first | decide | omega) ⟨rfl, ⟨_, (hq_up (hq_up (hq_up (hq_up (hq_up (hq_up (hq_up (hq_up (hq_up (hq_up (hq_refl _ _ _) rfl) rfl) rfl) rfl) rfl) rfl) rfl) rfl) rfl) rfl).symm⟩, 1, rfl, (issues + 1), h47, k, h48, (by first | decide | omega), (by first | decide | omega), (by first | decide | omega)⟩
                            · skip
                              refine r_ex hX hP 2 (pc' := 102) (st' := [(0, 4), (2, (Ad E 1))]) (lo' := [(0, (2, (Ad E 1))), (1, (0, a)), (2, (0, p)), (3, (0, d)), (4, (0, sh)), (5, (0, w)), (6, (0, k))]) rfl ?_
                              refine r_callV gd hX hP rfl cv_12_321 hS (d' := 0) (mc' := 0) (ms' := 0) (as' := [(0, 4)]) (st := []) (by first | decide | omega) (by first | decide | omega) (by first | decide | omega) rfl rfl (Nat.le_of_ble_eq_true rfl) (c_X12_no E S (up (up G 1 (Ad E 1) 1 0) 1 (Ad E 1) 0 0) 4 hS (by first | decide | omega) (by first | decide | omega)) ?_
                              rintro _ _ _ ⟨rfl, ⟨G49, rfl⟩, z50, rfl, rfl⟩
                              exact r_retZ hX hP rfl rfl (by first | decide | omega) (by first | decide | omega) (by first | decide | omega) (by first | decide | omega) ⟨rfl, ⟨_, (hq_call (hq_up (hq_up (hq_refl _ _ _) rfl) rfl) rfl).symm⟩, 0, rfl, issues, issues_e, latest, latest_e, (by first | decide | omega), (by first | decide | omega), (by first | decide | omega)⟩
                          · skip
                            refine r_ex hX hP 2 (pc' := 87) (st' := [(0, 3), (2, (Ad E 1))]) (lo' := [(0, (2, (Ad E 1))), (1, (0, a)), (2, (0, p)), (3, (0, d)), (4, (0, sh)), (5, (0, w)), (6, (0, k))]) rfl ?_
                            refine r_callV gd hX hP rfl cv_12_321 hS (d' := 0) (mc' := 0) (ms' := 0) (as' := [(0, 3)]) (st := []) (by first | decide | omega) (by first | decide | omega) (by first | decide | omega) rfl rfl (Nat.le_of_ble_eq_true rfl) (c_X12_no E S (up (up G 1 (Ad E 1) 1 0) 1 (Ad E 1) 0 0) 3 hS (by first | decide | omega) (by first | decide | omega)) ?_
                            rintro _ _ _ ⟨rfl, ⟨G51, rfl⟩, z52, rfl, rfl⟩
                            exact r_retZ hX hP rfl rfl (by first | decide | omega) (by first | decide | omega) (by first | decide | omega) (by first | decide | omega) ⟨rfl, ⟨_, (hq_call (hq_up (hq_up (hq_refl _ _ _) rfl) rfl) rfl).symm⟩, 0, rfl, issues, issues_e, latest, latest_e, (by first | decide | omega), (by first | decide | omega), (by first | decide | omega)⟩
                        · skip
                          exfalso; omega
                      · skip
                        refine r_if_ne hX hP rfl (tgt := 76) rfl (by first | decide | omega) (by first | decide | omega) (fun c53 => ?_) (fun c53 => ?_)
                        · skip
                          exfalso; omega
                        · skip
                          refine r_ex hX hP 2 (pc' := 72) (st' := [(0, 2), (2, (Ad E 1))]) (lo' := [(0, (2, (Ad E 1))), (1, (0, a)), (2, (0, p)), (3, (0, d)), (4, (0, sh)), (5, (0, w)), (6, (0, k))]) rfl ?_
                          refine r_callV gd hX hP rfl cv_12_321 hS (d' := 0) (mc' := 0) (ms' := 0) (as' := [(0, 2)]) (st := []) (by first | decide | omega) (by first | decide | omega) (by first | decide | omega) rfl rfl (Nat.le_of_ble_eq_true rfl) (c_X12_no E S (up (up G 1 (Ad E 1) 1 0) 1 (Ad E 1) 0 0) 2 hS (by first | decide | omega) (by first | decide | omega)) ?_
                          rintro _ _ _ ⟨rfl, ⟨G54, rfl⟩, z55, rfl, rfl⟩
                          exact r_retZ hX hP rfl rfl (by first | decide | omega) (by first | decide | omega) (by first | decide | omega) (by first | decide | omega) ⟨rfl, ⟨_, (hq_call (hq_up (hq_up (hq_refl _ _ _) rfl) rfl) rfl).symm⟩, 0, rfl, issues, issues_e, latest, latest_e, (by first | decide | omega), (by first | decide | omega), (by first | decide | omega)⟩
                  · skip
                    refine r_if_eq hX hP rfl (tgt := 70) rfl (by first | decide | omega) (by first | decide | omega) (fun c56 => ?_) (fun c56 => ?_)
                    · skip
                      refine r_ex hX hP 2 (pc' := 72) (st' := [(0, 2), (2, (Ad E 1))]) (lo' := [(0, (2, (Ad E 1))), (1, (0, a)), (2, (0, p)), (3, (0, d)), (4, (0, sh)), (5, (0, w)), (6, (0, k))]) rfl ?_
                      refine r_callV gd hX hP rfl cv_12_321 hS (d' := 0) (mc' := 0) (ms' := 0) (as' := [(0, 2)]) (st := []) (by first | decide | omega) (by first | decide | omega) (by first | decide | omega) rfl rfl (Nat.le_of_ble_eq_true rfl) (c_X12_no E S (up (up G 1 (Ad E 1) 1 0) 1 (Ad E 1) 0 0) 2 hS (by first | decide | omega) (by first | decide | omega)) ?_
                      rintro _ _ _ ⟨rfl, ⟨G57, rfl⟩, z58, rfl, rfl⟩
                      exact r_retZ hX hP rfl rfl (by first | decide | omega) (by first | decide | omega) (by first | decide | omega) (by first | decide | omega) ⟨rfl, ⟨_, (hq_call (hq_up (hq_up (hq_refl _ _ _) rfl) rfl) rfl).symm⟩, 0, rfl, issues, issues_e, latest, latest_e, (by first | decide | omega), (by first | decide | omega), (by first | decide | omega)⟩
                    · skip
                      exfalso; omega
              · skip
                refine r_if_eq hX hP rfl (tgt := 70) rfl (by first | decide | omega) (by first | decide | omega) (fun c59 => ?_) (fun c59 => ?_)
                · skip
                  refine r_ex hX hP 2 (pc' := 72) (st' := [(0, 2), (2, (Ad E 1))]) (lo' := [(0, (2, (Ad E 1))), (1, (0, a)), (2, (0, p)), (3, (0, d)), (4, (0, sh)), (5, (0, w)), (6, (0, k))]) rfl ?_
                  refine r_callV gd hX hP rfl cv_12_321 hS (d' := 0) (mc' := 0) (ms' := 0) (as' := [(0, 2)]) (st := []) (by first | decide | omega) (by first | decide | omega) (by first | decide | omega) rfl rfl (Nat.le_of_ble_eq_true rfl) (c_X12_no E S (up (up G 1 (Ad E 1) 1 0) 1 (Ad E 1) 0 0) 2 hS (by first | decide | omega) (by first | decide | omega)) ?_
                  rintro _ _ _ ⟨rfl, ⟨G60, rfl⟩, z61, rfl, rfl⟩
                  exact r_retZ hX hP rfl rfl (by first | decide | omega) (by first | decide | omega) (by first | decide | omega) (by first | decide | omega) ⟨rfl, ⟨_, (hq_call (hq_up (hq_up (hq_refl _ _ _) rfl) rfl) rfl).symm⟩, 0, rfl, issues, issues_e, latest, latest_e, (by first | decide | omega), (by first | decide | omega), (by first | decide | omega)⟩
                · skip
                  exfalso; omega
          · skip
            refine r_if_eq hX hP rfl (tgt := 70) rfl (by first | decide | omega) (by first | decide | omega) (fun c62 => ?_) (fun c62 => ?_)
            · skip
              refine r_ex hX hP 2 (pc' := 72) (st' := [(0, 2), (2, (Ad E 1))]) (lo' := [(0, (2, (Ad E 1))), (1, (0, a)), (2, (0, p)), (3, (0, d)), (4, (0, sh)), (5, (0, w)), (6, (0, k))]) rfl ?_
              refine r_callV gd hX hP rfl cv_12_321 hS (d' := 0) (mc' := 0) (ms' := 0) (as' := [(0, 2)]) (st := []) (by first | decide | omega) (by first | decide | omega) (by first | decide | omega) rfl rfl (Nat.le_of_ble_eq_true rfl) (c_X12_no E S (up (up G 1 (Ad E 1) 1 0) 1 (Ad E 1) 0 0) 2 hS (by first | decide | omega) (by first | decide | omega)) ?_
              rintro _ _ _ ⟨rfl, ⟨G63, rfl⟩, z64, rfl, rfl⟩
              exact r_retZ hX hP rfl rfl (by first | decide | omega) (by first | decide | omega) (by first | decide | omega) (by first | decide | omega) ⟨rfl, ⟨_, (hq_call (hq_up (hq_up (hq_refl _ _ _) rfl) rfl) rfl).symm⟩, 0, rfl, issues, issues_e, latest, latest_e, (by first | decide | omega), (by first | decide | omega), (by first | decide | omega)⟩
            · skip
              exfalso; omega
        · skip
          exfalso; omega
      · skip
        refine r_if_ne hX hP rfl (tgt := 31) rfl (by first | decide | omega) (by first | decide | omega) (fun c65 => ?_) (fun c65 => ?_)
        · skip
          exfalso; omega
        · skip
          refine r_ex hX hP 2 (pc' := 27) (st' := [(0, 1), (2, (Ad E 1))]) (lo' := [(0, (2, (Ad E 1))), (1, (0, a)), (2, (0, p)), (3, (0, d)), (4, (0, sh)), (5, (0, w)), (6, (0, k))]) rfl ?_
          refine r_callV gd hX hP rfl cv_12_321 hS (d' := 0) (mc' := 0) (ms' := 0) (as' := [(0, 1)]) (st := []) (by first | decide | omega) (by first | decide | omega) (by first | decide | omega) rfl rfl (Nat.le_of_ble_eq_true rfl) (c_X12_no E S (up (up G 1 (Ad E 1) 1 0) 1 (Ad E 1) 0 0) 1 hS (by first | decide | omega) (by first | decide | omega)) ?_
          rintro _ _ _ ⟨rfl, ⟨G66, rfl⟩, z67, rfl, rfl⟩
          exact r_retZ hX hP rfl rfl (by first | decide | omega) (by first | decide | omega) (by first | decide | omega) (by first | decide | omega) ⟨rfl, ⟨_, (hq_call (hq_up (hq_up (hq_refl _ _ _) rfl) rfl) rfl).symm⟩, 0, rfl, issues, issues_e, latest, latest_e, (by first | decide | omega), (by first | decide | omega), (by first | decide | omega)⟩
  · skip
    refine r_if_eq hX hP rfl (tgt := 25) rfl (by first | decide | omega) (by first | decide | omega) (fun c68 => ?_) (fun c68 => ?_)
    · skip
      refine r_ex hX hP 2 (pc' := 27) (st' := [(0, 1), (2, (Ad E 1))]) (lo' := [(0, (2, (Ad E 1))), (1, (0, a)), (2, (0, p)), (3, (0, d)), (4, (0, sh)), (5, (0, w)), (6, (0, k))]) rfl ?_
      refine r_callV gd hX hP rfl cv_12_321 hS (d' := 0) (mc' := 0) (ms' := 0) (as' := [(0, 1)]) (st := []) (by first | decide | omega) (by first | decide | omega) (by first | decide | omega) rfl rfl (Nat.le_of_ble_eq_true rfl) (c_X12_no E S (up (up G 1 (Ad E 1) 1 0) 1 (Ad E 1) 0 0) 1 hS (by first | decide | omega) (by first | decide | omega)) ?_
      rintro _ _ _ ⟨rfl, ⟨G69, rfl⟩, z70, rfl, rfl⟩
      exact r_retZ hX hP rfl rfl (by first | decide | omega) (by first | decide | omega) (by first | decide | omega) (by first | decide | omega) ⟨rfl, ⟨_, (hq_call (hq_up (hq_up (hq_refl _ _ _) rfl) rfl) rfl).symm⟩, 0, rfl, issues, issues_e, latest, latest_e, (by first | decide | omega), (by first | decide | omega), (by first | decide | omega)⟩
    · skip
      exfalso; omega
set_option maxRecDepth 100000 in
set_option maxHeartbeats 4000000 in
theorem c_X12_tradeT (E : En) (S : Sg) (G : Gh) (f t p sh dl se k : Int) (hS : S (Ad E 1) = 1) (accounts : Int) (accounts_e : accounts = G 1 (Ad E 1) 6) (trades : Int) (trades_e : trades = G 1 (Ad E 1) 8) (latest : Int) (latest_e : latest = G 1 (Ad E 1) 3) (f_a : (-2147483648) ≤ f) (f_b : f ≤ 2147483647) (t_a : (-2147483648) ≤ t) (t_b : t ≤ 2147483647) (p_a : (-2147483648) ≤ p) (p_b : p ≤ 2147483647) (sh_a : (-2147483648) ≤ sh) (sh_b : sh ≤ 2147483647) (dl_a : (-2147483648) ≤ dl) (dl_b : dl ≤ 2147483647) (se_a : (-2147483648) ≤ se) (se_b : se ≤ 2147483647) (k_a : (-2147483648) ≤ k) (k_b : k ≤ 2147483647) (mi : MI E G) : Calls E mX12_trade [(2, (Ad E 1)), (0, f), (0, t), (0, p), (0, sh), (0, dl), (0, se), (0, k)] S G 2 0 0 (fun r S' G' => S = S' ∧ (∃ G1, hv [0, 1, 3, 8] [11, 12, 13, 14, 15, 16, 17, 18] G G1 = G') ∧ ∃ z : Int, r = some (0, z) ∧ ∃ c2 : Int, c2 = G' 1 (Ad E 1) 8 ∧ ∃ l2 : Int, l2 = G' 1 (Ad E 1) 3 ∧ (-2147483648) ≤ z ∧ z ≤ 2147483647 ∧ ((0 ≤ f ∧ f < accounts ∧ 0 ≤ t ∧ t < accounts ∧ f ≠ t ∧ 0 ≤ p ∧ p ≤ 19 ∧ 1 ≤ sh ∧ sh ≤ 1000000 ∧ 0 ≤ dl ∧ dl ≤ 40000 ∧ 0 ≤ se ∧ se ≤ 40000 ∧ dl ≤ se ∧ 0 ≤ k ∧ k ≤ 40000 ∧ trades < 40 ∧ latest ≤ k ∧ z = trades ∧ c2 = trades + 1 ∧ l2 = k) ∨ (z = -1 ∧ c2 = trades ∧ l2 = latest ∧ ¬ (0 ≤ f ∧ f < accounts ∧ 0 ≤ t ∧ t < accounts ∧ f ≠ t ∧ 0 ≤ p ∧ p ≤ 19 ∧ 1 ≤ sh ∧ sh ≤ 1000000 ∧ 0 ≤ dl ∧ dl ≤ 40000 ∧ 0 ≤ se ∧ se ≤ 40000 ∧ dl ≤ se ∧ 0 ≤ k ∧ k ≤ 40000 ∧ trades < 40 ∧ latest ≤ k))) ∧ (∀ i : Int, i ≠ trades → G' 18 (Ad E 18) i = G 18 (Ad E 18) i) ∧ (z = -1 ∨ (G' 18 (Ad E 18) trades = 1000000000)) ∧ MI E G') := by
  refine calls_by [(0, (2, (Ad E 1))), (1, (0, f)), (2, (0, t)), (3, (0, p)), (4, (0, sh)), (5, (0, dl)), (6, (0, se)), (7, (0, k))] rfl rfl (Nat.le_of_ble_eq_true rfl) (fun X hX => ?_)
  have hP := hPX12_trade
  refine r_peekI hX (tl1 6 rfl (by decide)) hS (fun accounts_o accounts_oe accounts_oa accounts_ob => ?_)
  obtain rfl : accounts = accounts_o := accounts_e.trans accounts_oe.symm
  refine r_peekI hX (tl1 8 rfl (by decide)) hS (fun trades_o trades_oe trades_oa trades_ob => ?_)
  obtain rfl : trades = trades_o := trades_e.trans trades_oe.symm
  refine r_peekI hX (tl1 3 rfl (by decide)) hS (fun latest_o latest_oe latest_oa latest_ob => ?_)
  obtain rfl : latest = latest_o := latest_e.trans latest_oe.symm
  refine r_ex hX hP 2 (pc' := 2) (st' := [(0, 0), (2, (Ad E 1))]) (lo' := [(0, (2, (Ad E 1))), (1, (0, f)), (2, (0, t)), (3, (0, p)), (4, (0, sh)), (5, (0, dl)), (6, (0, se)), (7, (0, k))]) rfl ?_
  refine r_putIK hX hP rfl fp_12_304 hS (by first | decide | omega) (by first | decide | omega) (fun h1 => ?_)
  refine r_ex hX hP 2 (pc' := 7) (st' := [(0, 0), (2, (Ad E 1))]) (lo' := [(0, (2, (Ad E 1))), (1, (0, f)), (2, (0, t)), (3, (0, p)), (4, (0, sh)), (5, (0, dl)), (6, (0, se)), (7, (0, k))]) rfl ?_
  refine r_putIK hX hP rfl fp_12_307 hS (by first | decide | omega) (by first | decide | omega) (fun h2 => ?_)
  refine r_ex hX hP 2 (pc' := 12) (st' := [(0, f), (2, (Ad E 1))]) (lo' := [(0, (2, (Ad E 1))), (1, (0, f)), (2, (0, t)), (3, (0, p)), (4, (0, sh)), (5, (0, dl)), (6, (0, se)), (7, (0, k))]) rfl ?_
  refine r_callV gd hX hP rfl cv_12_324 hS (d' := 1) (mc' := 0) (ms' := 0) (as' := [(0, f)]) (st := []) (by first | decide | omega) (by first | decide | omega) (by first | decide | omega) rfl rfl (Nat.le_of_ble_eq_true rfl) (c_X12_isAccount E S (up (up G 1 (Ad E 1) 1 0) 1 (Ad E 1) 0 0) f hS accounts accounts_e (by first | decide | omega) (by first | decide | omega)) ?_
  rintro _ _ _ ⟨rfl, rfl, z3, rfl, (⟨rfl, f4, f5⟩ | ⟨rfl, f6⟩)⟩
  · skip
    refine r_if_eq hX hP rfl (tgt := 38) rfl (by first | decide | omega) (by first | decide | omega) (fun c7 => ?_) (fun c7 => ?_)
    · skip
      exfalso; omega
    · skip
      refine r_ex hX hP 2 (pc' := 20) (st' := [(0, t), (2, (Ad E 1))]) (lo' := [(0, (2, (Ad E 1))), (1, (0, f)), (2, (0, t)), (3, (0, p)), (4, (0, sh)), (5, (0, dl)), (6, (0, se)), (7, (0, k))]) rfl ?_
      refine r_callV gd hX hP rfl cv_12_324 hS (d' := 1) (mc' := 0) (ms' := 0) (as' := [(0, t)]) (st := []) (by first | decide | omega) (by first | decide | omega) (by first | decide | omega) rfl rfl (Nat.le_of_ble_eq_true rfl) (c_X12_isAccount E S (up (up G 1 (Ad E 1) 1 0) 1 (Ad E 1) 0 0) t hS accounts accounts_e (by first | decide | omega) (by first | decide | omega)) ?_
      rintro _ _ _ ⟨rfl, rfl, z8, rfl, (⟨rfl, f9, f10⟩ | ⟨rfl, f11⟩)⟩
      · skip
        refine r_if_eq hX hP rfl (tgt := 38) rfl (by first | decide | omega) (by first | decide | omega) (fun c12 => ?_) (fun c12 => ?_)
        · skip
          exfalso; omega
        · skip
          refine r_ex hX hP 2 (pc' := 28) (st' := [(0, t), (0, f)]) (lo' := [(0, (2, (Ad E 1))), (1, (0, f)), (2, (0, t)), (3, (0, p)), (4, (0, sh)), (5, (0, dl)), (6, (0, se)), (7, (0, k))]) rfl ?_
          refine r_ic_eq hX hP rfl (tgt := 38) rfl (by first | decide | omega) (by first | decide | omega) (by first | decide | omega) (by first | decide | omega) (fun c13 => ?_) (fun c13 => ?_)
          · skip
            refine r_ex hX hP 2 (pc' := 40) (st' := [(0, 1), (2, (Ad E 1))]) (lo' := [(0, (2, (Ad E 1))), (1, (0, f)), (2, (0, t)), (3, (0, p)), (4, (0, sh)), (5, (0, dl)), (6, (0, se)), (7, (0, k))]) rfl ?_
            refine r_callV gd hX hP rfl cv_12_327 hS (d' := 0) (mc' := 0) (ms' := 0) (as' := [(0, 1)]) (st := []) (by first | decide | omega) (by first | decide | omega) (by first | decide | omega) rfl rfl (Nat.le_of_ble_eq_true rfl) (c_X12_refuse E S (up (up G 1 (Ad E 1) 1 0) 1 (Ad E 1) 0 0) 1 hS (by first | decide | omega) (by first | decide | omega)) ?_
            rintro _ _ _ ⟨rfl, ⟨G14, rfl⟩, z15, rfl, rfl⟩
            have mi16 : MI E (hv [0] [] (up (up G 1 (Ad E 1) 1 0) 1 (Ad E 1) 0 0) G14) := mi_keep mi rfl rfl rfl rfl rfl rfl (fun _ => rfl) (fun _ => rfl) (fun _ => rfl) (fun _ => rfl) (fun _ => rfl) (fun _ => rfl) (fun _ => rfl) (fun _ => rfl) (fun _ => rfl) (fun _ => rfl) (fun _ => rfl) (fun _ => rfl) (fun _ => rfl)
            exact r_retI hX hP rfl rfl (by first | decide | omega) (by first | decide | omega) ⟨rfl, ⟨_, (hq_call (hq_up (hq_up (hq_refl _ _ _) rfl) rfl) rfl).symm⟩, (-1), rfl, trades, trades_e, latest, latest_e, (by first | decide | omega), (by first | decide | omega), (by first | decide | omega), (fun i hi => rfl), (Or.inl rfl), mi16⟩
          · skip
            refine r_ex hX hP 1 (pc' := 32) (st' := [(0, p)]) (lo' := [(0, (2, (Ad E 1))), (1, (0, f)), (2, (0, t)), (3, (0, p)), (4, (0, sh)), (5, (0, dl)), (6, (0, se)), (7, (0, k))]) rfl ?_
            refine r_callS gd hX hP rfl cs_12_331 (d' := 1) (mc' := 0) (ms' := 0) (as' := [(0, p)]) (st := []) (by first | decide | omega) (by first | decide | omega) (by first | decide | omega) rfl rfl (Nat.le_of_ble_eq_true rfl) (c_X12_isPaper E S (up (up G 1 (Ad E 1) 1 0) 1 (Ad E 1) 0 0) p (by first | decide | omega) (by first | decide | omega)) ?_
            rintro _ _ _ ⟨rfl, rfl, z17, rfl, (⟨rfl, f18, f19⟩ | ⟨rfl, f20⟩)⟩
            · skip
              refine r_if_ne hX hP rfl (tgt := 44) rfl (by first | decide | omega) (by first | decide | omega) (fun c21 => ?_) (fun c21 => ?_)
              · skip
                refine r_ex hX hP 2 (pc' := 47) (st' := [(0, 1), (0, sh)]) (lo' := [(0, (2, (Ad E 1))), (1, (0, f)), (2, (0, t)), (3, (0, p)), (4, (0, sh)), (5, (0, dl)), (6, (0, se)), (7, (0, k))]) rfl ?_
                refine r_ldcw hX hP rfl (v := 1000000) (tbg sg9 103 rfl rfl) ?_
                refine r_callS gd hX hP rfl cs_12_310 (d' := 0) (mc' := 0) (ms' := 0) (as' := [(0, sh), (0, 1), (0, 1000000)]) (st := []) (by first | decide | omega) (by first | decide | omega) (by first | decide | omega) rfl rfl (Nat.le_of_ble_eq_true rfl) (c_X12_isIn E S (up (up G 1 (Ad E 1) 1 0) 1 (Ad E 1) 0 0) sh 1 1000000 (by first | decide | omega) (by first | decide | omega) (by first | decide | omega) (by first | decide | omega) (by first | decide | omega) (by first | decide | omega)) ?_
                rintro _ _ _ ⟨rfl, rfl, z22, rfl, (⟨rfl, f23, f24⟩ | ⟨rfl, f25⟩)⟩
                · skip
                  refine r_if_eq hX hP rfl (tgt := 87) rfl (by first | decide | omega) (by first | decide | omega) (fun c26 => ?_) (fun c26 => ?_)
                  · skip
                    exfalso; omega
                  · skip
                    refine r_ex hX hP 1 (pc' := 58) (st' := [(0, dl)]) (lo' := [(0, (2, (Ad E 1))), (1, (0, f)), (2, (0, t)), (3, (0, p)), (4, (0, sh)), (5, (0, dl)), (6, (0, se)), (7, (0, k))]) rfl ?_
                    refine r_callS gd hX hP rfl cs_12_317 (d' := 1) (mc' := 0) (ms' := 0) (as' := [(0, dl)]) (st := []) (by first | decide | omega) (by first | decide | omega) (by first | decide | omega) rfl rfl (Nat.le_of_ble_eq_true rfl) (c_X12_isDay E S (up (up G 1 (Ad E 1) 1 0) 1 (Ad E 1) 0 0) dl (by first | decide | omega) (by first | decide | omega)) ?_
                    rintro _ _ _ ⟨rfl, rfl, z27, rfl, (⟨rfl, f28, f29⟩ | ⟨rfl, f30⟩)⟩
                    · skip
                      refine r_if_eq hX hP rfl (tgt := 87) rfl (by first | decide | omega) (by first | decide | omega) (fun c31 => ?_) (fun c31 => ?_)
                      · skip
                        exfalso; omega
                      · skip
                        refine r_ex hX hP 1 (pc' := 66) (st' := [(0, se)]) (lo' := [(0, (2, (Ad E 1))), (1, (0, f)), (2, (0, t)), (3, (0, p)), (4, (0, sh)), (5, (0, dl)), (6, (0, se)), (7, (0, k))]) rfl ?_
                        refine r_callS gd hX hP rfl cs_12_317 (d' := 1) (mc' := 0) (ms' := 0) (as' := [(0, se)]) (st := []) (by first | decide | omega) (by first | decide | omega) (by first | decide | omega) rfl rfl (Nat.le_of_ble_eq_true rfl) (c_X12_isDay E S (up (up G 1 (Ad E 1) 1 0) 1 (Ad E 1) 0 0) se (by first | decide | omega) (by first | decide | omega)) ?_
                        rintro _ _ _ ⟨rfl, rfl, z32, rfl, (⟨rfl, f33, f34⟩ | ⟨rfl, f35⟩)⟩
                        · skip
                          refine r_if_eq hX hP rfl (tgt := 87) rfl (by first | decide | omega) (by first | decide | omega) (fun c36 => ?_) (fun c36 => ?_)
                          · skip
                            exfalso; omega
                          · skip
                            refine r_ex hX hP 2 (pc' := 76) (st' := [(0, dl), (0, se)]) (lo' := [(0, (2, (Ad E 1))), (1, (0, f)), (2, (0, t)), (3, (0, p)), (4, (0, sh)), (5, (0, dl)), (6, (0, se)), (7, (0, k))]) rfl ?_
                            refine r_ic_lt hX hP rfl (tgt := 87) rfl (by first | decide | omega) (by first | decide | omega) (by first | decide | omega) (by first | decide | omega) (fun c37 => ?_) (fun c37 => ?_)
                            · skip
                              refine r_ex hX hP 2 (pc' := 89) (st' := [(0, 2), (2, (Ad E 1))]) (lo' := [(0, (2, (Ad E 1))), (1, (0, f)), (2, (0, t)), (3, (0, p)), (4, (0, sh)), (5, (0, dl)), (6, (0, se)), (7, (0, k))]) rfl ?_
                              refine r_callV gd hX hP rfl cv_12_327 hS (d' := 0) (mc' := 0) (ms' := 0) (as' := [(0, 2)]) (st := []) (by first | decide | omega) (by first | decide | omega) (by first | decide | omega) rfl rfl (Nat.le_of_ble_eq_true rfl) (c_X12_refuse E S (up (up G 1 (Ad E 1) 1 0) 1 (Ad E 1) 0 0) 2 hS (by first | decide | omega) (by first | decide | omega)) ?_
                              rintro _ _ _ ⟨rfl, ⟨G38, rfl⟩, z39, rfl, rfl⟩
                              have mi40 : MI E (hv [0] [] (up (up G 1 (Ad E 1) 1 0) 1 (Ad E 1) 0 0) G38) := mi_keep mi rfl rfl rfl rfl rfl rfl (fun _ => rfl) (fun _ => rfl) (fun _ => rfl) (fun _ => rfl) (fun _ => rfl) (fun _ => rfl) (fun _ => rfl) (fun _ => rfl) (fun _ => rfl) (fun _ => rfl) (fun _ => rfl) (fun _ => rfl) (fun _ => rfl)
                              exact r_retI hX hP rfl rfl (by first | decide | omega) (by first | decide | omega) ⟨rfl, ⟨_, (hq_call (hq_up (hq_up (hq_refl _ _ _) rfl) rfl) rfl).symm⟩, (-1), rfl, trades, trades_e, latest, latest_e, (by first | decide | omega), (by first | decide | omega), (by first | decide | omega), (fun i hi => rfl), (Or.inl rfl), mi40⟩
                            · skip
                              refine r_ex hX hP 1 (pc' := 81) (st' := [(0, k)]) (lo' := [(0, (2, (Ad E 1))), (1, (0, f)), (2, (0, t)), (3, (0, p)), (4, (0, sh)), (5, (0, dl)), (6, (0, se)), (7, (0, k))]) rfl ?_
                              refine r_callS gd hX hP rfl cs_12_317 (d' := 1) (mc' := 0) (ms' := 0) (as' := [(0, k)]) (st := []) (by first | decide | omega) (by first | decide | omega) (by first | decide | omega) rfl rfl (Nat.le_of_ble_eq_true rfl) (c_X12_isDay E S (up (up G 1 (Ad E 1) 1 0) 1 (Ad E 1) 0 0) k (by first | decide | omega) (by first | decide | omega)) ?_
                              rintro _ _ _ ⟨rfl, rfl, z41, rfl, (⟨rfl, f42, f43⟩ | ⟨rfl, f44⟩)⟩
                              · skip
                                refine r_if_ne hX hP rfl (tgt := 93) rfl (by first | decide | omega) (by first | decide | omega) (fun c45 => ?_) (fun c45 => ?_)
                                · skip
                                  refine r_ex hX hP 1 (pc' := 94) (st' := [(2, (Ad E 1))]) (lo' := [(0, (2, (Ad E 1))), (1, (0, f)), (2, (0, t)), (3, (0, p)), (4, (0, sh)), (5, (0, dl)), (6, (0, se)), (7, (0, k))]) rfl ?_
                                  refine r_getKI hX hP rfl fl_12_342 hS (x := trades) trades_e ?_
                                  refine r_ex hX hP 1 (pc' := 99) (st' := [(0, 40), (0, trades)]) (lo' := [(0, (2, (Ad E 1))), (1, (0, f)), (2, (0, t)), (3, (0, p)), (4, (0, sh)), (5, (0, dl)), (6, (0, se)), (7, (0, k))]) rfl ?_
                                  refine r_ic_ne hX hP rfl (tgt := 108) rfl (by first | decide | omega) (by first | decide | omega) (by first | decide | omega) (by first | decide | omega) (fun c46 => ?_) (fun c46 => ?_)
                                  · skip
                                    refine r_ex hX hP 2 (pc' := 111) (st' := [(2, (Ad E 1)), (0, k)]) (lo' := [(0, (2, (Ad E 1))), (1, (0, f)), (2, (0, t)), (3, (0, p)), (4, (0, sh)), (5, (0, dl)), (6, (0, se)), (7, (0, k))]) rfl ?_
                                    refine r_getKI hX hP rfl fl_12_339 hS (x := latest) latest_e ?_
                                    refine r_ic_ge hX hP rfl (tgt := 123) rfl (by first | decide | omega) (by first | decide | omega) (by first | decide | omega) (by first | decide | omega) (fun c47 => ?_) (fun c47 => ?_)
                                    · skip
                                      refine r_ex hX hP 1 (pc' := 124) (st' := [(2, (Ad E 1))]) (lo' := [(0, (2, (Ad E 1))), (1, (0, f)), (2, (0, t)), (3, (0, p)), (4, (0, sh)), (5, (0, dl)), (6, (0, se)), (7, (0, k))]) rfl ?_
                                      refine r_getC hX hP rfl fl_12_46 hS (fun s48 => ?_)
                                      refine r_ex hX hP 1 (pc' := 128) (st' := [(2, (Ad E 1)), (2, (Ad E 11))]) (lo' := [(0, (2, (Ad E 1))), (1, (0, f)), (2, (0, t)), (3, (0, p)), (4, (0, sh)), (5, (0, dl)), (6, (0, se)), (7, (0, k))]) rfl ?_
                                      refine r_getKI hX hP rfl fl_12_342 hS (x := trades) trades_e ?_
                                      refine r_ex hX hP 1 (pc' := 132) (st' := [(0, f), (0, trades), (2, (Ad E 11))]) (lo' := [(0, (2, (Ad E 1))), (1, (0, f)), (2, (0, t)), (3, (0, p)), (4, (0, sh)), (5, (0, dl)), (6, (0, se)), (7, (0, k))]) rfl ?_
                                      refine r_iastK hX hP rfl al_11 s48 (by first | decide | omega) (by first | decide | omega) (by first | decide | omega) (by first | decide | omega) (fun h49 => ?_)
                                      refine r_ex hX hP 1 (pc' := 134) (st' := [(2, (Ad E 1))]) (lo' := [(0, (2, (Ad E 1))), (1, (0, f)), (2, (0, t)), (3, (0, p)), (4, (0, sh)), (5, (0, dl)), (6, (0, se)), (7, (0, k))]) rfl ?_
                                      refine r_getC hX hP rfl fl_12_49 hS (fun s50 => ?_)
                                      refine r_ex hX hP 1 (pc' := 138) (st' := [(2, (Ad E 1)), (2, (Ad E 12))]) (lo' := [(0, (2, (Ad E 1))), (1, (0, f)), (2, (0, t)), (3, (0, p)), (4, (0, sh)), (5, (0, dl)), (6, (0, se)), (7, (0, k))]) rfl ?_
                                      refine r_getKI hX hP rfl fl_12_342 hS (x := trades) trades_e ?_
                                      refine r_ex hX hP 1 (pc' := 142) (st' := [(0, t), (0, trades), (2, (Ad E 12))]) (lo' := [(0, (2, (Ad E 1))), (1, (0, f)), (2, (0, t)), (3, (0, p)), (4, (0, sh)), (5, (0, dl)), (6, (0, se)), (7, (0, k))]) rfl ?_
                                      refine r_iastK hX hP rfl al_12 s50 (by first | decide | omega) (by first | decide | omega) (by first | decide | omega) (by first | decide | omega) (fun h51 => ?_)
                                      refine r_ex hX hP 1 (pc' := 144) (st' := [(2, (Ad E 1))]) (lo' := [(0, (2, (Ad E 1))), (1, (0, f)), (2, (0, t)), (3, (0, p)), (4, (0, sh)), (5, (0, dl)), (6, (0, se)), (7, (0, k))]) rfl ?_
                                      refine r_getC hX hP rfl fl_12_52 hS (fun s52 => ?_)
                                      refine r_ex hX hP 1 (pc' := 148) (st' := [(2, (Ad E 1)), (2, (Ad E 13))]) (lo' := [(0, (2, (Ad E 1))), (1, (0, f)), (2, (0, t)), (3, (0, p)), (4, (0, sh)), (5, (0, dl)), (6, (0, se)), (7, (0, k))]) rfl ?_
                                      refine r_getKI hX hP rfl fl_12_342 hS (x := trades) trades_e ?_
                                      refine r_ex hX hP 1 (pc' := 152) (st' := [(0, p), (0, trades), (2, (Ad E 13))]) (lo' := [(0, (2, (Ad E 1))), (1, (0, f)), (2, (0, t)), (3, (0, p)), (4, (0, sh)), (5, (0, dl)), (6, (0, se)), (7, (0, k))]) rfl ?_
                                      refine r_iastK hX hP rfl al_13 s52 (by first | decide | omega) (by first | decide | omega) (by first | decide | omega) (by first | decide | omega) (fun h53 => ?_)
                                      refine r_ex hX hP 1 (pc' := 154) (st' := [(2, (Ad E 1))]) (lo' := [(0, (2, (Ad E 1))), (1, (0, f)), (2, (0, t)), (3, (0, p)), (4, (0, sh)), (5, (0, dl)), (6, (0, se)), (7, (0, k))]) rfl ?_
                                      refine r_getC hX hP rfl fl_12_55 hS (fun s54 => ?_)
                                      refine r_ex hX hP 1 (pc' := 158) (st' := [(2, (Ad E 1)), (2, (Ad E 14))]) (lo' := [(0, (2, (Ad E 1))), (1, (0, f)), (2, (0, t)), (3, (0, p)), (4, (0, sh)), (5, (0, dl)), (6, (0, se)), (7, (0, k))]) rfl ?_
                                      refine r_getKI hX hP rfl fl_12_342 hS (x := trades) trades_e ?_
                                      refine r_ex hX hP 1 (pc' := 163) (st' := [(0, sh), (0, trades), (2, (Ad E 14))]) (lo' := [(0, (2, (Ad E 1))), (1, (0, f)), (2, (0, t)), (3, (0, p)), (4, (0, sh)), (5, (0, dl)), (6, (0, se)), (7, (0, k))]) rfl ?_
                                      refine r_iastK hX hP rfl al_14 s54 (by first | decide | omega) (by first | decide | omega) (by first | decide | omega) (by first | decide | omega) (fun h55 => ?_)
                                      refine r_ex hX hP 1 (pc' := 165) (st' := [(2, (Ad E 1))]) (lo' := [(0, (2, (Ad E 1))), (1, (0, f)), (2, (0, t)), (3, (0, p)), (4, (0, sh)), (5, (0, dl)), (6, (0, se)), (7, (0, k))]) rfl ?_
                                      refine r_getC hX hP rfl fl_12_58 hS (fun s56 => ?_)
                                      refine r_ex hX hP 1 (pc' := 169) (st' := [(2, (Ad E 1)), (2, (Ad E 15))]) (lo' := [(0, (2, (Ad E 1))), (1, (0, f)), (2, (0, t)), (3, (0, p)), (4, (0, sh)), (5, (0, dl)), (6, (0, se)), (7, (0, k))]) rfl ?_
                                      refine r_getKI hX hP rfl fl_12_342 hS (x := trades) trades_e ?_
                                      refine r_ex hX hP 1 (pc' := 174) (st' := [(0, dl), (0, trades), (2, (Ad E 15))]) (lo' := [(0, (2, (Ad E 1))), (1, (0, f)), (2, (0, t)), (3, (0, p)), (4, (0, sh)), (5, (0, dl)), (6, (0, se)), (7, (0, k))]) rfl ?_
                                      refine r_iastK hX hP rfl al_15 s56 (by first | decide | omega) (by first | decide | omega) (by first | decide | omega) (by first | decide | omega) (fun h57 => ?_)
                                      refine r_ex hX hP 1 (pc' := 176) (st' := [(2, (Ad E 1))]) (lo' := [(0, (2, (Ad E 1))), (1, (0, f)), (2, (0, t)), (3, (0, p)), (4, (0, sh)), (5, (0, dl)), (6, (0, se)), (7, (0, k))]) rfl ?_
                                      refine r_getC hX hP rfl fl_12_61 hS (fun s58 => ?_)
                                      refine r_ex hX hP 1 (pc' := 180) (st' := [(2, (Ad E 1)), (2, (Ad E 16))]) (lo' := [(0, (2, (Ad E 1))), (1, (0, f)), (2, (0, t)), (3, (0, p)), (4, (0, sh)), (5, (0, dl)), (6, (0, se)), (7, (0, k))]) rfl ?_
                                      refine r_getKI hX hP rfl fl_12_342 hS (x := trades) trades_e ?_
                                      refine r_ex hX hP 1 (pc' := 185) (st' := [(0, se), (0, trades), (2, (Ad E 16))]) (lo' := [(0, (2, (Ad E 1))), (1, (0, f)), (2, (0, t)), (3, (0, p)), (4, (0, sh)), (5, (0, dl)), (6, (0, se)), (7, (0, k))]) rfl ?_
                                      refine r_iastK hX hP rfl al_16 s58 (by first | decide | omega) (by first | decide | omega) (by first | decide | omega) (by first | decide | omega) (fun h59 => ?_)
                                      refine r_ex hX hP 1 (pc' := 187) (st' := [(2, (Ad E 1))]) (lo' := [(0, (2, (Ad E 1))), (1, (0, f)), (2, (0, t)), (3, (0, p)), (4, (0, sh)), (5, (0, dl)), (6, (0, se)), (7, (0, k))]) rfl ?_
                                      refine r_getC hX hP rfl fl_12_64 hS (fun s60 => ?_)
                                      refine r_ex hX hP 1 (pc' := 191) (st' := [(2, (Ad E 1)), (2, (Ad E 17))]) (lo' := [(0, (2, (Ad E 1))), (1, (0, f)), (2, (0, t)), (3, (0, p)), (4, (0, sh)), (5, (0, dl)), (6, (0, se)), (7, (0, k))]) rfl ?_
                                      refine r_getKI hX hP rfl fl_12_342 hS (x := trades) trades_e ?_
                                      refine r_ex hX hP 1 (pc' := 196) (st' := [(0, k), (0, trades), (2, (Ad E 17))]) (lo' := [(0, (2, (Ad E 1))), (1, (0, f)), (2, (0, t)), (3, (0, p)), (4, (0, sh)), (5, (0, dl)), (6, (0, se)), (7, (0, k))]) rfl ?_
                                      refine r_iastK hX hP rfl al_17 s60 (by first | decide | omega) (by first | decide | omega) (by first | decide | omega) (by first | decide | omega) (fun h61 => ?_)
                                      refine r_ex hX hP 1 (pc' := 198) (st' := [(2, (Ad E 1))]) (lo' := [(0, (2, (Ad E 1))), (1, (0, f)), (2, (0, t)), (3, (0, p)), (4, (0, sh)), (5, (0, dl)), (6, (0, se)), (7, (0, k))]) rfl ?_
                                      refine r_getC hX hP rfl fl_12_67 hS (fun s62 => ?_)
                                      refine r_ex hX hP 1 (pc' := 202) (st' := [(2, (Ad E 1)), (2, (Ad E 18))]) (lo' := [(0, (2, (Ad E 1))), (1, (0, f)), (2, (0, t)), (3, (0, p)), (4, (0, sh)), (5, (0, dl)), (6, (0, se)), (7, (0, k))]) rfl ?_
                                      refine r_getKI hX hP rfl fl_12_342 hS (x := trades) trades_e ?_
                                      refine r_ldcw hX hP rfl (v := 1000000000) (tbg sg9 109 rfl rfl) ?_
                                      refine r_iastK hX hP rfl al_18 s62 (by first | decide | omega) (by first | decide | omega) (by first | decide | omega) (by first | decide | omega) (fun h63 => ?_)
                                      refine r_ex hX hP 2 (pc' := 211) (st' := [(2, (Ad E 1)), (2, (Ad E 1))]) (lo' := [(0, (2, (Ad E 1))), (1, (0, f)), (2, (0, t)), (3, (0, p)), (4, (0, sh)), (5, (0, dl)), (6, (0, se)), (7, (0, k))]) rfl ?_
                                      refine r_getKI hX hP rfl fl_12_342 hS (x := trades) trades_e ?_
                                      refine r_ex hX hP 2 (pc' := 216) (st' := [(0, (trades + 1)), (2, (Ad E 1))]) (lo' := [(0, (2, (Ad E 1))), (1, (0, f)), (2, (0, t)), (3, (0, p)), (4, (0, sh)), (5, (0, dl)), (6, (0, se)), (7, (0, k))]) rfl ?_
                                      refine r_putIK hX hP rfl fp_12_342 hS (by first | decide | omega) (by first | decide | omega) (fun h64 => ?_)
                                      refine r_ex hX hP 2 (pc' := 222) (st' := [(0, k), (2, (Ad E 1))]) (lo' := [(0, (2, (Ad E 1))), (1, (0, f)), (2, (0, t)), (3, (0, p)), (4, (0, sh)), (5, (0, dl)), (6, (0, se)), (7, (0, k))]) rfl ?_
                                      refine r_putIK hX hP rfl fp_12_339 hS (by first | decide | omega) (by first | decide | omega) (fun h65 => ?_)
                                      refine r_ex hX hP 1 (pc' := 226) (st' := [(2, (Ad E 1))]) (lo' := [(0, (2, (Ad E 1))), (1, (0, f)), (2, (0, t)), (3, (0, p)), (4, (0, sh)), (5, (0, dl)), (6, (0, se)), (7, (0, k))]) rfl ?_
                                      refine r_getKI hX hP rfl fl_12_342 hS (x := (trades + 1)) h64 ?_
                                      refine r_ex hX hP 2 (pc' := 231) (st' := [(0, ((trades + 1) - 1))]) (lo' := [(0, (2, (Ad E 1))), (1, (0, f)), (2, (0, t)), (3, (0, p)), (4, (0, sh)), (5, (0, dl)), (6, (0, se)), (7, (0, k))]) rfl ?_
                                      exact r_retI hX hP rfl rfl (by first | decide | omega) (by first | decide | omega) ⟨rfl, ⟨_, (hq_up (hq_up (hq_up (hq_up (hq_up (hq_up (hq_up (hq_up (hq_up (hq_up (hq_up (hq_up (hq_refl _ _ _) rfl) rfl) rfl) rfl) rfl) rfl) rfl) rfl) rfl) rfl) rfl) rfl).symm⟩, ((trades + 1) - 1), rfl, (trades + 1), h64, k, h65, (by first | decide | omega), (by first | decide | omega), (by first | decide | omega), (fun i hi => ((show (up (up (up (up (up (up (up (up (up (up G 1 (Ad E 1) 1 0) 1 (Ad E 1) 0 0) 11 (Ad E 11) trades f) 12 (Ad E 12) trades t) 13 (Ad E 13) trades p) 14 (Ad E 14) trades sh) 15 (Ad E 15) trades dl) 16 (Ad E 16) trades se) 17 (Ad E 17) trades k) 18 (Ad E 18) trades 1000000000) 18 (Ad E 18) i = _ from up_ne (fun q => absurd q.2.2 (by first | decide | omega))).trans rfl)), (Or.inr (show (up (up (up (up (up (up (up (up (up (up G 1 (Ad E 1) 1 0) 1 (Ad E 1) 0 0) 11 (Ad E 11) trades f) 12 (Ad E 12) trades t) 13 (Ad E 13) trades p) 14 (Ad E 14) trades sh) 15 (Ad E 15) trades dl) 16 (Ad E 16) trades se) 17 (Ad E 17) trades k) 18 (Ad E 18) trades 1000000000) 18 (Ad E 18) trades = 1000000000 from up_self _ _ _ _ _)), (mi_trade mi trades_e (by first | decide | omega) rfl (up_self (up (up (up (up (up (up (up (up (up (up G 1 (Ad E 1) 1 0) 1 (Ad E 1) 0 0) 11 (Ad E 11) trades f) 12 (Ad E 12) trades t) 13 (Ad E 13) trades p) 14 (Ad E 14) trades sh) 15 (Ad E 15) trades dl) 16 (Ad E 16) trades se) 17 (Ad E 17) trades k) 18 (Ad E 18) trades 1000000000) 1 (Ad E 1) 8 (trades + 1)) rfl rfl rfl rfl (fun _ => rfl) (fun i hi => show (up (up (up (up (up (up G 1 (Ad E 1) 1 0) 1 (Ad E 1) 0 0) 11 (Ad E 11) trades f) 12 (Ad E 12) trades t) 13 (Ad E 13) trades p) 14 (Ad E 14) trades sh) 14 (Ad E 14) i = _ from up_ne (fun q => hi q.2.2)) (show (up (up (up (up (up (up G 1 (Ad E 1) 1 0) 1 (Ad E 1) 0 0) 11 (Ad E 11) trades f) 12 (Ad E 12) trades t) 13 (Ad E 13) trades p) 14 (Ad E 14) trades sh) 14 (Ad E 14) trades = _ from up_self _ _ _ _ _) (fun _ => rfl) (fun _ => rfl) (fun _ => rfl) (fun _ => rfl) (fun _ => rfl) (fun _ => rfl) (fun _ => rfl) (fun _ => rfl) (fun _ => rfl) (fun _ => rfl) (fun _ => rfl))⟩
                                    · skip
                                      refine r_ex hX hP 2 (pc' := 119) (st' := [(0, 4), (2, (Ad E 1))]) (lo' := [(0, (2, (Ad E 1))), (1, (0, f)), (2, (0, t)), (3, (0, p)), (4, (0, sh)), (5, (0, dl)), (6, (0, se)), (7, (0, k))]) rfl ?_
                                      refine r_callV gd hX hP rfl cv_12_327 hS (d' := 0) (mc' := 0) (ms' := 0) (as' := [(0, 4)]) (st := []) (by first | decide | omega) (by first | decide | omega) (by first | decide | omega) rfl rfl (Nat.le_of_ble_eq_true rfl) (c_X12_refuse E S (up (up G 1 (Ad E 1) 1 0) 1 (Ad E 1) 0 0) 4 hS (by first | decide | omega) (by first | decide | omega)) ?_
                                      rintro _ _ _ ⟨rfl, ⟨G66, rfl⟩, z67, rfl, rfl⟩
                                      have mi68 : MI E (hv [0] [] (up (up G 1 (Ad E 1) 1 0) 1 (Ad E 1) 0 0) G66) := mi_keep mi rfl rfl rfl rfl rfl rfl (fun _ => rfl) (fun _ => rfl) (fun _ => rfl) (fun _ => rfl) (fun _ => rfl) (fun _ => rfl) (fun _ => rfl) (fun _ => rfl) (fun _ => rfl) (fun _ => rfl) (fun _ => rfl) (fun _ => rfl) (fun _ => rfl)
                                      exact r_retI hX hP rfl rfl (by first | decide | omega) (by first | decide | omega) ⟨rfl, ⟨_, (hq_call (hq_up (hq_up (hq_refl _ _ _) rfl) rfl) rfl).symm⟩, (-1), rfl, trades, trades_e, latest, latest_e, (by first | decide | omega), (by first | decide | omega), (by first | decide | omega), (fun i hi => rfl), (Or.inl rfl), mi68⟩
                                  · skip
                                    refine r_ex hX hP 2 (pc' := 104) (st' := [(0, 3), (2, (Ad E 1))]) (lo' := [(0, (2, (Ad E 1))), (1, (0, f)), (2, (0, t)), (3, (0, p)), (4, (0, sh)), (5, (0, dl)), (6, (0, se)), (7, (0, k))]) rfl ?_
                                    refine r_callV gd hX hP rfl cv_12_327 hS (d' := 0) (mc' := 0) (ms' := 0) (as' := [(0, 3)]) (st := []) (by first | decide | omega) (by first | decide | omega) (by first | decide | omega) rfl rfl (Nat.le_of_ble_eq_true rfl) (c_X12_refuse E S (up (up G 1 (Ad E 1) 1 0) 1 (Ad E 1) 0 0) 3 hS (by first | decide | omega) (by first | decide | omega)) ?_
                                    rintro _ _ _ ⟨rfl, ⟨G69, rfl⟩, z70, rfl, rfl⟩
                                    have mi71 : MI E (hv [0] [] (up (up G 1 (Ad E 1) 1 0) 1 (Ad E 1) 0 0) G69) := mi_keep mi rfl rfl rfl rfl rfl rfl (fun _ => rfl) (fun _ => rfl) (fun _ => rfl) (fun _ => rfl) (fun _ => rfl) (fun _ => rfl) (fun _ => rfl) (fun _ => rfl) (fun _ => rfl) (fun _ => rfl) (fun _ => rfl) (fun _ => rfl) (fun _ => rfl)
                                    exact r_retI hX hP rfl rfl (by first | decide | omega) (by first | decide | omega) ⟨rfl, ⟨_, (hq_call (hq_up (hq_up (hq_refl _ _ _) rfl) rfl) rfl).symm⟩, (-1), rfl, trades, trades_e, latest, latest_e, (by first | decide | omega), (by first | decide | omega), (by first | decide | omega), (fun i hi => rfl), (Or.inl rfl), mi71⟩
                                · skip
                                  exfalso; omega
                              · skip
                                refine r_if_ne hX hP rfl (tgt := 93) rfl (by first | decide | omega) (by first | decide | omega) (fun c72 => ?_) (fun c72 => ?_)
                                · skip
                                  exfalso; omega
                                · skip
                                  refine r_ex hX hP 2 (pc' := 89) (st' := [(0, 2), (2, (Ad E 1))]) (lo' := [(0, (2, (Ad E 1))), (1, (0, f)), (2, (0, t)), (3, (0, p)), (4, (0, sh)), (5, (0, dl)), (6, (0, se)), (7, (0, k))]) rfl ?_
                                  refine r_callV gd hX hP rfl cv_12_327 hS (d' := 0) (mc' := 0) (ms' := 0) (as' := [(0, 2)]) (st := []) (by first | decide | omega) (by first | decide | omega) (by first | decide | omega) rfl rfl (Nat.le_of_ble_eq_true rfl) (c_X12_refuse E S (up (up G 1 (Ad E 1) 1 0) 1 (Ad E 1) 0 0) 2 hS (by first | decide | omega) (by first | decide | omega)) ?_
                                  rintro _ _ _ ⟨rfl, ⟨G73, rfl⟩, z74, rfl, rfl⟩
                                  have mi75 : MI E (hv [0] [] (up (up G 1 (Ad E 1) 1 0) 1 (Ad E 1) 0 0) G73) := mi_keep mi rfl rfl rfl rfl rfl rfl (fun _ => rfl) (fun _ => rfl) (fun _ => rfl) (fun _ => rfl) (fun _ => rfl) (fun _ => rfl) (fun _ => rfl) (fun _ => rfl) (fun _ => rfl) (fun _ => rfl) (fun _ => rfl) (fun _ => rfl) (fun _ => rfl)
                                  exact r_retI hX hP rfl rfl (by first | decide | omega) (by first | decide | omega) ⟨rfl, ⟨_, (hq_call (hq_up (hq_up (hq_refl _ _ _) rfl) rfl) rfl).symm⟩, (-1), rfl, trades, trades_e, latest, latest_e, (by first | decide | omega), (by first | decide | omega), (by first | decide | omega), (fun i hi => rfl), (Or.inl rfl), mi75⟩
                        · skip
                          refine r_if_eq hX hP rfl (tgt := 87) rfl (by first | decide | omega) (by first | decide | omega) (fun c76 => ?_) (fun c76 => ?_)
                          · skip
                            refine r_ex hX hP 2 (pc' := 89) (st' := [(0, 2), (2, (Ad E 1))]) (lo' := [(0, (2, (Ad E 1))), (1, (0, f)), (2, (0, t)), (3, (0, p)), (4, (0, sh)), (5, (0, dl)), (6, (0, se)), (7, (0, k))]) rfl ?_
                            refine r_callV gd hX hP rfl cv_12_327 hS (d' := 0) (mc' := 0) (ms' := 0) (as' := [(0, 2)]) (st := []) (by first | decide | omega) (by first | decide | omega) (by first | decide | omega) rfl rfl (Nat.le_of_ble_eq_true rfl) (c_X12_refuse E S (up (up G 1 (Ad E 1) 1 0) 1 (Ad E 1) 0 0) 2 hS (by first | decide | omega) (by first | decide | omega)) ?_
                            rintro _ _ _ ⟨rfl, ⟨G77, rfl⟩, z78, rfl, rfl⟩
                            have mi79 : MI E (hv [0] [] (up (up G 1 (Ad E 1) 1 0) 1 (Ad E 1) 0 0) G77) := mi_keep mi rfl rfl rfl rfl rfl rfl (fun _ => rfl) (fun _ => rfl) (fun _ => rfl) (fun _ => rfl) (fun _ => rfl) (fun _ => rfl) (fun _ => rfl) (fun _ => rfl) (fun _ => rfl) (fun _ => rfl) (fun _ => rfl) (fun _ => rfl) (fun _ => rfl)
                            exact r_retI hX hP rfl rfl (by first | decide | omega) (by first | decide | omega) ⟨rfl, ⟨_, (hq_call (hq_up (hq_up (hq_refl _ _ _) rfl) rfl) rfl).symm⟩, (-1), rfl, trades, trades_e, latest, latest_e, (by first | decide | omega), (by first | decide | omega), (by first | decide | omega), (fun i hi => rfl), (Or.inl rfl), mi79⟩
                          · skip
                            exfalso; omega
                    · skip
                      refine r_if_eq hX hP rfl (tgt := 87) rfl (by first | decide | omega) (by first | decide | omega) (fun c80 => ?_) (fun c80 => ?_)
                      · skip
                        refine r_ex hX hP 2 (pc' := 89) (st' := [(0, 2), (2, (Ad E 1))]) (lo' := [(0, (2, (Ad E 1))), (1, (0, f)), (2, (0, t)), (3, (0, p)), (4, (0, sh)), (5, (0, dl)), (6, (0, se)), (7, (0, k))]) rfl ?_
                        refine r_callV gd hX hP rfl cv_12_327 hS (d' := 0) (mc' := 0) (ms' := 0) (as' := [(0, 2)]) (st := []) (by first | decide | omega) (by first | decide | omega) (by first | decide | omega) rfl rfl (Nat.le_of_ble_eq_true rfl) (c_X12_refuse E S (up (up G 1 (Ad E 1) 1 0) 1 (Ad E 1) 0 0) 2 hS (by first | decide | omega) (by first | decide | omega)) ?_
                        rintro _ _ _ ⟨rfl, ⟨G81, rfl⟩, z82, rfl, rfl⟩
                        have mi83 : MI E (hv [0] [] (up (up G 1 (Ad E 1) 1 0) 1 (Ad E 1) 0 0) G81) := mi_keep mi rfl rfl rfl rfl rfl rfl (fun _ => rfl) (fun _ => rfl) (fun _ => rfl) (fun _ => rfl) (fun _ => rfl) (fun _ => rfl) (fun _ => rfl) (fun _ => rfl) (fun _ => rfl) (fun _ => rfl) (fun _ => rfl) (fun _ => rfl) (fun _ => rfl)
                        exact r_retI hX hP rfl rfl (by first | decide | omega) (by first | decide | omega) ⟨rfl, ⟨_, (hq_call (hq_up (hq_up (hq_refl _ _ _) rfl) rfl) rfl).symm⟩, (-1), rfl, trades, trades_e, latest, latest_e, (by first | decide | omega), (by first | decide | omega), (by first | decide | omega), (fun i hi => rfl), (Or.inl rfl), mi83⟩
                      · skip
                        exfalso; omega
                · skip
                  refine r_if_eq hX hP rfl (tgt := 87) rfl (by first | decide | omega) (by first | decide | omega) (fun c84 => ?_) (fun c84 => ?_)
                  · skip
                    refine r_ex hX hP 2 (pc' := 89) (st' := [(0, 2), (2, (Ad E 1))]) (lo' := [(0, (2, (Ad E 1))), (1, (0, f)), (2, (0, t)), (3, (0, p)), (4, (0, sh)), (5, (0, dl)), (6, (0, se)), (7, (0, k))]) rfl ?_
                    refine r_callV gd hX hP rfl cv_12_327 hS (d' := 0) (mc' := 0) (ms' := 0) (as' := [(0, 2)]) (st := []) (by first | decide | omega) (by first | decide | omega) (by first | decide | omega) rfl rfl (Nat.le_of_ble_eq_true rfl) (c_X12_refuse E S (up (up G 1 (Ad E 1) 1 0) 1 (Ad E 1) 0 0) 2 hS (by first | decide | omega) (by first | decide | omega)) ?_
                    rintro _ _ _ ⟨rfl, ⟨G85, rfl⟩, z86, rfl, rfl⟩
                    have mi87 : MI E (hv [0] [] (up (up G 1 (Ad E 1) 1 0) 1 (Ad E 1) 0 0) G85) := mi_keep mi rfl rfl rfl rfl rfl rfl (fun _ => rfl) (fun _ => rfl) (fun _ => rfl) (fun _ => rfl) (fun _ => rfl) (fun _ => rfl) (fun _ => rfl) (fun _ => rfl) (fun _ => rfl) (fun _ => rfl) (fun _ => rfl) (fun _ => rfl) (fun _ => rfl)
                    exact r_retI hX hP rfl rfl (by first | decide | omega) (by first | decide | omega) ⟨rfl, ⟨_, (hq_call (hq_up (hq_up (hq_refl _ _ _) rfl) rfl) rfl).symm⟩, (-1), rfl, trades, trades_e, latest, latest_e, (by first | decide | omega), (by first | decide | omega), (by first | decide | omega), (fun i hi => rfl), (Or.inl rfl), mi87⟩
                  · skip
                    exfalso; omega
              · skip
                exfalso; omega
            · skip
              refine r_if_ne hX hP rfl (tgt := 44) rfl (by first | decide | omega) (by first | decide | omega) (fun c88 => ?_) (fun c88 => ?_)
              · skip
                exfalso; omega
              · skip
                refine r_ex hX hP 2 (pc' := 40) (st' := [(0, 1), (2, (Ad E 1))]) (lo' := [(0, (2, (Ad E 1))), (1, (0, f)), (2, (0, t)), (3, (0, p)), (4, (0, sh)), (5, (0, dl)), (6, (0, se)), (7, (0, k))]) rfl ?_
                refine r_callV gd hX hP rfl cv_12_327 hS (d' := 0) (mc' := 0) (ms' := 0) (as' := [(0, 1)]) (st := []) (by first | decide | omega) (by first | decide | omega) (by first | decide | omega) rfl rfl (Nat.le_of_ble_eq_true rfl) (c_X12_refuse E S (up (up G 1 (Ad E 1) 1 0) 1 (Ad E 1) 0 0) 1 hS (by first | decide | omega) (by first | decide | omega)) ?_
                rintro _ _ _ ⟨rfl, ⟨G89, rfl⟩, z90, rfl, rfl⟩
                have mi91 : MI E (hv [0] [] (up (up G 1 (Ad E 1) 1 0) 1 (Ad E 1) 0 0) G89) := mi_keep mi rfl rfl rfl rfl rfl rfl (fun _ => rfl) (fun _ => rfl) (fun _ => rfl) (fun _ => rfl) (fun _ => rfl) (fun _ => rfl) (fun _ => rfl) (fun _ => rfl) (fun _ => rfl) (fun _ => rfl) (fun _ => rfl) (fun _ => rfl) (fun _ => rfl)
                exact r_retI hX hP rfl rfl (by first | decide | omega) (by first | decide | omega) ⟨rfl, ⟨_, (hq_call (hq_up (hq_up (hq_refl _ _ _) rfl) rfl) rfl).symm⟩, (-1), rfl, trades, trades_e, latest, latest_e, (by first | decide | omega), (by first | decide | omega), (by first | decide | omega), (fun i hi => rfl), (Or.inl rfl), mi91⟩
      · skip
        refine r_if_eq hX hP rfl (tgt := 38) rfl (by first | decide | omega) (by first | decide | omega) (fun c92 => ?_) (fun c92 => ?_)
        · skip
          refine r_ex hX hP 2 (pc' := 40) (st' := [(0, 1), (2, (Ad E 1))]) (lo' := [(0, (2, (Ad E 1))), (1, (0, f)), (2, (0, t)), (3, (0, p)), (4, (0, sh)), (5, (0, dl)), (6, (0, se)), (7, (0, k))]) rfl ?_
          refine r_callV gd hX hP rfl cv_12_327 hS (d' := 0) (mc' := 0) (ms' := 0) (as' := [(0, 1)]) (st := []) (by first | decide | omega) (by first | decide | omega) (by first | decide | omega) rfl rfl (Nat.le_of_ble_eq_true rfl) (c_X12_refuse E S (up (up G 1 (Ad E 1) 1 0) 1 (Ad E 1) 0 0) 1 hS (by first | decide | omega) (by first | decide | omega)) ?_
          rintro _ _ _ ⟨rfl, ⟨G93, rfl⟩, z94, rfl, rfl⟩
          have mi95 : MI E (hv [0] [] (up (up G 1 (Ad E 1) 1 0) 1 (Ad E 1) 0 0) G93) := mi_keep mi rfl rfl rfl rfl rfl rfl (fun _ => rfl) (fun _ => rfl) (fun _ => rfl) (fun _ => rfl) (fun _ => rfl) (fun _ => rfl) (fun _ => rfl) (fun _ => rfl) (fun _ => rfl) (fun _ => rfl) (fun _ => rfl) (fun _ => rfl) (fun _ => rfl)
          exact r_retI hX hP rfl rfl (by first | decide | omega) (by first | decide | omega) ⟨rfl, ⟨_, (hq_call (hq_up (hq_up (hq_refl _ _ _) rfl) rfl) rfl).symm⟩, (-1), rfl, trades, trades_e, latest, latest_e, (by first | decide | omega), (by first | decide | omega), (by first | decide | omega), (fun i hi => rfl), (Or.inl rfl), mi95⟩
        · skip
          exfalso; omega
  · skip
    refine r_if_eq hX hP rfl (tgt := 38) rfl (by first | decide | omega) (by first | decide | omega) (fun c96 => ?_) (fun c96 => ?_)
    · skip
      refine r_ex hX hP 2 (pc' := 40) (st' := [(0, 1), (2, (Ad E 1))]) (lo' := [(0, (2, (Ad E 1))), (1, (0, f)), (2, (0, t)), (3, (0, p)), (4, (0, sh)), (5, (0, dl)), (6, (0, se)), (7, (0, k))]) rfl ?_
      refine r_callV gd hX hP rfl cv_12_327 hS (d' := 0) (mc' := 0) (ms' := 0) (as' := [(0, 1)]) (st := []) (by first | decide | omega) (by first | decide | omega) (by first | decide | omega) rfl rfl (Nat.le_of_ble_eq_true rfl) (c_X12_refuse E S (up (up G 1 (Ad E 1) 1 0) 1 (Ad E 1) 0 0) 1 hS (by first | decide | omega) (by first | decide | omega)) ?_
      rintro _ _ _ ⟨rfl, ⟨G97, rfl⟩, z98, rfl, rfl⟩
      have mi99 : MI E (hv [0] [] (up (up G 1 (Ad E 1) 1 0) 1 (Ad E 1) 0 0) G97) := mi_keep mi rfl rfl rfl rfl rfl rfl (fun _ => rfl) (fun _ => rfl) (fun _ => rfl) (fun _ => rfl) (fun _ => rfl) (fun _ => rfl) (fun _ => rfl) (fun _ => rfl) (fun _ => rfl) (fun _ => rfl) (fun _ => rfl) (fun _ => rfl) (fun _ => rfl)
      exact r_retI hX hP rfl rfl (by first | decide | omega) (by first | decide | omega) ⟨rfl, ⟨_, (hq_call (hq_up (hq_up (hq_refl _ _ _) rfl) rfl) rfl).symm⟩, (-1), rfl, trades, trades_e, latest, latest_e, (by first | decide | omega), (by first | decide | omega), (by first | decide | omega), (fun i hi => rfl), (Or.inl rfl), mi99⟩
    · skip
      exfalso; omega
