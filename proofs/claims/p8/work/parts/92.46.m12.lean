set_option maxRecDepth 100000 in
set_option maxHeartbeats 4000000 in
theorem c_X12_inTimeS (E : En) (S : Sg) (G : Gh) (s : Int) (hS : S (Ad E 1) = 1) (says : Int) (says_e : says = G 1 (Ad E 1) 10) (s_a : 0 ≤ s) (s_b : s ≤ 59) (pre0 : s < says) (mi : MI E G) : Calls E mX12_inTime [(2, (Ad E 1)), (0, s)] S G 1 0 0 (fun r S' G' => S = S' ∧ G = G' ∧ ∃ z : Int, r = some (0, z) ∧ 0 ≤ z ∧ z ≤ 1 ∧ (z = 0 → Late E G' s)) := by
  refine calls_by [(0, (2, (Ad E 1))), (1, (0, s))] rfl rfl (Nat.le_of_ble_eq_true rfl) (fun X hX => ?_)
  have hP := hPX12_inTime
  refine r_peekI hX (tl1 10 rfl (by decide)) hS (fun says_o says_oe says_oa says_ob => ?_)
  obtain rfl : says = says_o := says_e.trans says_oe.symm
  refine r_ex hX hP 1 (pc' := 1) (st' := [(2, (Ad E 1))]) (lo' := [(0, (2, (Ad E 1))), (1, (0, s))]) rfl ?_
  refine r_getC hX hP rfl fl_12_137 hS (fun s1 => ?_)
  refine r_ex hX hP 1 (pc' := 5) (st' := [(0, s), (2, (Ad E 41))]) (lo' := [(0, (2, (Ad E 1))), (1, (0, s))]) rfl ?_
  refine r_iald hX hP rfl al_41 s1 (by first | decide | omega) (by first | decide | omega) (fun x2 x2e x2a x2b => ?_)
  refine r_ex hX hP 2 (pc' := 8) (st' := [(2, (Ad E 1)), (2, (Ad E 1)), (0, x2)]) (lo' := [(0, (2, (Ad E 1))), (1, (0, s))]) rfl ?_
  refine r_getC hX hP rfl fl_12_131 hS (fun s3 => ?_)
  refine r_ex hX hP 1 (pc' := 12) (st' := [(0, s), (2, (Ad E 39)), (2, (Ad E 1)), (0, x2)]) (lo' := [(0, (2, (Ad E 1))), (1, (0, s))]) rfl ?_
  refine r_iald hX hP rfl al_39 s3 (by first | decide | omega) (by first | decide | omega) (fun x4 x4e x4a x4b => ?_)
  refine r_peekI hX (tl1 6 rfl (by decide)) hS (fun acp5 acp5e acp5a acp5b => ?_)
  have x4m := mi_sayA mi says_e acp5e x4e (by first | decide | omega) (by first | decide | omega)
  refine r_callV gd hX hP rfl cv_12_503 hS (d' := 0) (mc' := 0) (ms' := 0) (as' := [(0, x4)]) (st := [(0, x2)]) (by first | decide | omega) (by first | decide | omega) (by first | decide | omega) rfl rfl (Nat.le_of_ble_eq_true rfl) (c_X12_daysUpS E S G x4 hS acp5 acp5e (by first | decide | omega) (by first | decide | omega) (by first | decide | omega) mi) ?_
  rintro _ _ _ ⟨rfl, rfl, z6, rfl, z6a, z6b, q7⟩
  refine r_ex hX hP 2 (pc' := 18) (st' := [(2, (Ad E 1)), (0, (x2 + z6))]) (lo' := [(0, (2, (Ad E 1))), (1, (0, s))]) rfl ?_
  refine r_getC hX hP rfl fl_12_83 hS (fun s8 => ?_)
  refine r_ex hX hP 1 (pc' := 22) (st' := [(2, (Ad E 1)), (2, (Ad E 23)), (0, (x2 + z6))]) (lo' := [(0, (2, (Ad E 1))), (1, (0, s))]) rfl ?_
  refine r_getC hX hP rfl fl_12_128 hS (fun s9 => ?_)
  refine r_ex hX hP 1 (pc' := 26) (st' := [(0, s), (2, (Ad E 38)), (2, (Ad E 23)), (0, (x2 + z6))]) (lo' := [(0, (2, (Ad E 1))), (1, (0, s))]) rfl ?_
  refine r_iald hX hP rfl al_38 s9 (by first | decide | omega) (by first | decide | omega) (fun x10 x10e x10a x10b => ?_)
  refine r_iald hX hP rfl al_23 s8 (by first | decide | omega) (by first | decide | omega) (fun x11 x11e x11a x11b => ?_)
  refine r_ic_gt hX hP rfl (tgt := 35) rfl (by first | decide | omega) (by first | decide | omega) (by first | decide | omega) (by first | decide | omega) (fun c12 => ?_) (fun c12 => ?_)
  · skip
    refine r_ex hX hP 1 (pc' := 36) (st' := [(0, 0)]) (lo' := [(0, (2, (Ad E 1))), (1, (0, s))]) rfl ?_
    exact r_retZ hX hP rfl rfl (by first | decide | omega) (by first | decide | omega) (by first | decide | omega) (by first | decide | omega) ⟨rfl, rfl, 0, rfl, (by first | decide | omega), (by first | decide | omega), (by first | (intro h; exfalso; omega) | exact fun _ => late_in (G := G) q7 x4e x2e x10e x11e (by first | decide | omega))⟩
  · skip
    refine r_ex hX hP 2 (pc' := 36) (st' := [(0, 1)]) (lo' := [(0, (2, (Ad E 1))), (1, (0, s))]) rfl ?_
    exact r_retZ hX hP rfl rfl (by first | decide | omega) (by first | decide | omega) (by first | decide | omega) (by first | decide | omega) ⟨rfl, rfl, 1, rfl, (by first | decide | omega), (by first | decide | omega), (by first | (intro h; exfalso; omega) | exact fun _ => late_in (G := G) q7 x4e x2e x10e x11e (by first | decide | omega))⟩
set_option maxRecDepth 100000 in
set_option maxHeartbeats 4000000 in
theorem c_X12_bears (E : En) (S : Sg) (G : Gh) (s : Int) (hS : S (Ad E 1) = 1) (says : Int) (says_e : says = G 1 (Ad E 1) 10) (accounts : Int) (accounts_e : accounts = G 1 (Ad E 1) 6) (s_a : (-2147483648) ≤ s) (s_b : s ≤ 2147483647) (mi : MI E G) : Calls E mX12_bears [(2, (Ad E 1)), (0, s)] S G 2 0 0 (fun r S' G' => S = S' ∧ (∃ G1, hv [0, 1] [] G G1 = G') ∧ ∃ z : Int, r = some (0, z) ∧ (-2147483648) ≤ z ∧ z ≤ 2147483647) := by
  refine calls_by [(0, (2, (Ad E 1))), (1, (0, s))] rfl rfl (Nat.le_of_ble_eq_true rfl) (fun X hX => ?_)
  have hP := hPX12_bears
  refine r_peekI hX (tl1 10 rfl (by decide)) hS (fun says_o says_oe says_oa says_ob => ?_)
  obtain rfl : says = says_o := says_e.trans says_oe.symm
  refine r_peekI hX (tl1 6 rfl (by decide)) hS (fun accounts_o accounts_oe accounts_oa accounts_ob => ?_)
  obtain rfl : accounts = accounts_o := accounts_e.trans accounts_oe.symm
  refine r_ex hX hP 2 (pc' := 2) (st' := [(0, 0), (2, (Ad E 1))]) (lo' := [(0, (2, (Ad E 1))), (1, (0, s))]) rfl ?_
  refine r_putIK hX hP rfl fp_12_304 hS (by first | decide | omega) (by first | decide | omega) (fun h1 => ?_)
  refine r_ex hX hP 2 (pc' := 7) (st' := [(0, 0), (2, (Ad E 1))]) (lo' := [(0, (2, (Ad E 1))), (1, (0, s))]) rfl ?_
  refine r_putIK hX hP rfl fp_12_307 hS (by first | decide | omega) (by first | decide | omega) (fun h2 => ?_)
  refine r_ex hX hP 3 (pc' := 13) (st' := [(2, (Ad E 1)), (0, 0), (0, s)]) (lo' := [(0, (2, (Ad E 1))), (1, (0, s))]) rfl ?_
  refine r_getKI hX hP rfl fl_12_496 hS (x := says) says_e ?_
  refine r_ex hX hP 2 (pc' := 18) (st' := [(0, (says - 1)), (0, 0), (0, s)]) (lo' := [(0, (2, (Ad E 1))), (1, (0, s))]) rfl ?_
  refine r_callS gd hX hP rfl cs_12_310 (d' := 0) (mc' := 0) (ms' := 0) (as' := [(0, s), (0, 0), (0, (says - 1))]) (st := []) (by first | decide | omega) (by first | decide | omega) (by first | decide | omega) rfl rfl (Nat.le_of_ble_eq_true rfl) (c_X12_isIn E S (up (up G 1 (Ad E 1) 1 0) 1 (Ad E 1) 0 0) s 0 (says - 1) (by first | decide | omega) (by first | decide | omega) (by first | decide | omega) (by first | decide | omega) (by first | decide | omega) (by first | decide | omega)) ?_
  rintro _ _ _ ⟨rfl, rfl, z3, rfl, (⟨rfl, f4, f5⟩ | ⟨rfl, f6⟩)⟩
  · skip
    refine r_if_ne hX hP rfl (tgt := 30) rfl (by first | decide | omega) (by first | decide | omega) (fun c7 => ?_) (fun c7 => ?_)
    · skip
      refine r_ex hX hP 2 (pc' := 32) (st' := [(0, s), (2, (Ad E 1))]) (lo' := [(0, (2, (Ad E 1))), (1, (0, s))]) rfl ?_
      refine r_callV gd hX hP rfl cv_12_506 hS (d' := 1) (mc' := 0) (ms' := 0) (as' := [(0, s)]) (st := []) (by first | decide | omega) (by first | decide | omega) (by first | decide | omega) rfl rfl (Nat.le_of_ble_eq_true rfl) (c_X12_sayCounts E S (up (up G 1 (Ad E 1) 1 0) 1 (Ad E 1) 0 0) s hS (by first | decide | omega) (by first | decide | omega)) ?_
      rintro _ _ _ ⟨rfl, rfl, z8, rfl, z8a, z8b⟩
      refine r_if_eq hX hP rfl (tgt := 51) rfl (by first | decide | omega) (by first | decide | omega) (fun c9 => ?_) (fun c9 => ?_)
      · skip
        refine r_ex hX hP 2 (pc' := 54) (st' := [(0, 7), (2, (Ad E 1))]) (lo' := [(0, (2, (Ad E 1))), (1, (0, s))]) rfl ?_
        refine r_callV gd hX hP rfl cv_12_327 hS (d' := 0) (mc' := 0) (ms' := 0) (as' := [(0, 7)]) (st := []) (by first | decide | omega) (by first | decide | omega) (by first | decide | omega) rfl rfl (Nat.le_of_ble_eq_true rfl) (c_X12_refuse E S (up (up G 1 (Ad E 1) 1 0) 1 (Ad E 1) 0 0) 7 hS (by first | decide | omega) (by first | decide | omega)) ?_
        rintro _ _ _ ⟨rfl, ⟨G10, rfl⟩, z11, rfl, rfl⟩
        exact r_retI hX hP rfl rfl (by first | decide | omega) (by first | decide | omega) ⟨rfl, ⟨_, (hq_call (hq_up (hq_up (hq_refl _ _ _) rfl) rfl) rfl).symm⟩, (-1), rfl, (by first | decide | omega)⟩
      · skip
        refine r_ex hX hP 2 (pc' := 40) (st' := [(2, (Ad E 1)), (2, (Ad E 1))]) (lo' := [(0, (2, (Ad E 1))), (1, (0, s))]) rfl ?_
        refine r_getC hX hP rfl fl_12_128 hS (fun s12 => ?_)
        refine r_ex hX hP 1 (pc' := 44) (st' := [(0, s), (2, (Ad E 38)), (2, (Ad E 1))]) (lo' := [(0, (2, (Ad E 1))), (1, (0, s))]) rfl ?_
        refine r_iald hX hP rfl al_38 s12 (by first | decide | omega) (by first | decide | omega) (fun x13 x13e x13a x13b => ?_)
        refine r_callV gd hX hP rfl cv_12_512 hS (d' := 1) (mc' := 0) (ms' := 0) (as' := [(0, x13)]) (st := []) (by first | decide | omega) (by first | decide | omega) (by first | decide | omega) rfl rfl (Nat.le_of_ble_eq_true rfl) (c_X12_eventCounts E S (up (up G 1 (Ad E 1) 1 0) 1 (Ad E 1) 0 0) x13 hS (by first | decide | omega) (by first | decide | omega)) ?_
        rintro _ _ _ ⟨rfl, rfl, z14, rfl, z14a, z14b⟩
        refine r_if_ne hX hP rfl (tgt := 58) rfl (by first | decide | omega) (by first | decide | omega) (fun c15 => ?_) (fun c15 => ?_)
        · skip
          refine r_ex hX hP 1 (pc' := 59) (st' := [(2, (Ad E 1))]) (lo' := [(0, (2, (Ad E 1))), (1, (0, s))]) rfl ?_
          refine r_getC hX hP rfl fl_12_131 hS (fun s16 => ?_)
          refine r_ex hX hP 1 (pc' := 63) (st' := [(0, s), (2, (Ad E 39))]) (lo' := [(0, (2, (Ad E 1))), (1, (0, s))]) rfl ?_
          refine r_iald hX hP rfl al_39 s16 (by first | decide | omega) (by first | decide | omega) (fun x17 x17e x17a x17b => ?_)
          have mi18 : MI E (up (up G 1 (Ad E 1) 1 0) 1 (Ad E 1) 0 0) := mi_keep mi rfl rfl rfl rfl rfl rfl (fun _ => rfl) (fun _ => rfl) (fun _ => rfl) (fun _ => rfl) (fun _ => rfl) (fun _ => rfl) (fun _ => rfl) (fun _ => rfl) (fun _ => rfl) (fun _ => rfl) (fun _ => rfl) (fun _ => rfl) (fun _ => rfl)
          have x17m := mi_sayA mi18 says_e accounts_e x17e (by first | decide | omega) (by first | decide | omega)
          refine r_ex hX hP 3 (pc' := 67) (st' := [(0, s), (2, (Ad E 1))]) (lo' := [(0, (2, (Ad E 1))), (1, (0, s)), (2, (0, x17))]) rfl ?_
          refine r_callV gd hX hP rfl cv_12_509 hS (d' := 1) (mc' := 0) (ms' := 0) (as' := [(0, s)]) (st := []) (by first | decide | omega) (by first | decide | omega) (by first | decide | omega) rfl rfl (Nat.le_of_ble_eq_true rfl) (c_X12_inTimeS E S (up (up G 1 (Ad E 1) 1 0) 1 (Ad E 1) 0 0) s hS says says_e (by first | decide | omega) (by first | decide | omega) (by first | decide | omega) mi18) ?_
          rintro _ _ _ ⟨rfl, rfl, z19, rfl, z19a, z19b, q20⟩
          refine r_if_ne hX hP rfl (tgt := 99) rfl (by first | decide | omega) (by first | decide | omega) (fun c21 => ?_) (fun c21 => ?_)
          · skip
            refine r_ex hX hP 2 (pc' := 101) (st' := [(0, 5), (2, (Ad E 1))]) (lo' := [(0, (2, (Ad E 1))), (1, (0, s)), (2, (0, x17))]) rfl ?_
            refine r_callV gd hX hP rfl cv_12_327 hS (d' := 0) (mc' := 0) (ms' := 0) (as' := [(0, 5)]) (st := []) (by first | decide | omega) (by first | decide | omega) (by first | decide | omega) rfl rfl (Nat.le_of_ble_eq_true rfl) (c_X12_refuse E S (up (up G 1 (Ad E 1) 1 0) 1 (Ad E 1) 0 0) 5 hS (by first | decide | omega) (by first | decide | omega)) ?_
            rintro _ _ _ ⟨rfl, ⟨G22, rfl⟩, z23, rfl, rfl⟩
            exact r_retI hX hP rfl rfl (by first | decide | omega) (by first | decide | omega) ⟨rfl, ⟨_, (hq_call (hq_up (hq_up (hq_refl _ _ _) rfl) rfl) rfl).symm⟩, (-1), rfl, (by first | decide | omega)⟩
          · skip
            refine r_ex hX hP 1 (pc' := 74) (st' := [(2, (Ad E 1))]) (lo' := [(0, (2, (Ad E 1))), (1, (0, s)), (2, (0, x17))]) rfl ?_
            refine r_getC hX hP rfl fl_12_137 hS (fun s24 => ?_)
            refine r_ex hX hP 1 (pc' := 78) (st' := [(0, s), (2, (Ad E 41))]) (lo' := [(0, (2, (Ad E 1))), (1, (0, s)), (2, (0, x17))]) rfl ?_
            refine r_iald hX hP rfl al_41 s24 (by first | decide | omega) (by first | decide | omega) (fun x25 x25e x25a x25b => ?_)
            refine r_ex hX hP 1 (pc' := 80) (st' := [(2, (Ad E 1)), (0, x25)]) (lo' := [(0, (2, (Ad E 1))), (1, (0, s)), (2, (0, x17))]) rfl ?_
            refine r_getC hX hP rfl fl_12_83 hS (fun s26 => ?_)
            refine r_ex hX hP 1 (pc' := 84) (st' := [(2, (Ad E 1)), (2, (Ad E 23)), (0, x25)]) (lo' := [(0, (2, (Ad E 1))), (1, (0, s)), (2, (0, x17))]) rfl ?_
            refine r_getC hX hP rfl fl_12_128 hS (fun _ => ?_)
            refine r_ex hX hP 1 (pc' := 88) (st' := [(0, s), (2, (Ad E 38)), (2, (Ad E 23)), (0, x25)]) (lo' := [(0, (2, (Ad E 1))), (1, (0, s)), (2, (0, x17))]) rfl ?_
            refine r_ialdK hX hP rfl al_38 s12 (by first | decide | omega) (by first | decide | omega) (x := x13) x13e ?_
            refine r_iald hX hP rfl al_23 s26 (by first | decide | omega) (by first | decide | omega) (fun x27 x27e x27a x27b => ?_)
            refine r_ex hX hP 2 (pc' := 92) (st' := [(0, x17), (2, (Ad E 1)), (0, x27), (0, x25)]) (lo' := [(0, (2, (Ad E 1))), (1, (0, s)), (2, (0, x17))]) rfl ?_
            refine r_callV gd hX hP rfl cv_12_518 hS (d' := 0) (mc' := 0) (ms' := 0) (as' := [(0, x17)]) (st := [(0, x27), (0, x25)]) (by first | decide | omega) (by first | decide | omega) (by first | decide | omega) rfl rfl (Nat.le_of_ble_eq_true rfl) (c_X12_leadsUpS E S (up (up G 1 (Ad E 1) 1 0) 1 (Ad E 1) 0 0) x17 hS accounts accounts_e (by first | decide | omega) (by first | decide | omega) (by first | decide | omega) mi18) ?_
            rintro _ _ _ ⟨rfl, rfl, z28, rfl, z28a, z28b, q29⟩
            refine r_ex hX hP 1 (pc' := 96) (st' := [(0, (x27 - z28)), (0, x25)]) (lo' := [(0, (2, (Ad E 1))), (1, (0, s)), (2, (0, x17))]) rfl ?_
            refine r_ic_le hX hP rfl (tgt := 105) rfl (by first | decide | omega) (by first | decide | omega) (by first | decide | omega) (by first | decide | omega) (fun c30 => ?_) (fun c30 => ?_)
            · skip
              refine r_ex hX hP 1 (pc' := 106) (st' := [(2, (Ad E 1))]) (lo' := [(0, (2, (Ad E 1))), (1, (0, s)), (2, (0, x17))]) rfl ?_
              refine r_getC hX hP rfl fl_12_18 hS (fun s31 => ?_)
              refine r_ex hX hP 1 (pc' := 110) (st' := [(0, x17), (2, (Ad E 2))]) (lo' := [(0, (2, (Ad E 1))), (1, (0, s)), (2, (0, x17))]) rfl ?_
              refine r_iald hX hP rfl al_2 s31 (by first | decide | omega) (by first | decide | omega) (fun x32 x32e x32a x32b => ?_)
              have x32m := mi_hand mi18 accounts_e x32e (by first | decide | omega) (by first | decide | omega)
              refine r_if_ge hX hP rfl (tgt := 118) rfl (by first | decide | omega) (by first | decide | omega) (fun c33 => ?_) (fun c33 => ?_)
              · skip
                refine r_ex hX hP 1 (pc' := 119) (st' := [(2, (Ad E 1))]) (lo' := [(0, (2, (Ad E 1))), (1, (0, s)), (2, (0, x17))]) rfl ?_
                refine r_getC hX hP rfl fl_12_18 hS (fun _ => ?_)
                refine r_ex hX hP 1 (pc' := 123) (st' := [(0, x17), (2, (Ad E 2))]) (lo' := [(0, (2, (Ad E 1))), (1, (0, s)), (2, (0, x17))]) rfl ?_
                refine r_ialdK hX hP rfl al_2 s31 (by first | decide | omega) (by first | decide | omega) (x := x32) x32e ?_
                refine r_ex hX hP 1 (pc' := 125) (st' := []) (lo' := [(0, (2, (Ad E 1))), (1, (0, s)), (2, (0, x17)), (3, (0, x32))]) rfl ?_
                have loop125 : ∀ (nF : Nat) (l3_h125 : Int), (-1) ≤ l3_h125 → l3_h125 ≤ 19 → l3_h125 < accounts → Mor E (up (up G 1 (Ad E 1) 1 0) 1 (Ad E 1) 0 0) 4 3 l3_h125 → l3_h125 + 1 < (nF : Int) → X 0 0 125 [] [(0, (2, (Ad E 1))), (1, (0, s)), (2, (0, x17)), (3, (0, l3_h125))] S (up (up G 1 (Ad E 1) 1 0) 1 (Ad E 1) 0 0) := by
                  intro nF
                  induction nF with
                  | zero => intro l3_h125 yh125_0 yh125_1 yh125_2 yh125_3 ym125; exfalso; omega
                  | succ nF ih125 =>
                    intro l3_h125 yh125_0 yh125_1 yh125_2 yh125_3 ym125
                    refine r_ex hX hP 1 (pc' := 126) (st' := [(2, (Ad E 1))]) (lo' := [(0, (2, (Ad E 1))), (1, (0, s)), (2, (0, x17)), (3, (0, l3_h125))]) rfl ?_
                    have hpos := mor_pos yh125_3
                    refine r_getC hX hP rfl fl_12_25 hS (fun s34 => ?_)
                    refine r_ex hX hP 1 (pc' := 130) (st' := [(0, l3_h125), (2, (Ad E 4))]) (lo' := [(0, (2, (Ad E 1))), (1, (0, s)), (2, (0, x17)), (3, (0, l3_h125))]) rfl ?_
                    refine r_iald hX hP rfl al_4 s34 (by first | decide | omega) (by first | decide | omega) (fun x35 x35e x35a x35b => ?_)
                    refine r_ex hX hP 1 (pc' := 132) (st' := [(2, (Ad E 1)), (0, x35)]) (lo' := [(0, (2, (Ad E 1))), (1, (0, s)), (2, (0, x17)), (3, (0, l3_h125))]) rfl ?_
                    refine r_getC hX hP rfl fl_12_22 hS (fun s36 => ?_)
                    refine r_ex hX hP 1 (pc' := 136) (st' := [(0, l3_h125), (2, (Ad E 3)), (0, x35)]) (lo' := [(0, (2, (Ad E 1))), (1, (0, s)), (2, (0, x17)), (3, (0, l3_h125))]) rfl ?_
                    refine r_iald hX hP rfl al_3 s36 (by first | decide | omega) (by first | decide | omega) (fun x37 x37e x37a x37b => ?_)
                    refine r_ic_gt hX hP rfl (tgt := 150) rfl (by first | decide | omega) (by first | decide | omega) (by first | decide | omega) (by first | decide | omega) (fun c38 => ?_) (fun c38 => ?_)
                    · skip
                      refine r_ex hX hP 1 (pc' := 151) (st' := [(0, l3_h125)]) (lo' := [(0, (2, (Ad E 1))), (1, (0, s)), (2, (0, x17)), (3, (0, l3_h125))]) rfl ?_
                      exact r_retI hX hP rfl rfl (by first | decide | omega) (by first | decide | omega) ⟨rfl, ⟨_, (hq_up (hq_up (hq_refl _ _ _) rfl) rfl).symm⟩, l3_h125, rfl, (by first | decide | omega)⟩
                    · skip
                      refine r_ex hX hP 1 (pc' := 141) (st' := [(2, (Ad E 1))]) (lo' := [(0, (2, (Ad E 1))), (1, (0, s)), (2, (0, x17)), (3, (0, l3_h125))]) rfl ?_
                      refine r_getC hX hP rfl fl_12_18 hS (fun _ => ?_)
                      refine r_ex hX hP 1 (pc' := 145) (st' := [(0, l3_h125), (2, (Ad E 2))]) (lo' := [(0, (2, (Ad E 1))), (1, (0, s)), (2, (0, x17)), (3, (0, l3_h125))]) rfl ?_
                      refine r_iald hX hP rfl al_2 s31 (by first | decide | omega) (by first | decide | omega) (fun x39 x39e x39a x39b => ?_)
                      have x39m := mi_hand mi18 accounts_e x39e (by first | decide | omega) (by first | decide | omega)
                      refine r_ex hX hP 2 (pc' := 125) (st' := []) (lo' := [(0, (2, (Ad E 1))), (1, (0, s)), (2, (0, x17)), (3, (0, x39))]) rfl ?_
                      exact ih125 x39 (by first | decide | omega) (by first | decide | omega) (by first | decide | omega) (mor_step yh125_3 x35e x37e (by first | decide | omega) x39e) (by first | decide | omega)
                exact loop125 ((x32 + 1) + 1 : Int).toNat x32 (by first | decide | omega) (by first | decide | omega) (by first | decide | omega) (bear_in (G := (up (up G 1 (Ad E 1) 1 0) 1 (Ad E 1) 0 0)) (q20 (by first | decide | omega)) q29 x17e x25e x13e x27e (by first | decide | omega) x32e (by first | decide | omega)) (by first | decide | omega)
              · skip
                refine r_ex hX hP 3 (pc' := 125) (st' := []) (lo' := [(0, (2, (Ad E 1))), (1, (0, s)), (2, (0, x17)), (3, (0, x17))]) rfl ?_
                have loop125 : ∀ (nF : Nat) (l3_h125 : Int), (-1) ≤ l3_h125 → l3_h125 ≤ 19 → l3_h125 < accounts → Mor E (up (up G 1 (Ad E 1) 1 0) 1 (Ad E 1) 0 0) 4 3 l3_h125 → l3_h125 + 1 < (nF : Int) → X 0 0 125 [] [(0, (2, (Ad E 1))), (1, (0, s)), (2, (0, x17)), (3, (0, l3_h125))] S (up (up G 1 (Ad E 1) 1 0) 1 (Ad E 1) 0 0) := by
                  intro nF
                  induction nF with
                  | zero => intro l3_h125 yh125_0 yh125_1 yh125_2 yh125_3 ym125; exfalso; omega
                  | succ nF ih125 =>
                    intro l3_h125 yh125_0 yh125_1 yh125_2 yh125_3 ym125
                    refine r_ex hX hP 1 (pc' := 126) (st' := [(2, (Ad E 1))]) (lo' := [(0, (2, (Ad E 1))), (1, (0, s)), (2, (0, x17)), (3, (0, l3_h125))]) rfl ?_
                    have hpos := mor_pos yh125_3
                    refine r_getC hX hP rfl fl_12_25 hS (fun s40 => ?_)
                    refine r_ex hX hP 1 (pc' := 130) (st' := [(0, l3_h125), (2, (Ad E 4))]) (lo' := [(0, (2, (Ad E 1))), (1, (0, s)), (2, (0, x17)), (3, (0, l3_h125))]) rfl ?_
                    refine r_iald hX hP rfl al_4 s40 (by first | decide | omega) (by first | decide | omega) (fun x41 x41e x41a x41b => ?_)
                    refine r_ex hX hP 1 (pc' := 132) (st' := [(2, (Ad E 1)), (0, x41)]) (lo' := [(0, (2, (Ad E 1))), (1, (0, s)), (2, (0, x17)), (3, (0, l3_h125))]) rfl ?_
                    refine r_getC hX hP rfl fl_12_22 hS (fun s42 => ?_)
                    refine r_ex hX hP 1 (pc' := 136) (st' := [(0, l3_h125), (2, (Ad E 3)), (0, x41)]) (lo' := [(0, (2, (Ad E 1))), (1, (0, s)), (2, (0, x17)), (3, (0, l3_h125))]) rfl ?_
                    refine r_iald hX hP rfl al_3 s42 (by first | decide | omega) (by first | decide | omega) (fun x43 x43e x43a x43b => ?_)
                    refine r_ic_gt hX hP rfl (tgt := 150) rfl (by first | decide | omega) (by first | decide | omega) (by first | decide | omega) (by first | decide | omega) (fun c44 => ?_) (fun c44 => ?_)
                    · skip
                      refine r_ex hX hP 1 (pc' := 151) (st' := [(0, l3_h125)]) (lo' := [(0, (2, (Ad E 1))), (1, (0, s)), (2, (0, x17)), (3, (0, l3_h125))]) rfl ?_
                      exact r_retI hX hP rfl rfl (by first | decide | omega) (by first | decide | omega) ⟨rfl, ⟨_, (hq_up (hq_up (hq_refl _ _ _) rfl) rfl).symm⟩, l3_h125, rfl, (by first | decide | omega)⟩
                    · skip
                      refine r_ex hX hP 1 (pc' := 141) (st' := [(2, (Ad E 1))]) (lo' := [(0, (2, (Ad E 1))), (1, (0, s)), (2, (0, x17)), (3, (0, l3_h125))]) rfl ?_
                      refine r_getC hX hP rfl fl_12_18 hS (fun _ => ?_)
                      refine r_ex hX hP 1 (pc' := 145) (st' := [(0, l3_h125), (2, (Ad E 2))]) (lo' := [(0, (2, (Ad E 1))), (1, (0, s)), (2, (0, x17)), (3, (0, l3_h125))]) rfl ?_
                      refine r_iald hX hP rfl al_2 s31 (by first | decide | omega) (by first | decide | omega) (fun x45 x45e x45a x45b => ?_)
                      have x45m := mi_hand mi18 accounts_e x45e (by first | decide | omega) (by first | decide | omega)
                      refine r_ex hX hP 2 (pc' := 125) (st' := []) (lo' := [(0, (2, (Ad E 1))), (1, (0, s)), (2, (0, x17)), (3, (0, x45))]) rfl ?_
                      exact ih125 x45 (by first | decide | omega) (by first | decide | omega) (by first | decide | omega) (mor_step yh125_3 x41e x43e (by first | decide | omega) x45e) (by first | decide | omega)
                exact loop125 ((x17 + 1) + 1 : Int).toNat x17 (by first | decide | omega) (by first | decide | omega) (by first | decide | omega) (bear_in (G := (up (up G 1 (Ad E 1) 1 0) 1 (Ad E 1) 0 0)) (q20 (by first | decide | omega)) q29 x17e x25e x13e x27e (by first | decide | omega) x32e (by first | decide | omega)) (by first | decide | omega)
            · skip
              refine r_ex hX hP 2 (pc' := 101) (st' := [(0, 5), (2, (Ad E 1))]) (lo' := [(0, (2, (Ad E 1))), (1, (0, s)), (2, (0, x17))]) rfl ?_
              refine r_callV gd hX hP rfl cv_12_327 hS (d' := 0) (mc' := 0) (ms' := 0) (as' := [(0, 5)]) (st := []) (by first | decide | omega) (by first | decide | omega) (by first | decide | omega) rfl rfl (Nat.le_of_ble_eq_true rfl) (c_X12_refuse E S (up (up G 1 (Ad E 1) 1 0) 1 (Ad E 1) 0 0) 5 hS (by first | decide | omega) (by first | decide | omega)) ?_
              rintro _ _ _ ⟨rfl, ⟨G46, rfl⟩, z47, rfl, rfl⟩
              exact r_retI hX hP rfl rfl (by first | decide | omega) (by first | decide | omega) ⟨rfl, ⟨_, (hq_call (hq_up (hq_up (hq_refl _ _ _) rfl) rfl) rfl).symm⟩, (-1), rfl, (by first | decide | omega)⟩
        · skip
          refine r_ex hX hP 2 (pc' := 54) (st' := [(0, 7), (2, (Ad E 1))]) (lo' := [(0, (2, (Ad E 1))), (1, (0, s))]) rfl ?_
          refine r_callV gd hX hP rfl cv_12_327 hS (d' := 0) (mc' := 0) (ms' := 0) (as' := [(0, 7)]) (st := []) (by first | decide | omega) (by first | decide | omega) (by first | decide | omega) rfl rfl (Nat.le_of_ble_eq_true rfl) (c_X12_refuse E S (up (up G 1 (Ad E 1) 1 0) 1 (Ad E 1) 0 0) 7 hS (by first | decide | omega) (by first | decide | omega)) ?_
          rintro _ _ _ ⟨rfl, ⟨G48, rfl⟩, z49, rfl, rfl⟩
          exact r_retI hX hP rfl rfl (by first | decide | omega) (by first | decide | omega) ⟨rfl, ⟨_, (hq_call (hq_up (hq_up (hq_refl _ _ _) rfl) rfl) rfl).symm⟩, (-1), rfl, (by first | decide | omega)⟩
    · skip
      exfalso; omega
  · skip
    refine r_if_ne hX hP rfl (tgt := 30) rfl (by first | decide | omega) (by first | decide | omega) (fun c50 => ?_) (fun c50 => ?_)
    · skip
      exfalso; omega
    · skip
      refine r_ex hX hP 2 (pc' := 26) (st' := [(0, 1), (2, (Ad E 1))]) (lo' := [(0, (2, (Ad E 1))), (1, (0, s))]) rfl ?_
      refine r_callV gd hX hP rfl cv_12_327 hS (d' := 0) (mc' := 0) (ms' := 0) (as' := [(0, 1)]) (st := []) (by first | decide | omega) (by first | decide | omega) (by first | decide | omega) rfl rfl (Nat.le_of_ble_eq_true rfl) (c_X12_refuse E S (up (up G 1 (Ad E 1) 1 0) 1 (Ad E 1) 0 0) 1 hS (by first | decide | omega) (by first | decide | omega)) ?_
      rintro _ _ _ ⟨rfl, ⟨G51, rfl⟩, z52, rfl, rfl⟩
      exact r_retI hX hP rfl rfl (by first | decide | omega) (by first | decide | omega) ⟨rfl, ⟨_, (hq_call (hq_up (hq_up (hq_refl _ _ _) rfl) rfl) rfl).symm⟩, (-1), rfl, (by first | decide | omega)⟩
