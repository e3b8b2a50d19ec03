set_option maxRecDepth 100000 in
set_option maxHeartbeats 4000000 in
theorem c_X6_fractionR (E : En) (S : Sg) (G : Gh) (this : Int) (hS : S this = 131) (tx : Int) (tx_e : tx = G 131 this 9) (tx_s : S tx = 136) (s0 : Int) (s0_e : s0 = G 136 tx 0) (td : Int) (td_e : td = G 131 this 10) (pre0 : s0 + 1 ≤ td) (ci : CI E S G) (TT : Tp) (nn : Int) (sr : Rg) (rd : RdC TT nn sr G this tx) : Calls E mX6_fraction [(2, this)] S G 5 0 0 (fun r S' G' => S = S' ∧ (∃ G1, hw [(119, -1), (120, -1), (121, -1), (122, -1), (123, -1), (131, 1), (131, 2), (131, 5), (131, 6), (131, 7), (131, 8), (136, 0)] G G1 = G') ∧ r = none ∧ ∃ s1 : Int, s1 = G' 136 tx 0 ∧ s1 ≤ s0 + 1 ∧ CI E S G' ∧ RdC TT nn (pFr TT nn sr) G' this tx) := by
  refine calls_by [(0, (2, this))] rfl rfl (Nat.le_of_ble_eq_true rfl) (fun X hX => ?_)
  have hP := hPX6_fraction
  refine r_peekI hX (tl_136 0 rfl (by decide)) tx_s (fun s0_o s0_oe s0_oa s0_ob => ?_)
  obtain rfl : s0 = s0_o := s0_e.trans s0_oe.symm
  refine r_peekI hX (tl_131 10 rfl (by decide)) hS (fun td_o td_oe td_oa td_ob => ?_)
  obtain rfl : td = td_o := td_e.trans td_oe.symm
  have k1 := s0_e.trans (rq_size rd)
  have k2 := td_e.trans (rq_told rd)
  refine r_ex hX hP 2 (pc' := 2) (st' := [(0, 1), (2, this)]) (lo' := [(0, (2, this))]) rfl ?_
  refine r_peekI hX (tl_131 1 rfl (by decide)) hS (fun flp3 flp3e flp3a flp3b => ?_)
  have k4 := rq_flaw rd
  have k4 := flp3e.trans k4
  refine r_callV gd hX hP rfl cv_X6_95_131 hS (d' := 1) (mc' := 0) (ms' := 0) (as' := [(0, 1)]) (st := []) (by first | decide | omega) (by first | decide | omega) (by first | decide | omega) rfl rfl (Nat.le_of_ble_eq_true rfl) (c_X6_expectR E S G this 1 hS tx tx_e tx_s flp3 flp3e (by first | decide | omega) (by first | decide | omega) TT nn sr rd) ?_
  rintro _ _ _ ⟨rfl, ⟨G5, rfl⟩, z6, rfl, flh7, flh7e, (⟨rfl, f9, f10, f11⟩ | ⟨rfl, f12⟩), f8⟩
  · skip
    have k13 := congrArg (tkK TT nn) (pEx_0 TT nn 1 sr)
    have k14 := congrArg (tkV TT nn) (pEx_0 TT nn 1 sr)
    have k15 := congrArg (tkS TT nn) (pEx_0 TT nn 1 sr)
    have k16 := congrArg (tkE TT nn) (pEx_0 TT nn 1 sr)
    have k17 := rq_flaw f8
    have k17 := flh7e.trans k17
    refine r_peekI hX (tl_131 1 rfl (by decide)) hS (fun o18 o18e o18a o18b => ?_)
    obtain rfl : flh7 = o18 := flh7e.trans o18e.symm
    refine r_if_ne hX hP rfl (tgt := 9) rfl (by first | decide | omega) (by first | decide | omega) (fun c19 => ?_) (fun c19 => ?_)
    · skip
      refine r_ex hX hP 5 (pc' := 14) (st' := [(2, this)]) (lo' := [(0, (2, this)), (1, (0, 0)), (2, (0, (-1)))]) rfl ?_
      refine r_ldcS hX hP rfl (k := 12) (by decide) rfl rfl ?_
      refine r_peekI hX (tl_131 5 rfl (by decide)) hS (fun atp20 atp20e atp20a atp20b => ?_)
      have k21 := rq_at f8
      have k21 := atp20e.trans k21
      refine r_peekI hX (tl_131 7 rfl (by decide)) hS (fun stp22 stp22e stp22a stp22b => ?_)
      have k23 := rq_start f8
      have k23 := stp22e.trans k23
      refine r_callV gd hX hP rfl cv_X6_98_131 hS (d' := 4) (mc' := 0) (ms' := 0) (as' := [(2, (sK E 12))]) (st := []) (by first | decide | omega) (by first | decide | omega) (by first | decide | omega) rfl rfl (Nat.le_of_ble_eq_true rfl) (c_X6_isR E S (hw [(131, 1), (131, 2)] G G5) this 12 hS (by decide) tx tx_e tx_s atp20 atp20e stp22 stp22e TT nn (pEx TT nn 1 sr) f8) ?_
      rintro _ _ _ ⟨rfl, rfl, z24, rfl, z24a, z24b, f25, f26⟩
      refine r_if_eq hX hP rfl (tgt := 27) rfl (by first | decide | omega) (by first | decide | omega) (fun c27 => ?_) (fun c27 => ?_)
      · skip
        refine r_ex hX hP 1 (pc' := 28) (st' := [(2, this)]) (lo' := [(0, (2, this)), (1, (0, 0)), (2, (0, (-1)))]) rfl ?_
        refine r_ldcS hX hP rfl (k := 13) (by decide) rfl rfl ?_
        refine r_callV gd hX hP rfl cv_X6_98_131 hS (d' := 4) (mc' := 0) (ms' := 0) (as' := [(2, (sK E 13))]) (st := []) (by first | decide | omega) (by first | decide | omega) (by first | decide | omega) rfl rfl (Nat.le_of_ble_eq_true rfl) (c_X6_isR E S (hw [(131, 1), (131, 2)] G G5) this 13 hS (by decide) tx tx_e tx_s atp20 atp20e stp22 stp22e TT nn (pEx TT nn 1 sr) f26) ?_
        rintro _ _ _ ⟨rfl, rfl, z28, rfl, z28a, z28b, f29, f30⟩
        refine r_if_eq hX hP rfl (tgt := 41) rfl (by first | decide | omega) (by first | decide | omega) (fun c31 => ?_) (fun c31 => ?_)
        · skip
          refine r_ex hX hP 1 (pc' := 42) (st' := [(2, this)]) (lo' := [(0, (2, this)), (1, (0, 0)), (2, (0, (-1)))]) rfl ?_
          refine r_ldcS hX hP rfl (k := 14) (by decide) rfl rfl ?_
          refine r_callV gd hX hP rfl cv_X6_98_131 hS (d' := 4) (mc' := 0) (ms' := 0) (as' := [(2, (sK E 14))]) (st := []) (by first | decide | omega) (by first | decide | omega) (by first | decide | omega) rfl rfl (Nat.le_of_ble_eq_true rfl) (c_X6_isR E S (hw [(131, 1), (131, 2)] G G5) this 14 hS (by decide) tx tx_e tx_s atp20 atp20e stp22 stp22e TT nn (pEx TT nn 1 sr) f30) ?_
          rintro _ _ _ ⟨rfl, rfl, z32, rfl, z32a, z32b, f33, f34⟩
          refine r_if_eq hX hP rfl (tgt := 55) rfl (by first | decide | omega) (by first | decide | omega) (fun c35 => ?_) (fun c35 => ?_)
          · skip
            refine r_ex hX hP 1 (pc' := 56) (st' := [(2, this)]) (lo' := [(0, (2, this)), (1, (0, 0)), (2, (0, (-1)))]) rfl ?_
            refine r_ldcS hX hP rfl (k := 3) (by decide) rfl rfl ?_
            refine r_callV gd hX hP rfl cv_X6_98_131 hS (d' := 4) (mc' := 0) (ms' := 0) (as' := [(2, (sK E 3))]) (st := []) (by first | decide | omega) (by first | decide | omega) (by first | decide | omega) rfl rfl (Nat.le_of_ble_eq_true rfl) (c_X6_isR E S (hw [(131, 1), (131, 2)] G G5) this 3 hS (by decide) tx tx_e tx_s atp20 atp20e stp22 stp22e TT nn (pEx TT nn 1 sr) f34) ?_
            rintro _ _ _ ⟨rfl, rfl, z36, rfl, z36a, z36b, f37, f38⟩
            refine r_if_eq hX hP rfl (tgt := 69) rfl (by first | decide | omega) (by first | decide | omega) (fun c39 => ?_) (fun c39 => ?_)
            · skip
              refine r_ex hX hP 2 (pc' := 71) (st' := [(0, 2), (2, this)]) (lo' := [(0, (2, this)), (1, (0, 0)), (2, (0, (-1)))]) rfl ?_
              refine r_callV gd hX hP rfl cv_X6_44_131 hS (d' := 0) (mc' := 0) (ms' := 0) (as' := [(0, 2)]) (st := []) (by first | decide | omega) (by first | decide | omega) (by first | decide | omega) rfl rfl (Nat.le_of_ble_eq_true rfl) (c_X6_failR E S (hw [(131, 1), (131, 2)] G G5) this 2 hS tx tx_e tx_s (by first | decide | omega) (by first | decide | omega) TT nn (pEx TT nn 1 sr) f38) ?_
              rintro _ _ _ ⟨rfl, ⟨G40, rfl⟩, z41, rfl, flh42, flh42e, rfl, f43, f44⟩
              have k45 := rq_flaw f44
              have k45 := flh42e.trans k45
              refine r_peekI hX (tl_131 1 rfl (by decide)) hS (fun o46 o46e o46a o46b => ?_)
              obtain rfl : flh42 = o46 := flh42e.trans o46e.symm
              refine r_ex hX hP 1 (pc' := 75) (st' := []) (lo' := [(0, (2, this)), (1, (0, 0)), (2, (0, (-1)))]) rfl ?_
              have hC47 : pFl TT nn 2 (pEx TT nn 1 sr) = pFr TT nn sr := by
                unfold pFr; (repeat (first | rw [if_pos (by first | decide | omega)] | rw [if_neg (by first | decide | omega)])); try rfl
              have hC471 : (pFr TT nn sr) 1 = (pFl TT nn 2 (pEx TT nn 1 sr)) 1 := congrFun hC47.symm 1
              have ci48 : CI E S (hw [(131, 1), (131, 2)] (hw [(131, 1), (131, 2)] G G5) G40) := (ci_hw (ci_hw ci rfl) rfl)
              exact r_retV hX hP rfl rfl (by first | decide | omega) (by first | decide | omega) ⟨rfl, ⟨_, (hw_sub (hw_sub (hw_refl _ _) rfl) rfl).symm⟩, rfl, s0, s0_e, (by first | decide | omega), ci48, (rd_cast f44 hC47)⟩
            · skip
              refine r_ex hX hP 4 (pc' := 77) (st' := [(2, this)]) (lo' := [(0, (2, this)), (1, (0, 0)), (2, (0, 3))]) rfl ?_
              refine r_callV gd hX hP rfl cv_X6_80_131 hS (d' := 1) (mc' := 0) (ms' := 0) (as' := []) (st := []) (by first | decide | omega) (by first | decide | omega) (by first | decide | omega) rfl rfl (Nat.le_of_ble_eq_true rfl) (c_X6_advanceR E S (hw [(131, 1), (131, 2)] G G5) this  hS tx tx_e tx_s TT nn (pEx TT nn 1 sr) f38) ?_
              rintro _ _ _ ⟨rfl, ⟨G49, rfl⟩, rfl, f50⟩
              have k51 := (show pAv TT nn (pEx TT nn 1 sr) 1 = (pEx TT nn 1 sr) 1 from rfl)
              refine r_ex hX hP 2 (pc' := 82) (st' := [(0, 3), (0, 3)]) (lo' := [(0, (2, this)), (1, (0, 0)), (2, (0, 3))]) rfl ?_
              refine r_ic_ne hX hP rfl (tgt := 93) rfl (by first | decide | omega) (by first | decide | omega) (by first | decide | omega) (by first | decide | omega) (fun c52 => ?_) (fun c52 => ?_)
              · skip
                exfalso; omega
              · skip
                refine r_ex hX hP 2 (pc' := 87) (st' := [(0, 0), (2, this)]) (lo' := [(0, (2, this)), (1, (0, 0)), (2, (0, 3))]) rfl ?_
                refine r_ldc hX hP rfl (v := 9999999) (tbg sg4 166 rfl rfl) ?_
                refine r_callV gd hX hP rfl cv_X6_196_131 hS (d' := 2) (mc' := 0) (ms' := 0) (as' := [(0, 0), (0, 9999999)]) (st := []) (by first | decide | omega) (by first | decide | omega) (by first | decide | omega) rfl rfl (Nat.le_of_ble_eq_true rfl) (c_X6_numberR E S (hw [(131, 5), (131, 6), (131, 7), (131, 8)] (hw [(131, 1), (131, 2)] G G5) G49) this 0 9999999 hS tx tx_e tx_s flh7 flh7e (by first | decide | omega) (by first | decide | omega) (by first | decide | omega) (by first | decide | omega) TT nn (pAv TT nn (pEx TT nn 1 sr)) f50) ?_
                rintro _ _ _ ⟨rfl, ⟨G53, rfl⟩, z54, rfl, flh55, flh55e, z54a, z54b, f56, f57⟩
                have k58 := rq_flaw f57
                have k58 := flh55e.trans k58
                refine r_peekI hX (tl_131 1 rfl (by decide)) hS (fun o59 o59e o59a o59b => ?_)
                obtain rfl : flh55 = o59 := flh55e.trans o59e.symm
                refine r_ex hX hP 3 (pc' := 96) (st' := [(0, 59), (2, this)]) (lo' := [(0, (2, this)), (1, (0, z54)), (2, (0, 3))]) rfl ?_
                refine r_callV gd hX hP rfl cv_X6_116_131 hS (d' := 2) (mc' := 0) (ms' := 0) (as' := [(0, 59)]) (st := []) (by first | decide | omega) (by first | decide | omega) (by first | decide | omega) rfl rfl (Nat.le_of_ble_eq_true rfl) (c_X6_signR E S (hw [(131, 1), (131, 2), (131, 5), (131, 6), (131, 7), (131, 8)] (hw [(131, 5), (131, 6), (131, 7), (131, 8)] (hw [(131, 1), (131, 2)] G G5) G49) G53) this 59 hS tx tx_e tx_s flh55 flh55e (by first | decide | omega) (by first | decide | omega) TT nn (pNb TT nn 0 9999999 (pAv TT nn (pEx TT nn 1 sr))) f57) ?_
                rintro _ _ _ ⟨rfl, ⟨G60, rfl⟩, z61, rfl, flh62, flh62e, z61a, z61b, f63, f64, f65⟩
                have k66 := pSg_1 TT nn 59 (pNb TT nn 0 9999999 (pAv TT nn (pEx TT nn 1 sr)))
                have k67 := rq_flaw f65
                have k67 := flh62e.trans k67
                refine r_peekI hX (tl_131 1 rfl (by decide)) hS (fun o68 o68e o68a o68b => ?_)
                obtain rfl : flh62 = o68 := flh62e.trans o68e.symm
                refine r_ex hX hP 6 (pc' := 105) (st' := [(0, z54), (0, (-1)), (0, 3), (0, 5), (2, this)]) (lo' := [(0, (2, this)), (1, (0, z54)), (2, (0, 3))]) rfl ?_
                have ci69 : CI E S (hw [(131, 1), (131, 2), (131, 5), (131, 6), (131, 7), (131, 8)] (hw [(131, 1), (131, 2), (131, 5), (131, 6), (131, 7), (131, 8)] (hw [(131, 5), (131, 6), (131, 7), (131, 8)] (hw [(131, 1), (131, 2)] G G5) G49) G53) G60) := (ci_hw (ci_hw (ci_hw (ci_hw ci rfl) rfl) rfl) rfl)
                refine r_callV gd hX hP rfl cv_X6_206_131 hS (d' := 1) (mc' := 0) (ms' := 0) (as' := [(0, 5), (0, 3), (0, (-1)), (0, z54)]) (st := []) (by first | decide | omega) (by first | decide | omega) (by first | decide | omega) rfl rfl (Nat.le_of_ble_eq_true rfl) (c_X6_storeR E S (hw [(131, 1), (131, 2), (131, 5), (131, 6), (131, 7), (131, 8)] (hw [(131, 1), (131, 2), (131, 5), (131, 6), (131, 7), (131, 8)] (hw [(131, 5), (131, 6), (131, 7), (131, 8)] (hw [(131, 1), (131, 2)] G G5) G49) G53) G60) this 5 3 (-1) z54 hS tx tx_e tx_s s0 s0_e flh62 flh62e (by first | decide | omega) (by first | decide | omega) (by first | decide | omega) (by first | decide | omega) (by first | decide | omega) (by first | decide | omega) (by first | decide | omega) (by first | decide | omega) (by first | decide | omega) ci69 TT nn (pSg TT nn 59 (pNb TT nn 0 9999999 (pAv TT nn (pEx TT nn 1 sr)))) f65) ?_
                rintro _ _ _ ⟨rfl, ⟨G70, rfl⟩, rfl, sih71, sih71e, f72, ci73, f74⟩
                have k75 := rq_size f74
                have k75 := sih71e.trans k75
                refine r_peekI hX (tl_136 0 rfl (by decide)) tx_s (fun o76 o76e o76a o76b => ?_)
                obtain rfl : sih71 = o76 := sih71e.trans o76e.symm
                have hC77 : pSt (pSg TT nn 59 (pNb TT nn 0 9999999 (pAv TT nn (pEx TT nn 1 sr)))) = pFr TT nn sr := by
                  unfold pFr; (repeat (first | rw [if_pos (by first | decide | omega)] | rw [if_neg (by first | decide | omega)])); try rfl
                have hC771 : (pFr TT nn sr) 1 = (pSt (pSg TT nn 59 (pNb TT nn 0 9999999 (pAv TT nn (pEx TT nn 1 sr))))) 1 := congrFun hC77.symm 1
                exact r_retV hX hP rfl rfl (by first | decide | omega) (by first | decide | omega) ⟨rfl, ⟨_, (hw_sub (hw_sub (hw_sub (hw_sub (hw_sub (hw_refl _ _) rfl) rfl) rfl) rfl) rfl).symm⟩, rfl, sih71, sih71e, (by first | decide | omega), ci73, (rd_cast f74 hC77)⟩
          · skip
            refine r_ex hX hP 4 (pc' := 77) (st' := [(2, this)]) (lo' := [(0, (2, this)), (1, (0, 0)), (2, (0, 2))]) rfl ?_
            refine r_callV gd hX hP rfl cv_X6_80_131 hS (d' := 1) (mc' := 0) (ms' := 0) (as' := []) (st := []) (by first | decide | omega) (by first | decide | omega) (by first | decide | omega) rfl rfl (Nat.le_of_ble_eq_true rfl) (c_X6_advanceR E S (hw [(131, 1), (131, 2)] G G5) this  hS tx tx_e tx_s TT nn (pEx TT nn 1 sr) f34) ?_
            rintro _ _ _ ⟨rfl, ⟨G78, rfl⟩, rfl, f79⟩
            have k80 := (show pAv TT nn (pEx TT nn 1 sr) 1 = (pEx TT nn 1 sr) 1 from rfl)
            refine r_ex hX hP 2 (pc' := 82) (st' := [(0, 3), (0, 2)]) (lo' := [(0, (2, this)), (1, (0, 0)), (2, (0, 2))]) rfl ?_
            refine r_ic_ne hX hP rfl (tgt := 93) rfl (by first | decide | omega) (by first | decide | omega) (by first | decide | omega) (by first | decide | omega) (fun c81 => ?_) (fun c81 => ?_)
            · skip
              refine r_ex hX hP 2 (pc' := 96) (st' := [(0, 59), (2, this)]) (lo' := [(0, (2, this)), (1, (0, 0)), (2, (0, 2))]) rfl ?_
              refine r_callV gd hX hP rfl cv_X6_116_131 hS (d' := 2) (mc' := 0) (ms' := 0) (as' := [(0, 59)]) (st := []) (by first | decide | omega) (by first | decide | omega) (by first | decide | omega) rfl rfl (Nat.le_of_ble_eq_true rfl) (c_X6_signR E S (hw [(131, 5), (131, 6), (131, 7), (131, 8)] (hw [(131, 1), (131, 2)] G G5) G78) this 59 hS tx tx_e tx_s flh7 flh7e (by first | decide | omega) (by first | decide | omega) TT nn (pAv TT nn (pEx TT nn 1 sr)) f79) ?_
              rintro _ _ _ ⟨rfl, ⟨G82, rfl⟩, z83, rfl, flh84, flh84e, z83a, z83b, f85, f86, f87⟩
              have k88 := pSg_1 TT nn 59 (pAv TT nn (pEx TT nn 1 sr))
              have k89 := rq_flaw f87
              have k89 := flh84e.trans k89
              refine r_peekI hX (tl_131 1 rfl (by decide)) hS (fun o90 o90e o90a o90b => ?_)
              obtain rfl : flh84 = o90 := flh84e.trans o90e.symm
              refine r_ex hX hP 6 (pc' := 105) (st' := [(0, 0), (0, (-1)), (0, 2), (0, 5), (2, this)]) (lo' := [(0, (2, this)), (1, (0, 0)), (2, (0, 2))]) rfl ?_
              have ci91 : CI E S (hw [(131, 1), (131, 2), (131, 5), (131, 6), (131, 7), (131, 8)] (hw [(131, 5), (131, 6), (131, 7), (131, 8)] (hw [(131, 1), (131, 2)] G G5) G78) G82) := (ci_hw (ci_hw (ci_hw ci rfl) rfl) rfl)
              refine r_callV gd hX hP rfl cv_X6_206_131 hS (d' := 1) (mc' := 0) (ms' := 0) (as' := [(0, 5), (0, 2), (0, (-1)), (0, 0)]) (st := []) (by first | decide | omega) (by first | decide | omega) (by first | decide | omega) rfl rfl (Nat.le_of_ble_eq_true rfl) (c_X6_storeR E S (hw [(131, 1), (131, 2), (131, 5), (131, 6), (131, 7), (131, 8)] (hw [(131, 5), (131, 6), (131, 7), (131, 8)] (hw [(131, 1), (131, 2)] G G5) G78) G82) this 5 2 (-1) 0 hS tx tx_e tx_s s0 s0_e flh84 flh84e (by first | decide | omega) (by first | decide | omega) (by first | decide | omega) (by first | decide | omega) (by first | decide | omega) (by first | decide | omega) (by first | decide | omega) (by first | decide | omega) (by first | decide | omega) ci91 TT nn (pSg TT nn 59 (pAv TT nn (pEx TT nn 1 sr))) f87) ?_
              rintro _ _ _ ⟨rfl, ⟨G92, rfl⟩, rfl, sih93, sih93e, f94, ci95, f96⟩
              have k97 := rq_size f96
              have k97 := sih93e.trans k97
              refine r_peekI hX (tl_136 0 rfl (by decide)) tx_s (fun o98 o98e o98a o98b => ?_)
              obtain rfl : sih93 = o98 := sih93e.trans o98e.symm
              have hC99 : pSt (pSg TT nn 59 (pAv TT nn (pEx TT nn 1 sr))) = pFr TT nn sr := by
                unfold pFr; (repeat (first | rw [if_pos (by first | decide | omega)] | rw [if_neg (by first | decide | omega)])); try rfl
              have hC991 : (pFr TT nn sr) 1 = (pSt (pSg TT nn 59 (pAv TT nn (pEx TT nn 1 sr)))) 1 := congrFun hC99.symm 1
              exact r_retV hX hP rfl rfl (by first | decide | omega) (by first | decide | omega) ⟨rfl, ⟨_, (hw_sub (hw_sub (hw_sub (hw_sub (hw_refl _ _) rfl) rfl) rfl) rfl).symm⟩, rfl, sih93, sih93e, (by first | decide | omega), ci95, (rd_cast f96 hC99)⟩
            · skip
              exfalso; omega
        · skip
          refine r_ex hX hP 4 (pc' := 77) (st' := [(2, this)]) (lo' := [(0, (2, this)), (1, (0, 0)), (2, (0, 1))]) rfl ?_
          refine r_callV gd hX hP rfl cv_X6_80_131 hS (d' := 1) (mc' := 0) (ms' := 0) (as' := []) (st := []) (by first | decide | omega) (by first | decide | omega) (by first | decide | omega) rfl rfl (Nat.le_of_ble_eq_true rfl) (c_X6_advanceR E S (hw [(131, 1), (131, 2)] G G5) this  hS tx tx_e tx_s TT nn (pEx TT nn 1 sr) f30) ?_
          rintro _ _ _ ⟨rfl, ⟨G100, rfl⟩, rfl, f101⟩
          have k102 := (show pAv TT nn (pEx TT nn 1 sr) 1 = (pEx TT nn 1 sr) 1 from rfl)
          refine r_ex hX hP 2 (pc' := 82) (st' := [(0, 3), (0, 1)]) (lo' := [(0, (2, this)), (1, (0, 0)), (2, (0, 1))]) rfl ?_
          refine r_ic_ne hX hP rfl (tgt := 93) rfl (by first | decide | omega) (by first | decide | omega) (by first | decide | omega) (by first | decide | omega) (fun c103 => ?_) (fun c103 => ?_)
          · skip
            refine r_ex hX hP 2 (pc' := 96) (st' := [(0, 59), (2, this)]) (lo' := [(0, (2, this)), (1, (0, 0)), (2, (0, 1))]) rfl ?_
            refine r_callV gd hX hP rfl cv_X6_116_131 hS (d' := 2) (mc' := 0) (ms' := 0) (as' := [(0, 59)]) (st := []) (by first | decide | omega) (by first | decide | omega) (by first | decide | omega) rfl rfl (Nat.le_of_ble_eq_true rfl) (c_X6_signR E S (hw [(131, 5), (131, 6), (131, 7), (131, 8)] (hw [(131, 1), (131, 2)] G G5) G100) this 59 hS tx tx_e tx_s flh7 flh7e (by first | decide | omega) (by first | decide | omega) TT nn (pAv TT nn (pEx TT nn 1 sr)) f101) ?_
            rintro _ _ _ ⟨rfl, ⟨G104, rfl⟩, z105, rfl, flh106, flh106e, z105a, z105b, f107, f108, f109⟩
            have k110 := pSg_1 TT nn 59 (pAv TT nn (pEx TT nn 1 sr))
            have k111 := rq_flaw f109
            have k111 := flh106e.trans k111
            refine r_peekI hX (tl_131 1 rfl (by decide)) hS (fun o112 o112e o112a o112b => ?_)
            obtain rfl : flh106 = o112 := flh106e.trans o112e.symm
            refine r_ex hX hP 6 (pc' := 105) (st' := [(0, 0), (0, (-1)), (0, 1), (0, 5), (2, this)]) (lo' := [(0, (2, this)), (1, (0, 0)), (2, (0, 1))]) rfl ?_
            have ci113 : CI E S (hw [(131, 1), (131, 2), (131, 5), (131, 6), (131, 7), (131, 8)] (hw [(131, 5), (131, 6), (131, 7), (131, 8)] (hw [(131, 1), (131, 2)] G G5) G100) G104) := (ci_hw (ci_hw (ci_hw ci rfl) rfl) rfl)
            refine r_callV gd hX hP rfl cv_X6_206_131 hS (d' := 1) (mc' := 0) (ms' := 0) (as' := [(0, 5), (0, 1), (0, (-1)), (0, 0)]) (st := []) (by first | decide | omega) (by first | decide | omega) (by first | decide | omega) rfl rfl (Nat.le_of_ble_eq_true rfl) (c_X6_storeR E S (hw [(131, 1), (131, 2), (131, 5), (131, 6), (131, 7), (131, 8)] (hw [(131, 5), (131, 6), (131, 7), (131, 8)] (hw [(131, 1), (131, 2)] G G5) G100) G104) this 5 1 (-1) 0 hS tx tx_e tx_s s0 s0_e flh106 flh106e (by first | decide | omega) (by first | decide | omega) (by first | decide | omega) (by first | decide | omega) (by first | decide | omega) (by first | decide | omega) (by first | decide | omega) (by first | decide | omega) (by first | decide | omega) ci113 TT nn (pSg TT nn 59 (pAv TT nn (pEx TT nn 1 sr))) f109) ?_
            rintro _ _ _ ⟨rfl, ⟨G114, rfl⟩, rfl, sih115, sih115e, f116, ci117, f118⟩
            have k119 := rq_size f118
            have k119 := sih115e.trans k119
            refine r_peekI hX (tl_136 0 rfl (by decide)) tx_s (fun o120 o120e o120a o120b => ?_)
            obtain rfl : sih115 = o120 := sih115e.trans o120e.symm
            have hC121 : pSt (pSg TT nn 59 (pAv TT nn (pEx TT nn 1 sr))) = pFr TT nn sr := by
              unfold pFr; (repeat (first | rw [if_pos (by first | decide | omega)] | rw [if_neg (by first | decide | omega)])); try rfl
            have hC1211 : (pFr TT nn sr) 1 = (pSt (pSg TT nn 59 (pAv TT nn (pEx TT nn 1 sr)))) 1 := congrFun hC121.symm 1
            exact r_retV hX hP rfl rfl (by first | decide | omega) (by first | decide | omega) ⟨rfl, ⟨_, (hw_sub (hw_sub (hw_sub (hw_sub (hw_refl _ _) rfl) rfl) rfl) rfl).symm⟩, rfl, sih115, sih115e, (by first | decide | omega), ci117, (rd_cast f118 hC121)⟩
          · skip
            exfalso; omega
      · skip
        refine r_ex hX hP 4 (pc' := 77) (st' := [(2, this)]) (lo' := [(0, (2, this)), (1, (0, 0)), (2, (0, 0))]) rfl ?_
        refine r_callV gd hX hP rfl cv_X6_80_131 hS (d' := 1) (mc' := 0) (ms' := 0) (as' := []) (st := []) (by first | decide | omega) (by first | decide | omega) (by first | decide | omega) rfl rfl (Nat.le_of_ble_eq_true rfl) (c_X6_advanceR E S (hw [(131, 1), (131, 2)] G G5) this  hS tx tx_e tx_s TT nn (pEx TT nn 1 sr) f26) ?_
        rintro _ _ _ ⟨rfl, ⟨G122, rfl⟩, rfl, f123⟩
        have k124 := (show pAv TT nn (pEx TT nn 1 sr) 1 = (pEx TT nn 1 sr) 1 from rfl)
        refine r_ex hX hP 2 (pc' := 82) (st' := [(0, 3), (0, 0)]) (lo' := [(0, (2, this)), (1, (0, 0)), (2, (0, 0))]) rfl ?_
        refine r_ic_ne hX hP rfl (tgt := 93) rfl (by first | decide | omega) (by first | decide | omega) (by first | decide | omega) (by first | decide | omega) (fun c125 => ?_) (fun c125 => ?_)
        · skip
          refine r_ex hX hP 2 (pc' := 96) (st' := [(0, 59), (2, this)]) (lo' := [(0, (2, this)), (1, (0, 0)), (2, (0, 0))]) rfl ?_
          refine r_callV gd hX hP rfl cv_X6_116_131 hS (d' := 2) (mc' := 0) (ms' := 0) (as' := [(0, 59)]) (st := []) (by first | decide | omega) (by first | decide | omega) (by first | decide | omega) rfl rfl (Nat.le_of_ble_eq_true rfl) (c_X6_signR E S (hw [(131, 5), (131, 6), (131, 7), (131, 8)] (hw [(131, 1), (131, 2)] G G5) G122) this 59 hS tx tx_e tx_s flh7 flh7e (by first | decide | omega) (by first | decide | omega) TT nn (pAv TT nn (pEx TT nn 1 sr)) f123) ?_
          rintro _ _ _ ⟨rfl, ⟨G126, rfl⟩, z127, rfl, flh128, flh128e, z127a, z127b, f129, f130, f131⟩
          have k132 := pSg_1 TT nn 59 (pAv TT nn (pEx TT nn 1 sr))
          have k133 := rq_flaw f131
          have k133 := flh128e.trans k133
          refine r_peekI hX (tl_131 1 rfl (by decide)) hS (fun o134 o134e o134a o134b => ?_)
          obtain rfl : flh128 = o134 := flh128e.trans o134e.symm
          refine r_ex hX hP 6 (pc' := 105) (st' := [(0, 0), (0, (-1)), (0, 0), (0, 5), (2, this)]) (lo' := [(0, (2, this)), (1, (0, 0)), (2, (0, 0))]) rfl ?_
          have ci135 : CI E S (hw [(131, 1), (131, 2), (131, 5), (131, 6), (131, 7), (131, 8)] (hw [(131, 5), (131, 6), (131, 7), (131, 8)] (hw [(131, 1), (131, 2)] G G5) G122) G126) := (ci_hw (ci_hw (ci_hw ci rfl) rfl) rfl)
          refine r_callV gd hX hP rfl cv_X6_206_131 hS (d' := 1) (mc' := 0) (ms' := 0) (as' := [(0, 5), (0, 0), (0, (-1)), (0, 0)]) (st := []) (by first | decide | omega) (by first | decide | omega) (by first | decide | omega) rfl rfl (Nat.le_of_ble_eq_true rfl) (c_X6_storeR E S (hw [(131, 1), (131, 2), (131, 5), (131, 6), (131, 7), (131, 8)] (hw [(131, 5), (131, 6), (131, 7), (131, 8)] (hw [(131, 1), (131, 2)] G G5) G122) G126) this 5 0 (-1) 0 hS tx tx_e tx_s s0 s0_e flh128 flh128e (by first | decide | omega) (by first | decide | omega) (by first | decide | omega) (by first | decide | omega) (by first | decide | omega) (by first | decide | omega) (by first | decide | omega) (by first | decide | omega) (by first | decide | omega) ci135 TT nn (pSg TT nn 59 (pAv TT nn (pEx TT nn 1 sr))) f131) ?_
          rintro _ _ _ ⟨rfl, ⟨G136, rfl⟩, rfl, sih137, sih137e, f138, ci139, f140⟩
          have k141 := rq_size f140
          have k141 := sih137e.trans k141
          refine r_peekI hX (tl_136 0 rfl (by decide)) tx_s (fun o142 o142e o142a o142b => ?_)
          obtain rfl : sih137 = o142 := sih137e.trans o142e.symm
          have hC143 : pSt (pSg TT nn 59 (pAv TT nn (pEx TT nn 1 sr))) = pFr TT nn sr := by
            unfold pFr; (repeat (first | rw [if_pos (by first | decide | omega)] | rw [if_neg (by first | decide | omega)])); try rfl
          have hC1431 : (pFr TT nn sr) 1 = (pSt (pSg TT nn 59 (pAv TT nn (pEx TT nn 1 sr)))) 1 := congrFun hC143.symm 1
          exact r_retV hX hP rfl rfl (by first | decide | omega) (by first | decide | omega) ⟨rfl, ⟨_, (hw_sub (hw_sub (hw_sub (hw_sub (hw_refl _ _) rfl) rfl) rfl) rfl).symm⟩, rfl, sih137, sih137e, (by first | decide | omega), ci139, (rd_cast f140 hC143)⟩
        · skip
          exfalso; omega
    · skip
      exfalso; omega
  · skip
    have k144 := congrArg (tkK TT nn) (pEx_0 TT nn 1 sr)
    have k145 := congrArg (tkV TT nn) (pEx_0 TT nn 1 sr)
    have k146 := congrArg (tkS TT nn) (pEx_0 TT nn 1 sr)
    have k147 := congrArg (tkE TT nn) (pEx_0 TT nn 1 sr)
    have k148 := rq_flaw f8
    have k148 := flh7e.trans k148
    refine r_peekI hX (tl_131 1 rfl (by decide)) hS (fun o149 o149e o149a o149b => ?_)
    obtain rfl : flh7 = o149 := flh7e.trans o149e.symm
    refine r_if_ne hX hP rfl (tgt := 9) rfl (by first | decide | omega) (by first | decide | omega) (fun c150 => ?_) (fun c150 => ?_)
    · skip
      exfalso; omega
    · skip
      have hC151 : pEx TT nn 1 sr = pFr TT nn sr := by
        unfold pFr; (repeat (first | rw [if_pos (by first | decide | omega)] | rw [if_neg (by first | decide | omega)])); try rfl
      have hC1511 : (pFr TT nn sr) 1 = (pEx TT nn 1 sr) 1 := congrFun hC151.symm 1
      have ci152 : CI E S (hw [(131, 1), (131, 2)] G G5) := (ci_hw ci rfl)
      exact r_retV hX hP rfl rfl (by first | decide | omega) (by first | decide | omega) ⟨rfl, ⟨_, (hw_sub (hw_refl _ _) rfl).symm⟩, rfl, s0, s0_e, (by first | decide | omega), ci152, (rd_cast f8 hC151)⟩
set_option maxRecDepth 100000 in
set_option maxHeartbeats 4000000 in
theorem c_X6_whenR (E : En) (S : Sg) (G : Gh) (this : Int) (hS : S this = 131) (tx : Int) (tx_e : tx = G 131 this 9) (tx_s : S tx = 136) (s0 : Int) (s0_e : s0 = G 136 tx 0) (td : Int) (td_e : td = G 131 this 10) (pre0 : s0 + 1 ≤ td) (ci : CI E S G) (TT : Tp) (nn : Int) (sr : Rg) (rd : RdC TT nn sr G this tx) : Calls E mX6_when [(2, this)] S G 6 0 0 (fun r S' G' => S = S' ∧ (∃ G1, hw [(106, -1), (119, -1), (120, -1), (121, -1), (122, -1), (123, -1), (131, 1), (131, 2), (131, 5), (131, 6), (131, 7), (131, 8), (131, 11), (136, 0)] G G1 = G') ∧ r = none ∧ ∃ s1 : Int, s1 = G' 136 tx 0 ∧ s1 ≤ s0 + 1 ∧ CI E S G' ∧ RdC TT nn (pWh TT nn sr) G' this tx) := by
  refine calls_by [(0, (2, this))] rfl rfl (Nat.le_of_ble_eq_true rfl) (fun X hX => ?_)
  have hP := hPX6_when
  refine r_peekI hX (tl_136 0 rfl (by decide)) tx_s (fun s0_o s0_oe s0_oa s0_ob => ?_)
  obtain rfl : s0 = s0_o := s0_e.trans s0_oe.symm
  refine r_peekI hX (tl_131 10 rfl (by decide)) hS (fun td_o td_oe td_oa td_ob => ?_)
  obtain rfl : td = td_o := td_e.trans td_oe.symm
  have k1 := s0_e.trans (rq_size rd)
  have k2 := td_e.trans (rq_told rd)
  refine r_ex hX hP 1 (pc' := 1) (st' := [(2, this)]) (lo' := [(0, (2, this))]) rfl ?_
  refine r_ldcS hX hP rfl (k := 15) (by decide) rfl rfl ?_
  refine r_peekI hX (tl_131 1 rfl (by decide)) hS (fun flp3 flp3e flp3a flp3b => ?_)
  have k4 := rq_flaw rd
  have k4 := flp3e.trans k4
  refine r_callV gd hX hP rfl cv_X6_202_131 hS (d' := 5) (mc' := 0) (ms' := 0) (as' := [(2, (sK E 15))]) (st := []) (by first | decide | omega) (by first | decide | omega) (by first | decide | omega) rfl rfl (Nat.le_of_ble_eq_true rfl) (c_X6_keywordR E S G this 15 hS (by decide) tx tx_e tx_s flp3 flp3e TT nn sr rd) ?_
  rintro _ _ _ ⟨rfl, ⟨G5, rfl⟩, rfl, flh6, flh6e, f7, f8⟩
  have k9 := rq_flaw f8
  have k9 := flh6e.trans k9
  refine r_peekI hX (tl_131 1 rfl (by decide)) hS (fun o10 o10e o10a o10b => ?_)
  obtain rfl : flh6 = o10 := flh6e.trans o10e.symm
  refine r_ex hX hP 1 (pc' := 7) (st' := [(2, this)]) (lo' := [(0, (2, this))]) rfl ?_
  refine r_getI hX hP rfl fl_X6_38_131 hS (fun tf11 tf11e tf11a tf11b => ?_)
  have k12 := rq_tok f8
  have k12 := tf11e.trans k12
  refine r_ex hX hP 3 (pc' := 14) (st' := [(0, 60), (0, tf11)]) (lo' := [(0, (2, this)), (1, (0, tf11))]) rfl ?_
  refine r_ic_eq hX hP rfl (tgt := 23) rfl (by first | decide | omega) (by first | decide | omega) (by first | decide | omega) (by first | decide | omega) (fun c13 => ?_) (fun c13 => ?_)
  · skip
    refine r_ex hX hP 2 (pc' := 25) (st' := [(0, tf11), (2, this)]) (lo' := [(0, (2, this)), (1, (0, tf11))]) rfl ?_
    refine r_callV gd hX hP rfl cv_X6_116_131 hS (d' := 2) (mc' := 0) (ms' := 0) (as' := [(0, tf11)]) (st := []) (by first | decide | omega) (by first | decide | omega) (by first | decide | omega) rfl rfl (Nat.le_of_ble_eq_true rfl) (c_X6_signR E S (hw [(131, 1), (131, 2), (131, 5), (131, 6), (131, 7), (131, 8)] G G5) this tf11 hS tx tx_e tx_s flh6 flh6e (by first | decide | omega) (by first | decide | omega) TT nn (pKd TT nn 15 sr) f8) ?_
    rintro _ _ _ ⟨rfl, ⟨G14, rfl⟩, z15, rfl, flh16, flh16e, z15a, z15b, f17, f18, f19⟩
    have k20 := pSg_1 TT nn tf11 (pKd TT nn 15 sr)
    have k21 := rq_flaw f19
    have k21 := flh16e.trans k21
    refine r_peekI hX (tl_131 1 rfl (by decide)) hS (fun o22 o22e o22a o22b => ?_)
    obtain rfl : flh16 = o22 := flh16e.trans o22e.symm
    refine r_ex hX hP 4 (pc' := 41) (st' := [(0, 0), (2, this)]) (lo' := [(0, (2, this)), (1, (0, tf11))]) rfl ?_
    refine r_ldc hX hP rfl (v := 9999999) (tbg sg4 166 rfl rfl) ?_
    refine r_callV gd hX hP rfl cv_X6_196_131 hS (d' := 2) (mc' := 0) (ms' := 0) (as' := [(0, 0), (0, 9999999)]) (st := []) (by first | decide | omega) (by first | decide | omega) (by first | decide | omega) rfl rfl (Nat.le_of_ble_eq_true rfl) (c_X6_numberR E S (hw [(131, 1), (131, 2), (131, 5), (131, 6), (131, 7), (131, 8)] (hw [(131, 1), (131, 2), (131, 5), (131, 6), (131, 7), (131, 8)] G G5) G14) this 0 9999999 hS tx tx_e tx_s flh16 flh16e (by first | decide | omega) (by first | decide | omega) (by first | decide | omega) (by first | decide | omega) TT nn (pSg TT nn tf11 (pKd TT nn 15 sr)) f19) ?_
    rintro _ _ _ ⟨rfl, ⟨G23, rfl⟩, z24, rfl, flh25, flh25e, z24a, z24b, f26, f27⟩
    have k28 := rq_flaw f27
    have k28 := flh25e.trans k28
    refine r_peekI hX (tl_131 1 rfl (by decide)) hS (fun o29 o29e o29a o29b => ?_)
    obtain rfl : flh25 = o29 := flh25e.trans o29e.symm
    refine r_ex hX hP 2 (pc' := 48) (st' := [(2, this)]) (lo' := [(0, (2, this)), (1, (0, tf11)), (2, (0, z24))]) rfl ?_
    refine r_getKN hX hP rfl fl_X6_54_131 hS (x := tx) tx_e ?_
    refine r_getKI hX hP rfl fl_X6_176_136 tx_s (x := s0) s0_e ?_
    refine r_ex hX hP 6 (pc' := 61) (st' := [(0, 0), (0, tf11), (0, z24), (0, 6), (2, this)]) (lo' := [(0, (2, this)), (1, (0, tf11)), (2, (0, z24)), (3, (0, s0))]) rfl ?_
    have ci30 : CI E S (hw [(131, 1), (131, 2), (131, 5), (131, 6), (131, 7), (131, 8)] (hw [(131, 1), (131, 2), (131, 5), (131, 6), (131, 7), (131, 8)] (hw [(131, 1), (131, 2), (131, 5), (131, 6), (131, 7), (131, 8)] G G5) G14) G23) := (ci_hw (ci_hw (ci_hw ci rfl) rfl) rfl)
    refine r_callV gd hX hP rfl cv_X6_206_131 hS (d' := 1) (mc' := 0) (ms' := 0) (as' := [(0, 6), (0, z24), (0, tf11), (0, 0)]) (st := []) (by first | decide | omega) (by first | decide | omega) (by first | decide | omega) rfl rfl (Nat.le_of_ble_eq_true rfl) (c_X6_storeR E S (hw [(131, 1), (131, 2), (131, 5), (131, 6), (131, 7), (131, 8)] (hw [(131, 1), (131, 2), (131, 5), (131, 6), (131, 7), (131, 8)] (hw [(131, 1), (131, 2), (131, 5), (131, 6), (131, 7), (131, 8)] G G5) G14) G23) this 6 z24 tf11 0 hS tx tx_e tx_s s0 s0_e flh25 flh25e (by first | decide | omega) (by first | decide | omega) (by first | decide | omega) (by first | decide | omega) (by first | decide | omega) (by first | decide | omega) (by first | decide | omega) (by first | decide | omega) (by first | decide | omega) ci30 TT nn (pNb TT nn 0 9999999 (pSg TT nn tf11 (pKd TT nn 15 sr))) f27) ?_
    rintro _ _ _ ⟨rfl, ⟨G31, rfl⟩, rfl, sih32, sih32e, f33, ci34, f35⟩
    have k36 := rq_size f35
    have k36 := sih32e.trans k36
    refine r_peekI hX (tl_136 0 rfl (by decide)) tx_s (fun o37 o37e o37a o37b => ?_)
    obtain rfl : sih32 = o37 := sih32e.trans o37e.symm
    refine r_ex hX hP 4 (pc' := 68) (st' := [(0, (s0 * 2)), (2, this)]) (lo' := [(0, (2, this)), (1, (0, tf11)), (2, (0, z24)), (3, (0, s0))]) rfl ?_
    refine r_callV gd hX hP rfl cv_X6_113_131 hS (d' := 3) (mc' := 0) (ms' := 0) (as' := [(0, (s0 * 2))]) (st := []) (by first | decide | omega) (by first | decide | omega) (by first | decide | omega) rfl rfl (Nat.le_of_ble_eq_true rfl) (c_X6_pushR E S (hw [(119, -1), (120, -1), (121, -1), (122, -1), (123, -1), (136, 0)] (hw [(131, 1), (131, 2), (131, 5), (131, 6), (131, 7), (131, 8)] (hw [(131, 1), (131, 2), (131, 5), (131, 6), (131, 7), (131, 8)] (hw [(131, 1), (131, 2), (131, 5), (131, 6), (131, 7), (131, 8)] G G5) G14) G23) G31) this (s0 * 2) hS tx tx_e tx_s (by first | decide | omega) (by first | decide | omega) TT nn (pSt (pNb TT nn 0 9999999 (pSg TT nn tf11 (pKd TT nn 15 sr)))) f35) ?_
    rintro _ _ _ ⟨rfl, ⟨G38, rfl⟩, rfl, f39⟩
    have hC40 : pPu TT nn (s0 * 2) (pSt (pNb TT nn 0 9999999 (pSg TT nn tf11 (pKd TT nn 15 sr)))) = pWh TT nn sr := by
      unfold pWh pCo; (repeat (first | rw [if_pos (by first | decide | omega)] | rw [if_neg (by first | decide | omega)])); first | rfl | (exfalso; omega) | (simp only [k1, k12])
    have hC401 : (pWh TT nn sr) 1 = (pPu TT nn (s0 * 2) (pSt (pNb TT nn 0 9999999 (pSg TT nn tf11 (pKd TT nn 15 sr))))) 1 := congrFun hC40.symm 1
    have ci41 : CI E S (hw [(106, -1), (131, 1), (131, 2), (131, 5), (131, 6), (131, 7), (131, 8), (131, 11)] (hw [(119, -1), (120, -1), (121, -1), (122, -1), (123, -1), (136, 0)] (hw [(131, 1), (131, 2), (131, 5), (131, 6), (131, 7), (131, 8)] (hw [(131, 1), (131, 2), (131, 5), (131, 6), (131, 7), (131, 8)] (hw [(131, 1), (131, 2), (131, 5), (131, 6), (131, 7), (131, 8)] G G5) G14) G23) G31) G38) := (ci_hw ci34 rfl)
    exact r_retV hX hP rfl rfl (by first | decide | omega) (by first | decide | omega) ⟨rfl, ⟨_, (hw_sub (hw_sub (hw_sub (hw_sub (hw_sub (hw_refl _ _) rfl) rfl) rfl) rfl) rfl).symm⟩, rfl, sih32, sih32e, (by first | decide | omega), ci41, (rd_cast f39 hC40)⟩
  · skip
    refine r_ex hX hP 2 (pc' := 20) (st' := [(0, 62), (0, tf11)]) (lo' := [(0, (2, this)), (1, (0, tf11))]) rfl ?_
    refine r_ic_ne hX hP rfl (tgt := 32) rfl (by first | decide | omega) (by first | decide | omega) (by first | decide | omega) (by first | decide | omega) (fun c42 => ?_) (fun c42 => ?_)
    · skip
      refine r_ex hX hP 2 (pc' := 35) (st' := [(0, 60), (2, this)]) (lo' := [(0, (2, this)), (1, (0, tf11))]) rfl ?_
      refine r_callV gd hX hP rfl cv_X6_95_131 hS (d' := 1) (mc' := 0) (ms' := 0) (as' := [(0, 60)]) (st := []) (by first | decide | omega) (by first | decide | omega) (by first | decide | omega) rfl rfl (Nat.le_of_ble_eq_true rfl) (c_X6_expectR E S (hw [(131, 1), (131, 2), (131, 5), (131, 6), (131, 7), (131, 8)] G G5) this 60 hS tx tx_e tx_s flh6 flh6e (by first | decide | omega) (by first | decide | omega) TT nn (pKd TT nn 15 sr) f8) ?_
      rintro _ _ _ ⟨rfl, ⟨G43, rfl⟩, z44, rfl, flh45, flh45e, (⟨rfl, f47, f48, f49⟩ | ⟨rfl, f50⟩), f46⟩
      · skip
        have k51 := congrArg (tkK TT nn) (pEx_0 TT nn 60 (pKd TT nn 15 sr))
        have k52 := congrArg (tkV TT nn) (pEx_0 TT nn 60 (pKd TT nn 15 sr))
        have k53 := congrArg (tkS TT nn) (pEx_0 TT nn 60 (pKd TT nn 15 sr))
        have k54 := congrArg (tkE TT nn) (pEx_0 TT nn 60 (pKd TT nn 15 sr))
        have k55 := rq_flaw f46
        have k55 := flh45e.trans k55
        refine r_peekI hX (tl_131 1 rfl (by decide)) hS (fun o56 o56e o56a o56b => ?_)
        obtain rfl : flh45 = o56 := flh45e.trans o56e.symm
        refine r_ex hX hP 3 (pc' := 41) (st' := [(0, 0), (2, this)]) (lo' := [(0, (2, this)), (1, (0, tf11))]) rfl ?_
        refine r_ldc hX hP rfl (v := 9999999) (tbg sg4 166 rfl rfl) ?_
        refine r_callV gd hX hP rfl cv_X6_196_131 hS (d' := 2) (mc' := 0) (ms' := 0) (as' := [(0, 0), (0, 9999999)]) (st := []) (by first | decide | omega) (by first | decide | omega) (by first | decide | omega) rfl rfl (Nat.le_of_ble_eq_true rfl) (c_X6_numberR E S (hw [(131, 1), (131, 2)] (hw [(131, 1), (131, 2), (131, 5), (131, 6), (131, 7), (131, 8)] G G5) G43) this 0 9999999 hS tx tx_e tx_s flh45 flh45e (by first | decide | omega) (by first | decide | omega) (by first | decide | omega) (by first | decide | omega) TT nn (pEx TT nn 60 (pKd TT nn 15 sr)) f46) ?_
        rintro _ _ _ ⟨rfl, ⟨G57, rfl⟩, z58, rfl, flh59, flh59e, z58a, z58b, f60, f61⟩
        have k62 := rq_flaw f61
        have k62 := flh59e.trans k62
        refine r_peekI hX (tl_131 1 rfl (by decide)) hS (fun o63 o63e o63a o63b => ?_)
        obtain rfl : flh59 = o63 := flh59e.trans o63e.symm
        refine r_ex hX hP 2 (pc' := 48) (st' := [(2, this)]) (lo' := [(0, (2, this)), (1, (0, tf11)), (2, (0, z58))]) rfl ?_
        refine r_getKN hX hP rfl fl_X6_54_131 hS (x := tx) tx_e ?_
        refine r_getKI hX hP rfl fl_X6_176_136 tx_s (x := s0) s0_e ?_
        refine r_ex hX hP 6 (pc' := 61) (st' := [(0, 0), (0, tf11), (0, z58), (0, 6), (2, this)]) (lo' := [(0, (2, this)), (1, (0, tf11)), (2, (0, z58)), (3, (0, s0))]) rfl ?_
        have ci64 : CI E S (hw [(131, 1), (131, 2), (131, 5), (131, 6), (131, 7), (131, 8)] (hw [(131, 1), (131, 2)] (hw [(131, 1), (131, 2), (131, 5), (131, 6), (131, 7), (131, 8)] G G5) G43) G57) := (ci_hw (ci_hw (ci_hw ci rfl) rfl) rfl)
        refine r_callV gd hX hP rfl cv_X6_206_131 hS (d' := 1) (mc' := 0) (ms' := 0) (as' := [(0, 6), (0, z58), (0, tf11), (0, 0)]) (st := []) (by first | decide | omega) (by first | decide | omega) (by first | decide | omega) rfl rfl (Nat.le_of_ble_eq_true rfl) (c_X6_storeR E S (hw [(131, 1), (131, 2), (131, 5), (131, 6), (131, 7), (131, 8)] (hw [(131, 1), (131, 2)] (hw [(131, 1), (131, 2), (131, 5), (131, 6), (131, 7), (131, 8)] G G5) G43) G57) this 6 z58 tf11 0 hS tx tx_e tx_s s0 s0_e flh59 flh59e (by first | decide | omega) (by first | decide | omega) (by first | decide | omega) (by first | decide | omega) (by first | decide | omega) (by first | decide | omega) (by first | decide | omega) (by first | decide | omega) (by first | decide | omega) ci64 TT nn (pNb TT nn 0 9999999 (pEx TT nn 60 (pKd TT nn 15 sr))) f61) ?_
        rintro _ _ _ ⟨rfl, ⟨G65, rfl⟩, rfl, sih66, sih66e, f67, ci68, f69⟩
        have k70 := rq_size f69
        have k70 := sih66e.trans k70
        refine r_peekI hX (tl_136 0 rfl (by decide)) tx_s (fun o71 o71e o71a o71b => ?_)
        obtain rfl : sih66 = o71 := sih66e.trans o71e.symm
        refine r_ex hX hP 4 (pc' := 68) (st' := [(0, (s0 * 2)), (2, this)]) (lo' := [(0, (2, this)), (1, (0, tf11)), (2, (0, z58)), (3, (0, s0))]) rfl ?_
        refine r_callV gd hX hP rfl cv_X6_113_131 hS (d' := 3) (mc' := 0) (ms' := 0) (as' := [(0, (s0 * 2))]) (st := []) (by first | decide | omega) (by first | decide | omega) (by first | decide | omega) rfl rfl (Nat.le_of_ble_eq_true rfl) (c_X6_pushR E S (hw [(119, -1), (120, -1), (121, -1), (122, -1), (123, -1), (136, 0)] (hw [(131, 1), (131, 2), (131, 5), (131, 6), (131, 7), (131, 8)] (hw [(131, 1), (131, 2)] (hw [(131, 1), (131, 2), (131, 5), (131, 6), (131, 7), (131, 8)] G G5) G43) G57) G65) this (s0 * 2) hS tx tx_e tx_s (by first | decide | omega) (by first | decide | omega) TT nn (pSt (pNb TT nn 0 9999999 (pEx TT nn 60 (pKd TT nn 15 sr)))) f69) ?_
        rintro _ _ _ ⟨rfl, ⟨G72, rfl⟩, rfl, f73⟩
        have hC74 : pPu TT nn (s0 * 2) (pSt (pNb TT nn 0 9999999 (pEx TT nn 60 (pKd TT nn 15 sr)))) = pWh TT nn sr := by
          unfold pWh pCo; (repeat (first | rw [if_pos (by first | decide | omega)] | rw [if_neg (by first | decide | omega)])); first | rfl | (exfalso; omega) | (simp only [k1])
        have hC741 : (pWh TT nn sr) 1 = (pPu TT nn (s0 * 2) (pSt (pNb TT nn 0 9999999 (pEx TT nn 60 (pKd TT nn 15 sr))))) 1 := congrFun hC74.symm 1
        have ci75 : CI E S (hw [(106, -1), (131, 1), (131, 2), (131, 5), (131, 6), (131, 7), (131, 8), (131, 11)] (hw [(119, -1), (120, -1), (121, -1), (122, -1), (123, -1), (136, 0)] (hw [(131, 1), (131, 2), (131, 5), (131, 6), (131, 7), (131, 8)] (hw [(131, 1), (131, 2)] (hw [(131, 1), (131, 2), (131, 5), (131, 6), (131, 7), (131, 8)] G G5) G43) G57) G65) G72) := (ci_hw ci68 rfl)
        exact r_retV hX hP rfl rfl (by first | decide | omega) (by first | decide | omega) ⟨rfl, ⟨_, (hw_sub (hw_sub (hw_sub (hw_sub (hw_sub (hw_refl _ _) rfl) rfl) rfl) rfl) rfl).symm⟩, rfl, sih66, sih66e, (by first | decide | omega), ci75, (rd_cast f73 hC74)⟩
      · skip
        have k76 := congrArg (tkK TT nn) (pEx_0 TT nn 60 (pKd TT nn 15 sr))
        have k77 := congrArg (tkV TT nn) (pEx_0 TT nn 60 (pKd TT nn 15 sr))
        have k78 := congrArg (tkS TT nn) (pEx_0 TT nn 60 (pKd TT nn 15 sr))
        have k79 := congrArg (tkE TT nn) (pEx_0 TT nn 60 (pKd TT nn 15 sr))
        have k80 := rq_flaw f46
        have k80 := flh45e.trans k80
        refine r_peekI hX (tl_131 1 rfl (by decide)) hS (fun o81 o81e o81a o81b => ?_)
        obtain rfl : flh45 = o81 := flh45e.trans o81e.symm
        refine r_ex hX hP 3 (pc' := 41) (st' := [(0, 0), (2, this)]) (lo' := [(0, (2, this)), (1, (0, tf11))]) rfl ?_
        refine r_ldc hX hP rfl (v := 9999999) (tbg sg4 166 rfl rfl) ?_
        refine r_callV gd hX hP rfl cv_X6_196_131 hS (d' := 2) (mc' := 0) (ms' := 0) (as' := [(0, 0), (0, 9999999)]) (st := []) (by first | decide | omega) (by first | decide | omega) (by first | decide | omega) rfl rfl (Nat.le_of_ble_eq_true rfl) (c_X6_numberR E S (hw [(131, 1), (131, 2)] (hw [(131, 1), (131, 2), (131, 5), (131, 6), (131, 7), (131, 8)] G G5) G43) this 0 9999999 hS tx tx_e tx_s flh45 flh45e (by first | decide | omega) (by first | decide | omega) (by first | decide | omega) (by first | decide | omega) TT nn (pEx TT nn 60 (pKd TT nn 15 sr)) f46) ?_
        rintro _ _ _ ⟨rfl, ⟨G82, rfl⟩, z83, rfl, flh84, flh84e, z83a, z83b, f85, f86⟩
        have k87 := rq_flaw f86
        have k87 := flh84e.trans k87
        refine r_peekI hX (tl_131 1 rfl (by decide)) hS (fun o88 o88e o88a o88b => ?_)
        obtain rfl : flh84 = o88 := flh84e.trans o88e.symm
        refine r_ex hX hP 2 (pc' := 48) (st' := [(2, this)]) (lo' := [(0, (2, this)), (1, (0, tf11)), (2, (0, z83))]) rfl ?_
        refine r_getKN hX hP rfl fl_X6_54_131 hS (x := tx) tx_e ?_
        refine r_getKI hX hP rfl fl_X6_176_136 tx_s (x := s0) s0_e ?_
        refine r_ex hX hP 6 (pc' := 61) (st' := [(0, 0), (0, tf11), (0, z83), (0, 6), (2, this)]) (lo' := [(0, (2, this)), (1, (0, tf11)), (2, (0, z83)), (3, (0, s0))]) rfl ?_
        have ci89 : CI E S (hw [(131, 1), (131, 2), (131, 5), (131, 6), (131, 7), (131, 8)] (hw [(131, 1), (131, 2)] (hw [(131, 1), (131, 2), (131, 5), (131, 6), (131, 7), (131, 8)] G G5) G43) G82) := (ci_hw (ci_hw (ci_hw ci rfl) rfl) rfl)
        refine r_callV gd hX hP rfl cv_X6_206_131 hS (d' := 1) (mc' := 0) (ms' := 0) (as' := [(0, 6), (0, z83), (0, tf11), (0, 0)]) (st := []) (by first | decide | omega) (by first | decide | omega) (by first | decide | omega) rfl rfl (Nat.le_of_ble_eq_true rfl) (c_X6_storeR E S (hw [(131, 1), (131, 2), (131, 5), (131, 6), (131, 7), (131, 8)] (hw [(131, 1), (131, 2)] (hw [(131, 1), (131, 2), (131, 5), (131, 6), (131, 7), (131, 8)] G G5) G43) G82) this 6 z83 tf11 0 hS tx tx_e tx_s s0 s0_e flh84 flh84e (by first | decide | omega) (by first | decide | omega) (by first | decide | omega) (by first | decide | omega) (by first | decide | omega) (by first | decide | omega) (by first | decide | omega) (by first | decide | omega) (by first | decide | omega) ci89 TT nn (pNb TT nn 0 9999999 (pEx TT nn 60 (pKd TT nn 15 sr))) f86) ?_
        rintro _ _ _ ⟨rfl, ⟨G90, rfl⟩, rfl, sih91, sih91e, f92, ci93, f94⟩
        have k95 := rq_size f94
        have k95 := sih91e.trans k95
        refine r_peekI hX (tl_136 0 rfl (by decide)) tx_s (fun o96 o96e o96a o96b => ?_)
        obtain rfl : sih91 = o96 := sih91e.trans o96e.symm
        refine r_ex hX hP 4 (pc' := 68) (st' := [(0, (s0 * 2)), (2, this)]) (lo' := [(0, (2, this)), (1, (0, tf11)), (2, (0, z83)), (3, (0, s0))]) rfl ?_
        refine r_callV gd hX hP rfl cv_X6_113_131 hS (d' := 3) (mc' := 0) (ms' := 0) (as' := [(0, (s0 * 2))]) (st := []) (by first | decide | omega) (by first | decide | omega) (by first | decide | omega) rfl rfl (Nat.le_of_ble_eq_true rfl) (c_X6_pushR E S (hw [(119, -1), (120, -1), (121, -1), (122, -1), (123, -1), (136, 0)] (hw [(131, 1), (131, 2), (131, 5), (131, 6), (131, 7), (131, 8)] (hw [(131, 1), (131, 2)] (hw [(131, 1), (131, 2), (131, 5), (131, 6), (131, 7), (131, 8)] G G5) G43) G82) G90) this (s0 * 2) hS tx tx_e tx_s (by first | decide | omega) (by first | decide | omega) TT nn (pSt (pNb TT nn 0 9999999 (pEx TT nn 60 (pKd TT nn 15 sr)))) f94) ?_
        rintro _ _ _ ⟨rfl, ⟨G97, rfl⟩, rfl, f98⟩
        have hC99 : pPu TT nn (s0 * 2) (pSt (pNb TT nn 0 9999999 (pEx TT nn 60 (pKd TT nn 15 sr)))) = pWh TT nn sr := by
          unfold pWh pCo; (repeat (first | rw [if_pos (by first | decide | omega)] | rw [if_neg (by first | decide | omega)])); first | rfl | (exfalso; omega) | (simp only [k1])
        have hC991 : (pWh TT nn sr) 1 = (pPu TT nn (s0 * 2) (pSt (pNb TT nn 0 9999999 (pEx TT nn 60 (pKd TT nn 15 sr))))) 1 := congrFun hC99.symm 1
        have ci100 : CI E S (hw [(106, -1), (131, 1), (131, 2), (131, 5), (131, 6), (131, 7), (131, 8), (131, 11)] (hw [(119, -1), (120, -1), (121, -1), (122, -1), (123, -1), (136, 0)] (hw [(131, 1), (131, 2), (131, 5), (131, 6), (131, 7), (131, 8)] (hw [(131, 1), (131, 2)] (hw [(131, 1), (131, 2), (131, 5), (131, 6), (131, 7), (131, 8)] G G5) G43) G82) G90) G97) := (ci_hw ci93 rfl)
        exact r_retV hX hP rfl rfl (by first | decide | omega) (by first | decide | omega) ⟨rfl, ⟨_, (hw_sub (hw_sub (hw_sub (hw_sub (hw_sub (hw_refl _ _) rfl) rfl) rfl) rfl) rfl).symm⟩, rfl, sih91, sih91e, (by first | decide | omega), ci100, (rd_cast f98 hC99)⟩
    · skip
      refine r_ex hX hP 2 (pc' := 25) (st' := [(0, tf11), (2, this)]) (lo' := [(0, (2, this)), (1, (0, tf11))]) rfl ?_
      refine r_callV gd hX hP rfl cv_X6_116_131 hS (d' := 2) (mc' := 0) (ms' := 0) (as' := [(0, tf11)]) (st := []) (by first | decide | omega) (by first | decide | omega) (by first | decide | omega) rfl rfl (Nat.le_of_ble_eq_true rfl) (c_X6_signR E S (hw [(131, 1), (131, 2), (131, 5), (131, 6), (131, 7), (131, 8)] G G5) this tf11 hS tx tx_e tx_s flh6 flh6e (by first | decide | omega) (by first | decide | omega) TT nn (pKd TT nn 15 sr) f8) ?_
      rintro _ _ _ ⟨rfl, ⟨G101, rfl⟩, z102, rfl, flh103, flh103e, z102a, z102b, f104, f105, f106⟩
      have k107 := pSg_1 TT nn tf11 (pKd TT nn 15 sr)
      have k108 := rq_flaw f106
      have k108 := flh103e.trans k108
      refine r_peekI hX (tl_131 1 rfl (by decide)) hS (fun o109 o109e o109a o109b => ?_)
      obtain rfl : flh103 = o109 := flh103e.trans o109e.symm
      refine r_ex hX hP 4 (pc' := 41) (st' := [(0, 0), (2, this)]) (lo' := [(0, (2, this)), (1, (0, tf11))]) rfl ?_
      refine r_ldc hX hP rfl (v := 9999999) (tbg sg4 166 rfl rfl) ?_
      refine r_callV gd hX hP rfl cv_X6_196_131 hS (d' := 2) (mc' := 0) (ms' := 0) (as' := [(0, 0), (0, 9999999)]) (st := []) (by first | decide | omega) (by first | decide | omega) (by first | decide | omega) rfl rfl (Nat.le_of_ble_eq_true rfl) (c_X6_numberR E S (hw [(131, 1), (131, 2), (131, 5), (131, 6), (131, 7), (131, 8)] (hw [(131, 1), (131, 2), (131, 5), (131, 6), (131, 7), (131, 8)] G G5) G101) this 0 9999999 hS tx tx_e tx_s flh103 flh103e (by first | decide | omega) (by first | decide | omega) (by first | decide | omega) (by first | decide | omega) TT nn (pSg TT nn tf11 (pKd TT nn 15 sr)) f106) ?_
      rintro _ _ _ ⟨rfl, ⟨G110, rfl⟩, z111, rfl, flh112, flh112e, z111a, z111b, f113, f114⟩
      have k115 := rq_flaw f114
      have k115 := flh112e.trans k115
      refine r_peekI hX (tl_131 1 rfl (by decide)) hS (fun o116 o116e o116a o116b => ?_)
      obtain rfl : flh112 = o116 := flh112e.trans o116e.symm
      refine r_ex hX hP 2 (pc' := 48) (st' := [(2, this)]) (lo' := [(0, (2, this)), (1, (0, tf11)), (2, (0, z111))]) rfl ?_
      refine r_getKN hX hP rfl fl_X6_54_131 hS (x := tx) tx_e ?_
      refine r_getKI hX hP rfl fl_X6_176_136 tx_s (x := s0) s0_e ?_
      refine r_ex hX hP 6 (pc' := 61) (st' := [(0, 0), (0, tf11), (0, z111), (0, 6), (2, this)]) (lo' := [(0, (2, this)), (1, (0, tf11)), (2, (0, z111)), (3, (0, s0))]) rfl ?_
      have ci117 : CI E S (hw [(131, 1), (131, 2), (131, 5), (131, 6), (131, 7), (131, 8)] (hw [(131, 1), (131, 2), (131, 5), (131, 6), (131, 7), (131, 8)] (hw [(131, 1), (131, 2), (131, 5), (131, 6), (131, 7), (131, 8)] G G5) G101) G110) := (ci_hw (ci_hw (ci_hw ci rfl) rfl) rfl)
      refine r_callV gd hX hP rfl cv_X6_206_131 hS (d' := 1) (mc' := 0) (ms' := 0) (as' := [(0, 6), (0, z111), (0, tf11), (0, 0)]) (st := []) (by first | decide | omega) (by first | decide | omega) (by first | decide | omega) rfl rfl (Nat.le_of_ble_eq_true rfl) (c_X6_storeR E S (hw [(131, 1), (131, 2), (131, 5), (131, 6), (131, 7), (131, 8)] (hw [(131, 1), (131, 2), (131, 5), (131, 6), (131, 7), (131, 8)] (hw [(131, 1), (131, 2), (131, 5), (131, 6), (131, 7), (131, 8)] G G5) G101) G110) this 6 z111 tf11 0 hS tx tx_e tx_s s0 s0_e flh112 flh112e (by first | decide | omega) (by first | decide | omega) (by first | decide | omega) (by first | decide | omega) (by first | decide | omega) (by first | decide | omega) (by first | decide | omega) (by first | decide | omega) (by first | decide | omega) ci117 TT nn (pNb TT nn 0 9999999 (pSg TT nn tf11 (pKd TT nn 15 sr))) f114) ?_
      rintro _ _ _ ⟨rfl, ⟨G118, rfl⟩, rfl, sih119, sih119e, f120, ci121, f122⟩
      have k123 := rq_size f122
      have k123 := sih119e.trans k123
      refine r_peekI hX (tl_136 0 rfl (by decide)) tx_s (fun o124 o124e o124a o124b => ?_)
      obtain rfl : sih119 = o124 := sih119e.trans o124e.symm
      refine r_ex hX hP 4 (pc' := 68) (st' := [(0, (s0 * 2)), (2, this)]) (lo' := [(0, (2, this)), (1, (0, tf11)), (2, (0, z111)), (3, (0, s0))]) rfl ?_
      refine r_callV gd hX hP rfl cv_X6_113_131 hS (d' := 3) (mc' := 0) (ms' := 0) (as' := [(0, (s0 * 2))]) (st := []) (by first | decide | omega) (by first | decide | omega) (by first | decide | omega) rfl rfl (Nat.le_of_ble_eq_true rfl) (c_X6_pushR E S (hw [(119, -1), (120, -1), (121, -1), (122, -1), (123, -1), (136, 0)] (hw [(131, 1), (131, 2), (131, 5), (131, 6), (131, 7), (131, 8)] (hw [(131, 1), (131, 2), (131, 5), (131, 6), (131, 7), (131, 8)] (hw [(131, 1), (131, 2), (131, 5), (131, 6), (131, 7), (131, 8)] G G5) G101) G110) G118) this (s0 * 2) hS tx tx_e tx_s (by first | decide | omega) (by first | decide | omega) TT nn (pSt (pNb TT nn 0 9999999 (pSg TT nn tf11 (pKd TT nn 15 sr)))) f122) ?_
      rintro _ _ _ ⟨rfl, ⟨G125, rfl⟩, rfl, f126⟩
      have hC127 : pPu TT nn (s0 * 2) (pSt (pNb TT nn 0 9999999 (pSg TT nn tf11 (pKd TT nn 15 sr)))) = pWh TT nn sr := by
        unfold pWh pCo; (repeat (first | rw [if_pos (by first | decide | omega)] | rw [if_neg (by first | decide | omega)])); first | rfl | (exfalso; omega) | (simp only [k1, k12])
      have hC1271 : (pWh TT nn sr) 1 = (pPu TT nn (s0 * 2) (pSt (pNb TT nn 0 9999999 (pSg TT nn tf11 (pKd TT nn 15 sr))))) 1 := congrFun hC127.symm 1
      have ci128 : CI E S (hw [(106, -1), (131, 1), (131, 2), (131, 5), (131, 6), (131, 7), (131, 8), (131, 11)] (hw [(119, -1), (120, -1), (121, -1), (122, -1), (123, -1), (136, 0)] (hw [(131, 1), (131, 2), (131, 5), (131, 6), (131, 7), (131, 8)] (hw [(131, 1), (131, 2), (131, 5), (131, 6), (131, 7), (131, 8)] (hw [(131, 1), (131, 2), (131, 5), (131, 6), (131, 7), (131, 8)] G G5) G101) G110) G118) G125) := (ci_hw ci121 rfl)
      exact r_retV hX hP rfl rfl (by first | decide | omega) (by first | decide | omega) ⟨rfl, ⟨_, (hw_sub (hw_sub (hw_sub (hw_sub (hw_sub (hw_refl _ _) rfl) rfl) rfl) rfl) rfl).symm⟩, rfl, sih119, sih119e, (by first | decide | omega), ci128, (rd_cast f126 hC127)⟩
set_option maxRecDepth 100000 in
set_option maxHeartbeats 4000000 in
theorem c_X6_isNameR (E : En) (S : Sg) (G : Gh) (this : Int) (hS : S this = 131) (tx : Int) (tx_e : tx = G 131 this 9) (tx_s : S tx = 136) (TT : Tp) (nn : Int) (sr : Rg) (rd : RdC TT nn sr G this tx) : Calls E mX6_isName [(2, this)] S G 2 0 0 (fun r S' G' => S = S' ∧ (∃ G1, hw [(131, 1), (131, 2)] G G1 = G') ∧ ∃ z : Int, r = some (0, z) ∧ 0 ≤ z ∧ z ≤ 1 ∧ ((z = 1 ∧ pNa TT nn sr 1 = 0) ∨ (z = 0 ∧ pNa TT nn sr 1 ≠ 0)) ∧ RdC TT nn (pNa TT nn sr) G' this tx) := by
  refine calls_by [(0, (2, this))] rfl rfl (Nat.le_of_ble_eq_true rfl) (fun X hX => ?_)
  have hP := hPX6_isName
  refine r_ex hX hP 2 (pc' := 2) (st' := [(0, 1), (2, this)]) (lo' := [(0, (2, this))]) rfl ?_
  refine r_peekI hX (tl_131 1 rfl (by decide)) hS (fun flp1 flp1e flp1a flp1b => ?_)
  have k2 := rq_flaw rd
  have k2 := flp1e.trans k2
  refine r_callV gd hX hP rfl cv_X6_95_131 hS (d' := 1) (mc' := 0) (ms' := 0) (as' := [(0, 1)]) (st := []) (by first | decide | omega) (by first | decide | omega) (by first | decide | omega) rfl rfl (Nat.le_of_ble_eq_true rfl) (c_X6_expectR E S G this 1 hS tx tx_e tx_s flp1 flp1e (by first | decide | omega) (by first | decide | omega) TT nn sr rd) ?_
  rintro _ _ _ ⟨rfl, ⟨G3, rfl⟩, z4, rfl, flh5, flh5e, (⟨rfl, f7, f8, f9⟩ | ⟨rfl, f10⟩), f6⟩
  · skip
    have k11 := congrArg (tkK TT nn) (pEx_0 TT nn 1 sr)
    have k12 := congrArg (tkV TT nn) (pEx_0 TT nn 1 sr)
    have k13 := congrArg (tkS TT nn) (pEx_0 TT nn 1 sr)
    have k14 := congrArg (tkE TT nn) (pEx_0 TT nn 1 sr)
    have k15 := rq_flaw f6
    have k15 := flh5e.trans k15
    refine r_peekI hX (tl_131 1 rfl (by decide)) hS (fun o16 o16e o16a o16b => ?_)
    obtain rfl : flh5 = o16 := flh5e.trans o16e.symm
    refine r_if_ne hX hP rfl (tgt := 10) rfl (by first | decide | omega) (by first | decide | omega) (fun c17 => ?_) (fun c17 => ?_)
    · skip
      refine r_ex hX hP 1 (pc' := 11) (st' := [(2, this)]) (lo' := [(0, (2, this))]) rfl ?_
      refine r_getI hX hP rfl fl_X6_67_131 hS (fun af18 af18e af18a af18b => ?_)
      have k19 := rq_at f6
      have k19 := af18e.trans k19
      refine r_ex hX hP 1 (pc' := 15) (st' := [(2, this), (0, af18)]) (lo' := [(0, (2, this))]) rfl ?_
      refine r_getI hX hP rfl fl_X6_83_131 hS (fun sf20 sf20e sf20a sf20b => ?_)
      have k21 := rq_start f6
      have k21 := sf20e.trans k21
      refine r_ex hX hP 2 (pc' := 21) (st' := [(0, 8), (0, (af18 - sf20))]) (lo' := [(0, (2, this))]) rfl ?_
      refine r_ic_le hX hP rfl (tgt := 32) rfl (by first | decide | omega) (by first | decide | omega) (by first | decide | omega) (by first | decide | omega) (fun c22 => ?_) (fun c22 => ?_)
      · skip
        refine r_ex hX hP 2 (pc' := 37) (st' := [(0, 1)]) (lo' := [(0, (2, this))]) rfl ?_
        have hC23 : pEx TT nn 1 sr = pNa TT nn sr := by
          unfold pNa; (repeat (first | rw [if_pos (by first | decide | omega)] | rw [if_neg (by first | decide | omega)])); try rfl
        have hC231 : (pNa TT nn sr) 1 = (pEx TT nn 1 sr) 1 := congrFun hC23.symm 1
        exact r_retZ hX hP rfl rfl (by first | decide | omega) (by first | decide | omega) (by first | decide | omega) (by first | decide | omega) ⟨rfl, ⟨_, (hw_sub (hw_refl _ _) rfl).symm⟩, 1, rfl, (by first | decide | omega), (by first | decide | omega), (by first | decide | omega), (rd_cast f6 hC23)⟩
      · skip
        refine r_ex hX hP 2 (pc' := 26) (st' := [(0, 2), (2, this)]) (lo' := [(0, (2, this))]) rfl ?_
        refine r_callV gd hX hP rfl cv_X6_44_131 hS (d' := 0) (mc' := 0) (ms' := 0) (as' := [(0, 2)]) (st := []) (by first | decide | omega) (by first | decide | omega) (by first | decide | omega) rfl rfl (Nat.le_of_ble_eq_true rfl) (c_X6_failR E S (hw [(131, 1), (131, 2)] G G3) this 2 hS tx tx_e tx_s (by first | decide | omega) (by first | decide | omega) TT nn (pEx TT nn 1 sr) f6) ?_
        rintro _ _ _ ⟨rfl, ⟨G24, rfl⟩, z25, rfl, flh26, flh26e, rfl, f27, f28⟩
        have k29 := rq_flaw f28
        have k29 := flh26e.trans k29
        refine r_peekI hX (tl_131 1 rfl (by decide)) hS (fun o30 o30e o30a o30b => ?_)
        obtain rfl : flh26 = o30 := flh26e.trans o30e.symm
        refine r_if_eq hX hP rfl (tgt := 36) rfl (by first | decide | omega) (by first | decide | omega) (fun c31 => ?_) (fun c31 => ?_)
        · skip
          refine r_ex hX hP 1 (pc' := 37) (st' := [(0, 0)]) (lo' := [(0, (2, this))]) rfl ?_
          have hC32 : pFl TT nn 2 (pEx TT nn 1 sr) = pNa TT nn sr := by
            unfold pNa; (repeat (first | rw [if_pos (by first | decide | omega)] | rw [if_neg (by first | decide | omega)])); try rfl
          have hC321 : (pNa TT nn sr) 1 = (pFl TT nn 2 (pEx TT nn 1 sr)) 1 := congrFun hC32.symm 1
          exact r_retZ hX hP rfl rfl (by first | decide | omega) (by first | decide | omega) (by first | decide | omega) (by first | decide | omega) ⟨rfl, ⟨_, (hw_sub (hw_sub (hw_refl _ _) rfl) rfl).symm⟩, 0, rfl, (by first | decide | omega), (by first | decide | omega), (by first | decide | omega), (rd_cast f28 hC32)⟩
        · skip
          exfalso; omega
    · skip
      exfalso; omega
  · skip
    have k33 := congrArg (tkK TT nn) (pEx_0 TT nn 1 sr)
    have k34 := congrArg (tkV TT nn) (pEx_0 TT nn 1 sr)
    have k35 := congrArg (tkS TT nn) (pEx_0 TT nn 1 sr)
    have k36 := congrArg (tkE TT nn) (pEx_0 TT nn 1 sr)
    have k37 := rq_flaw f6
    have k37 := flh5e.trans k37
    refine r_peekI hX (tl_131 1 rfl (by decide)) hS (fun o38 o38e o38a o38b => ?_)
    obtain rfl : flh5 = o38 := flh5e.trans o38e.symm
    refine r_if_ne hX hP rfl (tgt := 10) rfl (by first | decide | omega) (by first | decide | omega) (fun c39 => ?_) (fun c39 => ?_)
    · skip
      exfalso; omega
    · skip
      refine r_ex hX hP 1 (pc' := 9) (st' := [(0, 0)]) (lo' := [(0, (2, this))]) rfl ?_
      have hC40 : pEx TT nn 1 sr = pNa TT nn sr := by
        unfold pNa; (repeat (first | rw [if_pos (by first | decide | omega)] | rw [if_neg (by first | decide | omega)])); try rfl
      have hC401 : (pNa TT nn sr) 1 = (pEx TT nn 1 sr) 1 := congrFun hC40.symm 1
      exact r_retZ hX hP rfl rfl (by first | decide | omega) (by first | decide | omega) (by first | decide | omega) (by first | decide | omega) ⟨rfl, ⟨_, (hw_sub (hw_refl _ _) rfl).symm⟩, 0, rfl, (by first | decide | omega), (by first | decide | omega), (by first | decide | omega), (rd_cast f6 hC40)⟩
set_option maxRecDepth 100000 in
set_option maxHeartbeats 4000000 in
theorem c_X6_namedR (E : En) (S : Sg) (G : Gh) (this : Int) (hS : S this = 131) (tx : Int) (tx_e : tx = G 131 this 9) (tx_s : S tx = 136) (TT : Tp) (nn : Int) (sr : Rg) (rd : RdC TT nn sr G this tx) : Calls E mX6_named [(2, this)] S G 0 0 0 (fun r S' G' => S = S' ∧ G = G' ∧ ∃ z : Int, r = some (0, z) ∧ (-1) ≤ z ∧ z ≤ 2 ∧ z = pNm TT nn sr 0 ∧ RdC TT nn (sr) G' this tx) := by
  refine calls_by [(0, (2, this))] rfl rfl (Nat.le_of_ble_eq_true rfl) (fun X hX => ?_)
  have hP := hPX6_named
  have k1 := rq_n4 rd
  have k2 := rq_p0 rd
  have k3 := rq_p1 rd
  have k4 := tkE_le (T := TT) (rq_p1 rd)
  have k5 := tkS_ge TT nn (sr 0)
  have k6 := tkE_ge TT nn (sr 0)
  refine r_ex hX hP 2 (pc' := 2) (st' := []) (lo' := [(0, (2, this)), (1, (0, 0))]) rfl ?_
  have loop2 : ∀ (nF : Nat) (l1_h2 : Int), 0 ≤ l1_h2 → l1_h2 ≤ 3 → pNm TT nn sr l1_h2 = pNm TT nn sr 0 → 3 - l1_h2 < (nF : Int) → X 0 0 2 [] [(0, (2, this)), (1, (0, l1_h2))] S G := by
    intro nF
    induction nF with
    | zero => intro l1_h2 yh2_0 yh2_1 yh2_2 ym2; exfalso; omega
    | succ nF ih2 =>
      intro l1_h2 yh2_0 yh2_1 yh2_2 ym2
      have k7 := nm_or TT nn sr l1_h2
      refine r_ex hX hP 2 (pc' := 4) (st' := [(2, this), (0, l1_h2)]) (lo' := [(0, (2, this)), (1, (0, l1_h2))]) rfl ?_
      refine r_getKN hX hP rfl fl_X6_54_131 hS (x := tx) tx_e ?_
      refine r_getI hX hP rfl fl_X6_173_136 tx_s (fun cf8 cf8e cf8a cf8b => ?_)
      have k9 := rq_cc rd
      have k9 := cf8e.trans k9
      refine r_ic_ge hX hP rfl (tgt := 114) rfl (by first | decide | omega) (by first | decide | omega) (by first | decide | omega) (by first | decide | omega) (fun c10 => ?_) (fun c10 => ?_)
      · skip
        refine r_ex hX hP 1 (pc' := 115) (st' := [(0, (-1))]) (lo' := [(0, (2, this)), (1, (0, l1_h2))]) rfl ?_
        exact r_retI hX hP rfl rfl (by first | decide | omega) (by first | decide | omega) ⟨rfl, rfl, (-1), rfl, (by first | decide | omega), (by first | decide | omega), (by first | decide | omega), rd⟩
      · skip
        refine r_ex hX hP 1 (pc' := 14) (st' := [(2, this)]) (lo' := [(0, (2, this)), (1, (0, l1_h2))]) rfl ?_
        refine r_getI hX hP rfl fl_X6_67_131 hS (fun af11 af11e af11a af11b => ?_)
        have k12 := rq_at rd
        have k12 := af11e.trans k12
        refine r_ex hX hP 1 (pc' := 18) (st' := [(2, this), (0, af11)]) (lo' := [(0, (2, this)), (1, (0, l1_h2))]) rfl ?_
        refine r_getI hX hP rfl fl_X6_83_131 hS (fun sf13 sf13e sf13a sf13b => ?_)
        have k14 := rq_start rd
        have k14 := sf13e.trans k14
        refine r_ex hX hP 2 (pc' := 23) (st' := [(2, this), (0, (af11 - sf13))]) (lo' := [(0, (2, this)), (1, (0, l1_h2))]) rfl ?_
        refine r_getR hX hP rfl fl_X6_28_131 hS (fun nf15 nf15e nf15s => ?_)
        refine r_ex hX hP 1 (pc' := 27) (st' := [(0, l1_h2), (2, nf15), (0, (af11 - sf13))]) (lo' := [(0, (2, this)), (1, (0, l1_h2))]) rfl ?_
        refine r_iald hX hP rfl al_107 nf15s (by first | decide | omega) (by first | decide | omega) (fun x16 x16e x16a x16b => ?_)
        have k17 := rd_nbx rd nf15e x16e (by first | decide | omega) (by first | decide | omega) (by first | decide | omega)
        refine r_ex hX hP 1 (pc' := 29) (st' := [(2, this), (0, x16), (0, (af11 - sf13))]) (lo' := [(0, (2, this)), (1, (0, l1_h2))]) rfl ?_
        refine r_getR hX hP rfl fl_X6_25_131 hS (fun nf18 nf18e nf18s => ?_)
        refine r_ex hX hP 1 (pc' := 33) (st' := [(0, l1_h2), (2, nf18), (0, x16), (0, (af11 - sf13))]) (lo' := [(0, (2, this)), (1, (0, l1_h2))]) rfl ?_
        refine r_iald hX hP rfl al_107 nf18s (by first | decide | omega) (by first | decide | omega) (fun x19 x19e x19a x19b => ?_)
        have k20 := rd_nax rd nf18e x19e (by first | decide | omega) (by first | decide | omega) (by first | decide | omega)
        refine r_ex hX hP 1 (pc' := 35) (st' := [(0, (x16 - x19)), (0, (af11 - sf13))]) (lo' := [(0, (2, this)), (1, (0, l1_h2))]) rfl ?_
        refine r_ic_ne hX hP rfl (tgt := 42) rfl (by first | decide | omega) (by first | decide | omega) (by first | decide | omega) (by first | decide | omega) (fun c21 => ?_) (fun c21 => ?_)
        · skip
          refine r_ex hX hP 2 (pc' := 44) (st' := []) (lo' := [(0, (2, this)), (1, (0, l1_h2)), (2, (0, 0))]) rfl ?_
          have k22 := smr_or TT (tkS TT nn (sr 0)) (tkE TT nn (sr 0)) (n3 sr 20 l1_h2) (n3 sr 30 l1_h2)
          refine r_ex hX hP 2 (pc' := 46) (st' := []) (lo' := [(0, (2, this)), (1, (0, l1_h2)), (2, (0, 0)), (3, (0, 0))]) rfl ?_
          have x102 : ∀ (l2_x102 l3_x102 : Int), 0 ≤ l2_x102 → l2_x102 ≤ 1 → 0 ≤ l3_x102 → l3_x102 ≤ 400 → (l2_x102 = 1 ∨ smr TT (tkS TT nn (sr 0)) (tkE TT nn (sr 0)) (n3 sr 20 l1_h2) (n3 sr 30 l1_h2) = 0) → (l2_x102 = 0 ∨ smr TT (tkS TT nn (sr 0)) (tkE TT nn (sr 0)) (n3 sr 20 l1_h2) (n3 sr 30 l1_h2) = 1) → X 0 0 102 [] [(0, (2, this)), (1, (0, l1_h2)), (2, (0, l2_x102)), (3, (0, l3_x102))] S G := by
            intro l2_x102 l3_x102 yx102_0 yx102_1 yx102_2 yx102_3 yx102_4 yx102_5
            refine r_ex hX hP 1 (pc' := 103) (st' := [(0, l2_x102)]) (lo' := [(0, (2, this)), (1, (0, l1_h2)), (2, (0, l2_x102)), (3, (0, l3_x102))]) rfl ?_
            refine r_if_eq hX hP rfl (tgt := 108) rfl (by first | decide | omega) (by first | decide | omega) (fun c23 => ?_) (fun c23 => ?_)
            · skip
              refine r_ex hX hP 2 (pc' := 2) (st' := []) (lo' := [(0, (2, this)), (1, (0, (l1_h2 + 1))), (2, (0, l2_x102)), (3, (0, l3_x102))]) rfl ?_
              refine r_pick hX [0, 1] (lo' := [(0, (2, this)), (1, (0, (l1_h2 + 1)))]) rfl ?_
              exact ih2 (l1_h2 + 1) (by first | decide | omega) (by first | decide | omega) (by first | decide | omega) (by first | decide | omega)
            · skip
              refine r_ex hX hP 1 (pc' := 107) (st' := [(0, l1_h2)]) (lo' := [(0, (2, this)), (1, (0, l1_h2)), (2, (0, l2_x102)), (3, (0, l3_x102))]) rfl ?_
              exact r_retI hX hP rfl rfl (by first | decide | omega) (by first | decide | omega) ⟨rfl, rfl, l1_h2, rfl, (by first | decide | omega), (by first | decide | omega), (by first | decide | omega), rd⟩
          have loop46 : ∀ (nF : Nat) (l2_h46 l3_h46 : Int), 0 ≤ l2_h46 → l2_h46 ≤ 1 → 0 ≤ l3_h46 → l3_h46 ≤ 400 → (l2_h46 = 0 ∨ af11 - sf13 = x16 - x19) → (l2_h46 = 0 ∨ (tkE TT nn (sr 0) - tkS TT nn (sr 0) = n3 sr 30 l1_h2 - n3 sr 20 l1_h2 ∧ eqv (fun i => TT (tkS TT nn (sr 0) + i)) (fun i => TT (n3 sr 20 l1_h2 + i)) (tkE TT nn (sr 0) - tkS TT nn (sr 0)) l3_h46 = eqv (fun i => TT (tkS TT nn (sr 0) + i)) (fun i => TT (n3 sr 20 l1_h2 + i)) (tkE TT nn (sr 0) - tkS TT nn (sr 0)) 0)) → (l2_h46 = 1 ∨ smr TT (tkS TT nn (sr 0)) (tkE TT nn (sr 0)) (n3 sr 20 l1_h2) (n3 sr 30 l1_h2) = 0) → 400 - l3_h46 < (nF : Int) → X 0 0 46 [] [(0, (2, this)), (1, (0, l1_h2)), (2, (0, l2_h46)), (3, (0, l3_h46))] S G := by
            intro nF
            induction nF with
            | zero => intro l2_h46 l3_h46 yh46_0 yh46_1 yh46_2 yh46_3 yh46_4 yh46_5 yh46_6 ym46; exfalso; omega
            | succ nF ih46 =>
              intro l2_h46 l3_h46 yh46_0 yh46_1 yh46_2 yh46_3 yh46_4 yh46_5 yh46_6 ym46
              have k24 := eq2_or (T := TT) (k := l3_h46) (m := tkE TT nn (sr 0) - tkS TT nn (sr 0)) (show sf13 = tkS TT nn (sr 0) from by omega) (show x19 = n3 sr 20 l1_h2 from by omega)
              refine r_ex hX hP 1 (pc' := 47) (st' := [(0, l2_h46)]) (lo' := [(0, (2, this)), (1, (0, l1_h2)), (2, (0, l2_h46)), (3, (0, l3_h46))]) rfl ?_
              refine r_if_eq hX hP rfl (tgt := 102) rfl (by first | decide | omega) (by first | decide | omega) (fun c25 => ?_) (fun c25 => ?_)
              · skip
                exact x102 l2_h46 l3_h46 (by first | decide | omega) (by first | decide | omega) (by first | decide | omega) (by first | decide | omega) (by first | decide | omega) (by first | decide | omega)
              · skip
                refine r_ex hX hP 2 (pc' := 52) (st' := [(2, this), (0, l3_h46)]) (lo' := [(0, (2, this)), (1, (0, l1_h2)), (2, (0, l2_h46)), (3, (0, l3_h46))]) rfl ?_
                refine r_getKI hX hP rfl fl_X6_67_131 hS (x := af11) af11e ?_
                refine r_ex hX hP 1 (pc' := 56) (st' := [(2, this), (0, af11), (0, l3_h46)]) (lo' := [(0, (2, this)), (1, (0, l1_h2)), (2, (0, l2_h46)), (3, (0, l3_h46))]) rfl ?_
                refine r_getKI hX hP rfl fl_X6_83_131 hS (x := sf13) sf13e ?_
                refine r_ex hX hP 1 (pc' := 60) (st' := [(0, (af11 - sf13)), (0, l3_h46)]) (lo' := [(0, (2, this)), (1, (0, l1_h2)), (2, (0, l2_h46)), (3, (0, l3_h46))]) rfl ?_
                refine r_ic_ge hX hP rfl (tgt := 102) rfl (by first | decide | omega) (by first | decide | omega) (by first | decide | omega) (by first | decide | omega) (fun c26 => ?_) (fun c26 => ?_)
                · skip
                  exact x102 l2_h46 l3_h46 (by first | decide | omega) (by first | decide | omega) (by first | decide | omega) (by first | decide | omega) (by first | decide | omega) (by first | decide | omega)
                · skip
                  refine r_ex hX hP 1 (pc' := 64) (st' := [(2, this)]) (lo' := [(0, (2, this)), (1, (0, l1_h2)), (2, (0, l2_h46)), (3, (0, l3_h46))]) rfl ?_
                  refine r_getR hX hP rfl fl_X6_18_131 hS (fun tf27 tf27e tf27s => ?_)
                  refine r_ex hX hP 1 (pc' := 68) (st' := [(2, this), (2, tf27)]) (lo' := [(0, (2, this)), (1, (0, l1_h2)), (2, (0, l2_h46)), (3, (0, l3_h46))]) rfl ?_
                  refine r_getKI hX hP rfl fl_X6_83_131 hS (x := sf13) sf13e ?_
                  refine r_ex hX hP 2 (pc' := 73) (st' := [(0, (sf13 + l3_h46)), (2, tf27)]) (lo' := [(0, (2, this)), (1, (0, l1_h2)), (2, (0, l2_h46)), (3, (0, l3_h46))]) rfl ?_
                  refine r_iald hX hP rfl al_105 tf27s (by first | decide | omega) (by first | decide | omega) (fun x28 x28e x28a x28b => ?_)
                  have k29 := rd_tpx rd tf27e x28e
                  refine r_ex hX hP 1 (pc' := 75) (st' := [(2, this), (0, x28)]) (lo' := [(0, (2, this)), (1, (0, l1_h2)), (2, (0, l2_h46)), (3, (0, l3_h46))]) rfl ?_
                  refine r_getKR hX hP rfl fl_X6_18_131 hS (x := tf27) tf27e ?_
                  refine r_ex hX hP 1 (pc' := 79) (st' := [(2, this), (2, tf27), (0, x28)]) (lo' := [(0, (2, this)), (1, (0, l1_h2)), (2, (0, l2_h46)), (3, (0, l3_h46))]) rfl ?_
                  refine r_getKR hX hP rfl fl_X6_25_131 hS (x := nf18) nf18e ?_
                  refine r_ex hX hP 1 (pc' := 83) (st' := [(0, l1_h2), (2, nf18), (2, tf27), (0, x28)]) (lo' := [(0, (2, this)), (1, (0, l1_h2)), (2, (0, l2_h46)), (3, (0, l3_h46))]) rfl ?_
                  refine r_ialdK hX hP rfl al_107 nf18s (by first | decide | omega) (by first | decide | omega) (x := x19) x19e ?_
                  refine r_ex hX hP 2 (pc' := 86) (st' := [(0, (x19 + l3_h46)), (2, tf27), (0, x28)]) (lo' := [(0, (2, this)), (1, (0, l1_h2)), (2, (0, l2_h46)), (3, (0, l3_h46))]) rfl ?_
                  refine r_iald hX hP rfl al_105 tf27s (by first | decide | omega) (by first | decide | omega) (fun x30 x30e x30a x30b => ?_)
                  have k31 := rd_tpx rd tf27e x30e
                  refine r_ic_ne hX hP rfl (tgt := 94) rfl (by first | decide | omega) (by first | decide | omega) (by first | decide | omega) (by first | decide | omega) (fun c32 => ?_) (fun c32 => ?_)
                  · skip
                    refine r_ex hX hP 4 (pc' := 46) (st' := []) (lo' := [(0, (2, this)), (1, (0, l1_h2)), (2, (0, 0)), (3, (0, (l3_h46 + 1)))]) rfl ?_
                    exact ih46 0 (l3_h46 + 1) (by first | decide | omega) (by first | decide | omega) (by first | decide | omega) (by first | decide | omega) (by first | decide | omega) (by first | decide | omega) (by first | decide | omega) (by first | decide | omega)
                  · skip
                    refine r_ex hX hP 5 (pc' := 46) (st' := []) (lo' := [(0, (2, this)), (1, (0, l1_h2)), (2, (0, 1)), (3, (0, (l3_h46 + 1)))]) rfl ?_
                    exact ih46 1 (l3_h46 + 1) (by first | decide | omega) (by first | decide | omega) (by first | decide | omega) (by first | decide | omega) (by first | decide | omega) (by first | decide | omega) (by first | decide | omega) (by first | decide | omega)
          exact loop46 ((400 - 0) + 1 : Int).toNat 0 0 (by first | decide | omega) (by first | decide | omega) (by first | decide | omega) (by first | decide | omega) (by first | decide | omega) (by first | decide | omega) (by first | decide | omega) (by first | decide | omega)
        · skip
          refine r_ex hX hP 3 (pc' := 44) (st' := []) (lo' := [(0, (2, this)), (1, (0, l1_h2)), (2, (0, 1))]) rfl ?_
          have k33 := smr_or TT (tkS TT nn (sr 0)) (tkE TT nn (sr 0)) (n3 sr 20 l1_h2) (n3 sr 30 l1_h2)
          refine r_ex hX hP 2 (pc' := 46) (st' := []) (lo' := [(0, (2, this)), (1, (0, l1_h2)), (2, (0, 1)), (3, (0, 0))]) rfl ?_
          have x102 : ∀ (l2_x102 l3_x102 : Int), 0 ≤ l2_x102 → l2_x102 ≤ 1 → 0 ≤ l3_x102 → l3_x102 ≤ 400 → (l2_x102 = 1 ∨ smr TT (tkS TT nn (sr 0)) (tkE TT nn (sr 0)) (n3 sr 20 l1_h2) (n3 sr 30 l1_h2) = 0) → (l2_x102 = 0 ∨ smr TT (tkS TT nn (sr 0)) (tkE TT nn (sr 0)) (n3 sr 20 l1_h2) (n3 sr 30 l1_h2) = 1) → X 0 0 102 [] [(0, (2, this)), (1, (0, l1_h2)), (2, (0, l2_x102)), (3, (0, l3_x102))] S G := by
            intro l2_x102 l3_x102 yx102_0 yx102_1 yx102_2 yx102_3 yx102_4 yx102_5
            refine r_ex hX hP 1 (pc' := 103) (st' := [(0, l2_x102)]) (lo' := [(0, (2, this)), (1, (0, l1_h2)), (2, (0, l2_x102)), (3, (0, l3_x102))]) rfl ?_
            refine r_if_eq hX hP rfl (tgt := 108) rfl (by first | decide | omega) (by first | decide | omega) (fun c34 => ?_) (fun c34 => ?_)
            · skip
              refine r_ex hX hP 2 (pc' := 2) (st' := []) (lo' := [(0, (2, this)), (1, (0, (l1_h2 + 1))), (2, (0, l2_x102)), (3, (0, l3_x102))]) rfl ?_
              refine r_pick hX [0, 1] (lo' := [(0, (2, this)), (1, (0, (l1_h2 + 1)))]) rfl ?_
              exact ih2 (l1_h2 + 1) (by first | decide | omega) (by first | decide | omega) (by first | decide | omega) (by first | decide | omega)
            · skip
              refine r_ex hX hP 1 (pc' := 107) (st' := [(0, l1_h2)]) (lo' := [(0, (2, this)), (1, (0, l1_h2)), (2, (0, l2_x102)), (3, (0, l3_x102))]) rfl ?_
              exact r_retI hX hP rfl rfl (by first | decide | omega) (by first | decide | omega) ⟨rfl, rfl, l1_h2, rfl, (by first | decide | omega), (by first | decide | omega), (by first | decide | omega), rd⟩
          have loop46 : ∀ (nF : Nat) (l2_h46 l3_h46 : Int), 0 ≤ l2_h46 → l2_h46 ≤ 1 → 0 ≤ l3_h46 → l3_h46 ≤ 400 → (l2_h46 = 0 ∨ af11 - sf13 = x16 - x19) → (l2_h46 = 0 ∨ (tkE TT nn (sr 0) - tkS TT nn (sr 0) = n3 sr 30 l1_h2 - n3 sr 20 l1_h2 ∧ eqv (fun i => TT (tkS TT nn (sr 0) + i)) (fun i => TT (n3 sr 20 l1_h2 + i)) (tkE TT nn (sr 0) - tkS TT nn (sr 0)) l3_h46 = eqv (fun i => TT (tkS TT nn (sr 0) + i)) (fun i => TT (n3 sr 20 l1_h2 + i)) (tkE TT nn (sr 0) - tkS TT nn (sr 0)) 0)) → (l2_h46 = 1 ∨ smr TT (tkS TT nn (sr 0)) (tkE TT nn (sr 0)) (n3 sr 20 l1_h2) (n3 sr 30 l1_h2) = 0) → 400 - l3_h46 < (nF : Int) → X 0 0 46 [] [(0, (2, this)), (1, (0, l1_h2)), (2, (0, l2_h46)), (3, (0, l3_h46))] S G := by
            intro nF
            induction nF with
            | zero => intro l2_h46 l3_h46 yh46_0 yh46_1 yh46_2 yh46_3 yh46_4 yh46_5 yh46_6 ym46; exfalso; omega
            | succ nF ih46 =>
              intro l2_h46 l3_h46 yh46_0 yh46_1 yh46_2 yh46_3 yh46_4 yh46_5 yh46_6 ym46
              have k35 := eq2_or (T := TT) (k := l3_h46) (m := tkE TT nn (sr 0) - tkS TT nn (sr 0)) (show sf13 = tkS TT nn (sr 0) from by omega) (show x19 = n3 sr 20 l1_h2 from by omega)
              refine r_ex hX hP 1 (pc' := 47) (st' := [(0, l2_h46)]) (lo' := [(0, (2, this)), (1, (0, l1_h2)), (2, (0, l2_h46)), (3, (0, l3_h46))]) rfl ?_
              refine r_if_eq hX hP rfl (tgt := 102) rfl (by first | decide | omega) (by first | decide | omega) (fun c36 => ?_) (fun c36 => ?_)
              · skip
                exact x102 l2_h46 l3_h46 (by first | decide | omega) (by first | decide | omega) (by first | decide | omega) (by first | decide | omega) (by first | decide | omega) (by first | decide | omega)
              · skip
                refine r_ex hX hP 2 (pc' := 52) (st' := [(2, this), (0, l3_h46)]) (lo' := [(0, (2, this)), (1, (0, l1_h2)), (2, (0, l2_h46)), (3, (0, l3_h46))]) rfl ?_
                refine r_getKI hX hP rfl fl_X6_67_131 hS (x := af11) af11e ?_
                refine r_ex hX hP 1 (pc' := 56) (st' := [(2, this), (0, af11), (0, l3_h46)]) (lo' := [(0, (2, this)), (1, (0, l1_h2)), (2, (0, l2_h46)), (3, (0, l3_h46))]) rfl ?_
                refine r_getKI hX hP rfl fl_X6_83_131 hS (x := sf13) sf13e ?_
                refine r_ex hX hP 1 (pc' := 60) (st' := [(0, (af11 - sf13)), (0, l3_h46)]) (lo' := [(0, (2, this)), (1, (0, l1_h2)), (2, (0, l2_h46)), (3, (0, l3_h46))]) rfl ?_
                refine r_ic_ge hX hP rfl (tgt := 102) rfl (by first | decide | omega) (by first | decide | omega) (by first | decide | omega) (by first | decide | omega) (fun c37 => ?_) (fun c37 => ?_)
                · skip
                  exact x102 l2_h46 l3_h46 (by first | decide | omega) (by first | decide | omega) (by first | decide | omega) (by first | decide | omega) (by first | decide | omega) (by first | decide | omega)
                · skip
                  refine r_ex hX hP 1 (pc' := 64) (st' := [(2, this)]) (lo' := [(0, (2, this)), (1, (0, l1_h2)), (2, (0, l2_h46)), (3, (0, l3_h46))]) rfl ?_
                  refine r_getR hX hP rfl fl_X6_18_131 hS (fun tf38 tf38e tf38s => ?_)
                  refine r_ex hX hP 1 (pc' := 68) (st' := [(2, this), (2, tf38)]) (lo' := [(0, (2, this)), (1, (0, l1_h2)), (2, (0, l2_h46)), (3, (0, l3_h46))]) rfl ?_
                  refine r_getKI hX hP rfl fl_X6_83_131 hS (x := sf13) sf13e ?_
                  refine r_ex hX hP 2 (pc' := 73) (st' := [(0, (sf13 + l3_h46)), (2, tf38)]) (lo' := [(0, (2, this)), (1, (0, l1_h2)), (2, (0, l2_h46)), (3, (0, l3_h46))]) rfl ?_
                  refine r_iald hX hP rfl al_105 tf38s (by first | decide | omega) (by first | decide | omega) (fun x39 x39e x39a x39b => ?_)
                  have k40 := rd_tpx rd tf38e x39e
                  refine r_ex hX hP 1 (pc' := 75) (st' := [(2, this), (0, x39)]) (lo' := [(0, (2, this)), (1, (0, l1_h2)), (2, (0, l2_h46)), (3, (0, l3_h46))]) rfl ?_
                  refine r_getKR hX hP rfl fl_X6_18_131 hS (x := tf38) tf38e ?_
                  refine r_ex hX hP 1 (pc' := 79) (st' := [(2, this), (2, tf38), (0, x39)]) (lo' := [(0, (2, this)), (1, (0, l1_h2)), (2, (0, l2_h46)), (3, (0, l3_h46))]) rfl ?_
                  refine r_getKR hX hP rfl fl_X6_25_131 hS (x := nf18) nf18e ?_
                  refine r_ex hX hP 1 (pc' := 83) (st' := [(0, l1_h2), (2, nf18), (2, tf38), (0, x39)]) (lo' := [(0, (2, this)), (1, (0, l1_h2)), (2, (0, l2_h46)), (3, (0, l3_h46))]) rfl ?_
                  refine r_ialdK hX hP rfl al_107 nf18s (by first | decide | omega) (by first | decide | omega) (x := x19) x19e ?_
                  refine r_ex hX hP 2 (pc' := 86) (st' := [(0, (x19 + l3_h46)), (2, tf38), (0, x39)]) (lo' := [(0, (2, this)), (1, (0, l1_h2)), (2, (0, l2_h46)), (3, (0, l3_h46))]) rfl ?_
                  refine r_iald hX hP rfl al_105 tf38s (by first | decide | omega) (by first | decide | omega) (fun x41 x41e x41a x41b => ?_)
                  have k42 := rd_tpx rd tf38e x41e
                  refine r_ic_ne hX hP rfl (tgt := 94) rfl (by first | decide | omega) (by first | decide | omega) (by first | decide | omega) (by first | decide | omega) (fun c43 => ?_) (fun c43 => ?_)
                  · skip
                    refine r_ex hX hP 4 (pc' := 46) (st' := []) (lo' := [(0, (2, this)), (1, (0, l1_h2)), (2, (0, 0)), (3, (0, (l3_h46 + 1)))]) rfl ?_
                    exact ih46 0 (l3_h46 + 1) (by first | decide | omega) (by first | decide | omega) (by first | decide | omega) (by first | decide | omega) (by first | decide | omega) (by first | decide | omega) (by first | decide | omega) (by first | decide | omega)
                  · skip
                    refine r_ex hX hP 5 (pc' := 46) (st' := []) (lo' := [(0, (2, this)), (1, (0, l1_h2)), (2, (0, 1)), (3, (0, (l3_h46 + 1)))]) rfl ?_
                    exact ih46 1 (l3_h46 + 1) (by first | decide | omega) (by first | decide | omega) (by first | decide | omega) (by first | decide | omega) (by first | decide | omega) (by first | decide | omega) (by first | decide | omega) (by first | decide | omega)
          exact loop46 ((400 - 0) + 1 : Int).toNat 1 0 (by first | decide | omega) (by first | decide | omega) (by first | decide | omega) (by first | decide | omega) (by first | decide | omega) (by first | decide | omega) (by first | decide | omega) (by first | decide | omega)
  exact loop2 ((3 - 0) + 1 : Int).toNat 0 (by first | decide | omega) (by first | decide | omega) (by first | decide | omega) (by first | decide | omega)
