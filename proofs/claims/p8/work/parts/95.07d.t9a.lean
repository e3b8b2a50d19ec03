set_option maxRecDepth 100000 in
set_option maxHeartbeats 4000000 in
theorem c_X12_clauseKindR (E : En) (S : Sg) (G : Gh) (hS : S (Ad E 1) = 1) (TT : Tp) (nn : Int) (sr : Rg) (rd : RdM E TT nn sr G) : Calls E mX12_clauseKind [(2, (Ad E 1))] S G 2 0 0 (fun r S' G' => S = S' ∧ G = G' ∧ ∃ z : Int, r = some (0, z) ∧ (-1) ≤ z ∧ z ≤ 9 ∧ z = pCw TT nn (sr 0) ∧ RdM E TT nn (sr) G') := by
  refine calls_by [(0, (2, (Ad E 1)))] rfl rfl (Nat.le_of_ble_eq_true rfl) (fun X hX => ?_)
  have hP := hPX12_clauseKind
  refine r_ex hX hP 7 (pc' := 11) (st' := [(0, 0), (0, 0), (0, 101), (0, 118), (0, 105), (0, 103), (2, (Ad E 1))]) (lo' := [(0, (2, (Ad E 1)))]) rfl ?_
  refine r_callS gd hX hP rfl cs_12_405 (d' := 0) (mc' := 0) (ms' := 0) (as' := [(0, 103), (0, 105), (0, 118), (0, 101), (0, 0), (0, 0)]) (st := [(2, (Ad E 1))]) (by first | decide | omega) (by first | decide | omega) (by first | decide | omega) rfl rfl (Nat.le_of_ble_eq_true rfl) (c_X12_spelledR E S G 103 105 118 101 0 0 (by first | decide | omega) (by first | decide | omega) (by first | decide | omega) (by first | decide | omega) (by first | decide | omega) (by first | decide | omega) (by first | decide | omega) (by first | decide | omega) (by first | decide | omega) (by first | decide | omega) (by first | decide | omega) (by first | decide | omega)) ?_
  rintro _ _ _ ⟨rfl, rfl, z1, rfl, z1a, z1b, f2⟩
  have k3 := (show sp6 103 105 118 101 0 0 = 239301 from by decide)
  refine r_callV gd hX hP rfl cv_12_401 hS (d' := 0) (mc' := 0) (ms' := 0) (as' := [(1, z1)]) (st := []) (by first | decide | omega) (by first | decide | omega) (by first | decide | omega) rfl rfl (Nat.le_of_ble_eq_true rfl) (c_X12_isWordR E S G z1 hS (by first | decide | omega) (by first | decide | omega) TT nn sr rd) ?_
  rintro _ _ _ ⟨rfl, rfl, z4, rfl, z4a, z4b, f5, r6⟩
  have k7 := isw_eq (T := TT) (n := nn) (p := sr 0) (k := 1) (lit := 239301) (by decide) (by decide +kernel) (show z1 = 239301 from by omega) f5
  clear f5
  refine r_if_eq hX hP rfl (tgt := 22) rfl (by first | decide | omega) (by first | decide | omega) (fun c8 => ?_) (fun c8 => ?_)
  · skip
    refine r_ex hX hP 7 (pc' := 33) (st' := [(0, 0), (0, 0), (0, 101), (0, 107), (0, 97), (0, 116), (2, (Ad E 1))]) (lo' := [(0, (2, (Ad E 1)))]) rfl ?_
    refine r_callS gd hX hP rfl cs_12_405 (d' := 0) (mc' := 0) (ms' := 0) (as' := [(0, 116), (0, 97), (0, 107), (0, 101), (0, 0), (0, 0)]) (st := [(2, (Ad E 1))]) (by first | decide | omega) (by first | decide | omega) (by first | decide | omega) rfl rfl (Nat.le_of_ble_eq_true rfl) (c_X12_spelledR E S G 116 97 107 101 0 0 (by first | decide | omega) (by first | decide | omega) (by first | decide | omega) (by first | decide | omega) (by first | decide | omega) (by first | decide | omega) (by first | decide | omega) (by first | decide | omega) (by first | decide | omega) (by first | decide | omega) (by first | decide | omega) (by first | decide | omega)) ?_
    rintro _ _ _ ⟨rfl, rfl, z9, rfl, z9a, z9b, f10⟩
    have k11 := (show sp6 116 97 107 101 0 0 = 656741 from by decide)
    refine r_callV gd hX hP rfl cv_12_401 hS (d' := 0) (mc' := 0) (ms' := 0) (as' := [(1, z9)]) (st := []) (by first | decide | omega) (by first | decide | omega) (by first | decide | omega) rfl rfl (Nat.le_of_ble_eq_true rfl) (c_X12_isWordR E S G z9 hS (by first | decide | omega) (by first | decide | omega) TT nn sr r6) ?_
    rintro _ _ _ ⟨rfl, rfl, z12, rfl, z12a, z12b, f13, r14⟩
    have k15 := isw_eq (T := TT) (n := nn) (p := sr 0) (k := 2) (lit := 656741) (by decide) (by decide +kernel) (show z9 = 656741 from by omega) f13
    clear f13
    refine r_if_eq hX hP rfl (tgt := 44) rfl (by first | decide | omega) (by first | decide | omega) (fun c16 => ?_) (fun c16 => ?_)
    · skip
      refine r_ex hX hP 7 (pc' := 55) (st' := [(0, 0), (0, 0), (0, 110), (0, 105), (0, 111), (0, 99), (2, (Ad E 1))]) (lo' := [(0, (2, (Ad E 1)))]) rfl ?_
      refine r_callS gd hX hP rfl cs_12_405 (d' := 0) (mc' := 0) (ms' := 0) (as' := [(0, 99), (0, 111), (0, 105), (0, 110), (0, 0), (0, 0)]) (st := [(2, (Ad E 1))]) (by first | decide | omega) (by first | decide | omega) (by first | decide | omega) rfl rfl (Nat.le_of_ble_eq_true rfl) (c_X12_spelledR E S G 99 111 105 110 0 0 (by first | decide | omega) (by first | decide | omega) (by first | decide | omega) (by first | decide | omega) (by first | decide | omega) (by first | decide | omega) (by first | decide | omega) (by first | decide | omega) (by first | decide | omega) (by first | decide | omega) (by first | decide | omega) (by first | decide | omega)) ?_
      rintro _ _ _ ⟨rfl, rfl, z17, rfl, z17a, z17b, f18⟩
      have k19 := (show sp6 99 111 105 110 0 0 = 113966 from by decide)
      refine r_callV gd hX hP rfl cv_12_401 hS (d' := 0) (mc' := 0) (ms' := 0) (as' := [(1, z17)]) (st := []) (by first | decide | omega) (by first | decide | omega) (by first | decide | omega) rfl rfl (Nat.le_of_ble_eq_true rfl) (c_X12_isWordR E S G z17 hS (by first | decide | omega) (by first | decide | omega) TT nn sr r14) ?_
      rintro _ _ _ ⟨rfl, rfl, z20, rfl, z20a, z20b, f21, r22⟩
      have k23 := isw_eq (T := TT) (n := nn) (p := sr 0) (k := 3) (lit := 113966) (by decide) (by decide +kernel) (show z17 = 113966 from by omega) f21
      clear f21
      refine r_if_eq hX hP rfl (tgt := 66) rfl (by first | decide | omega) (by first | decide | omega) (fun c24 => ?_) (fun c24 => ?_)
      · skip
        refine r_ex hX hP 7 (pc' := 76) (st' := [(0, 0), (0, 0), (0, 0), (0, 121), (0, 97), (0, 112), (2, (Ad E 1))]) (lo' := [(0, (2, (Ad E 1)))]) rfl ?_
        refine r_callS gd hX hP rfl cs_12_405 (d' := 0) (mc' := 0) (ms' := 0) (as' := [(0, 112), (0, 97), (0, 121), (0, 0), (0, 0), (0, 0)]) (st := [(2, (Ad E 1))]) (by first | decide | omega) (by first | decide | omega) (by first | decide | omega) rfl rfl (Nat.le_of_ble_eq_true rfl) (c_X12_spelledR E S G 112 97 121 0 0 0 (by first | decide | omega) (by first | decide | omega) (by first | decide | omega) (by first | decide | omega) (by first | decide | omega) (by first | decide | omega) (by first | decide | omega) (by first | decide | omega) (by first | decide | omega) (by first | decide | omega) (by first | decide | omega) (by first | decide | omega)) ?_
        rintro _ _ _ ⟨rfl, rfl, z25, rfl, z25a, z25b, f26⟩
        have k27 := (show sp6 112 97 121 0 0 0 = 16441 from by decide)
        refine r_callV gd hX hP rfl cv_12_401 hS (d' := 0) (mc' := 0) (ms' := 0) (as' := [(1, z25)]) (st := []) (by first | decide | omega) (by first | decide | omega) (by first | decide | omega) rfl rfl (Nat.le_of_ble_eq_true rfl) (c_X12_isWordR E S G z25 hS (by first | decide | omega) (by first | decide | omega) TT nn sr r22) ?_
        rintro _ _ _ ⟨rfl, rfl, z28, rfl, z28a, z28b, f29, r30⟩
        have k31 := isw_eq (T := TT) (n := nn) (p := sr 0) (k := 4) (lit := 16441) (by decide) (by decide +kernel) (show z25 = 16441 from by omega) f29
        clear f29
        refine r_if_eq hX hP rfl (tgt := 87) rfl (by first | decide | omega) (by first | decide | omega) (fun c32 => ?_) (fun c32 => ?_)
        · skip
          refine r_ex hX hP 7 (pc' := 99) (st' := [(0, 0), (0, 104), (0, 116), (0, 114), (0, 111), (0, 119), (2, (Ad E 1))]) (lo' := [(0, (2, (Ad E 1)))]) rfl ?_
          refine r_callS gd hX hP rfl cs_12_405 (d' := 0) (mc' := 0) (ms' := 0) (as' := [(0, 119), (0, 111), (0, 114), (0, 116), (0, 104), (0, 0)]) (st := [(2, (Ad E 1))]) (by first | decide | omega) (by first | decide | omega) (by first | decide | omega) rfl rfl (Nat.le_of_ble_eq_true rfl) (c_X12_spelledR E S G 119 111 114 116 104 0 (by first | decide | omega) (by first | decide | omega) (by first | decide | omega) (by first | decide | omega) (by first | decide | omega) (by first | decide | omega) (by first | decide | omega) (by first | decide | omega) (by first | decide | omega) (by first | decide | omega) (by first | decide | omega) (by first | decide | omega)) ?_
          rintro _ _ _ ⟨rfl, rfl, z33, rfl, z33a, z33b, f34⟩
          have k35 := (show sp6 119 111 114 116 104 0 = 24627848 from by decide)
          refine r_callV gd hX hP rfl cv_12_401 hS (d' := 0) (mc' := 0) (ms' := 0) (as' := [(1, z33)]) (st := []) (by first | decide | omega) (by first | decide | omega) (by first | decide | omega) rfl rfl (Nat.le_of_ble_eq_true rfl) (c_X12_isWordR E S G z33 hS (by first | decide | omega) (by first | decide | omega) TT nn sr r30) ?_
          rintro _ _ _ ⟨rfl, rfl, z36, rfl, z36a, z36b, f37, r38⟩
          have k39 := isw_eq (T := TT) (n := nn) (p := sr 0) (k := 5) (lit := 24627848) (by decide) (by decide +kernel) (show z33 = 24627848 from by omega) f37
          clear f37
          refine r_if_eq hX hP rfl (tgt := 110) rfl (by first | decide | omega) (by first | decide | omega) (fun c40 => ?_) (fun c40 => ?_)
          · skip
            refine r_ex hX hP 1 (pc' := 111) (st' := [(2, (Ad E 1))]) (lo' := [(0, (2, (Ad E 1)))]) rfl ?_
            refine r_callV gd hX hP rfl cv_12_409 hS (d' := 1) (mc' := 0) (ms' := 0) (as' := []) (st := []) (by first | decide | omega) (by first | decide | omega) (by first | decide | omega) rfl rfl (Nat.le_of_ble_eq_true rfl) (c_X12_isFractionR E S G  hS TT nn sr r38) ?_
            rintro _ _ _ ⟨rfl, rfl, z41, rfl, z41a, z41b, f42, r43⟩
            refine r_if_eq hX hP rfl (tgt := 119) rfl (by first | decide | omega) (by first | decide | omega) (fun c44 => ?_) (fun c44 => ?_)
            · skip
              refine r_ex hX hP 7 (pc' := 130) (st' := [(0, 0), (0, 0), (0, 110), (0, 101), (0, 104), (0, 119), (2, (Ad E 1))]) (lo' := [(0, (2, (Ad E 1)))]) rfl ?_
              refine r_callS gd hX hP rfl cs_12_405 (d' := 0) (mc' := 0) (ms' := 0) (as' := [(0, 119), (0, 104), (0, 101), (0, 110), (0, 0), (0, 0)]) (st := [(2, (Ad E 1))]) (by first | decide | omega) (by first | decide | omega) (by first | decide | omega) rfl rfl (Nat.le_of_ble_eq_true rfl) (c_X12_spelledR E S G 119 104 101 110 0 0 (by first | decide | omega) (by first | decide | omega) (by first | decide | omega) (by first | decide | omega) (by first | decide | omega) (by first | decide | omega) (by first | decide | omega) (by first | decide | omega) (by first | decide | omega) (by first | decide | omega) (by first | decide | omega) (by first | decide | omega)) ?_
              rintro _ _ _ ⟨rfl, rfl, z45, rfl, z45a, z45b, f46⟩
              have k47 := (show sp6 119 104 101 110 0 0 = 762030 from by decide)
              refine r_callV gd hX hP rfl cv_12_401 hS (d' := 0) (mc' := 0) (ms' := 0) (as' := [(1, z45)]) (st := []) (by first | decide | omega) (by first | decide | omega) (by first | decide | omega) rfl rfl (Nat.le_of_ble_eq_true rfl) (c_X12_isWordR E S G z45 hS (by first | decide | omega) (by first | decide | omega) TT nn sr r43) ?_
              rintro _ _ _ ⟨rfl, rfl, z48, rfl, z48a, z48b, f49, r50⟩
              have k51 := isw_eq (T := TT) (n := nn) (p := sr 0) (k := 7) (lit := 762030) (by decide) (by decide +kernel) (show z45 = 762030 from by omega) f49
              clear f49
              refine r_if_eq hX hP rfl (tgt := 142) rfl (by first | decide | omega) (by first | decide | omega) (fun c52 => ?_) (fun c52 => ?_)
              · skip
                refine r_ex hX hP 7 (pc' := 155) (st' := [(0, 101), (0, 99), (0, 105), (0, 111), (0, 104), (0, 99), (2, (Ad E 1))]) (lo' := [(0, (2, (Ad E 1)))]) rfl ?_
                refine r_callS gd hX hP rfl cs_12_405 (d' := 0) (mc' := 0) (ms' := 0) (as' := [(0, 99), (0, 104), (0, 111), (0, 105), (0, 99), (0, 101)]) (st := [(2, (Ad E 1))]) (by first | decide | omega) (by first | decide | omega) (by first | decide | omega) rfl rfl (Nat.le_of_ble_eq_true rfl) (c_X12_spelledR E S G 99 104 111 105 99 101 (by first | decide | omega) (by first | decide | omega) (by first | decide | omega) (by first | decide | omega) (by first | decide | omega) (by first | decide | omega) (by first | decide | omega) (by first | decide | omega) (by first | decide | omega) (by first | decide | omega) (by first | decide | omega) (by first | decide | omega)) ?_
                rintro _ _ _ ⟨rfl, rfl, z53, rfl, z53a, z53b, f54⟩
                have k55 := (show sp6 99 104 111 105 99 101 = 109552741 from by decide)
                refine r_callV gd hX hP rfl cv_12_401 hS (d' := 0) (mc' := 0) (ms' := 0) (as' := [(1, z53)]) (st := []) (by first | decide | omega) (by first | decide | omega) (by first | decide | omega) rfl rfl (Nat.le_of_ble_eq_true rfl) (c_X12_isWordR E S G z53 hS (by first | decide | omega) (by first | decide | omega) TT nn sr r50) ?_
                rintro _ _ _ ⟨rfl, rfl, z56, rfl, z56a, z56b, f57, r58⟩
                have k59 := isw_eq (T := TT) (n := nn) (p := sr 0) (k := 8) (lit := 109552741) (by decide) (by decide +kernel) (show z53 = 109552741 from by omega) f57
                clear f57
                refine r_if_eq hX hP rfl (tgt := 167) rfl (by first | decide | omega) (by first | decide | omega) (fun c60 => ?_) (fun c60 => ?_)
                · skip
                  refine r_ex hX hP 7 (pc' := 180) (st' := [(0, 108), (0, 117), (0, 97), (0, 102), (0, 101), (0, 100), (2, (Ad E 1))]) (lo' := [(0, (2, (Ad E 1)))]) rfl ?_
                  refine r_callS gd hX hP rfl cs_12_405 (d' := 0) (mc' := 0) (ms' := 0) (as' := [(0, 100), (0, 101), (0, 102), (0, 97), (0, 117), (0, 108)]) (st := [(2, (Ad E 1))]) (by first | decide | omega) (by first | decide | omega) (by first | decide | omega) rfl rfl (Nat.le_of_ble_eq_true rfl) (c_X12_spelledR E S G 100 101 102 97 117 108 (by first | decide | omega) (by first | decide | omega) (by first | decide | omega) (by first | decide | omega) (by first | decide | omega) (by first | decide | omega) (by first | decide | omega) (by first | decide | omega) (by first | decide | omega) (by first | decide | omega) (by first | decide | omega) (by first | decide | omega)) ?_
                  rintro _ _ _ ⟨rfl, rfl, z61, rfl, z61a, z61b, f62⟩
                  have k63 := (show sp6 100 101 102 97 117 108 = 139658924 from by decide)
                  refine r_ldc2 hX hP rfl (v := 32) (tbg sg9 133 rfl rfl) ?_
                  refine r_ex hX hP 1 (pc' := 187) (st' := [(1, (z61 * 32)), (2, (Ad E 1))]) (lo' := [(0, (2, (Ad E 1)))]) rfl ?_
                  refine r_ldc2 hX hP rfl (v := 116) (tbg sg9 169 rfl rfl) ?_
                  refine r_ex hX hP 1 (pc' := 191) (st' := [(1, ((z61 * 32) + 116)), (2, (Ad E 1))]) (lo' := [(0, (2, (Ad E 1)))]) rfl ?_
                  refine r_ldc2 hX hP rfl (v := 96) (tbg sg9 134 rfl rfl) ?_
                  refine r_ex hX hP 1 (pc' := 195) (st' := [(1, (((z61 * 32) + 116) - 96)), (2, (Ad E 1))]) (lo' := [(0, (2, (Ad E 1)))]) rfl ?_
                  refine r_callV gd hX hP rfl cv_12_401 hS (d' := 0) (mc' := 0) (ms' := 0) (as' := [(1, (((z61 * 32) + 116) - 96))]) (st := []) (by first | decide | omega) (by first | decide | omega) (by first | decide | omega) rfl rfl (Nat.le_of_ble_eq_true rfl) (c_X12_isWordR E S G (((z61 * 32) + 116) - 96) hS (by first | decide | omega) (by first | decide | omega) TT nn sr r58) ?_
                  rintro _ _ _ ⟨rfl, rfl, z64, rfl, z64a, z64b, f65, r66⟩
                  have k67 := isw_eq (T := TT) (n := nn) (p := sr 0) (k := 9) (lit := 4469085588) (by decide) (by decide +kernel) (show (((z61 * 32) + 116) - 96) = 4469085588 from by omega) f65
                  clear f65
                  refine r_if_eq hX hP rfl (tgt := 204) rfl (by first | decide | omega) (by first | decide | omega) (fun c68 => ?_) (fun c68 => ?_)
                  · skip
                    refine r_ex hX hP 7 (pc' := 215) (st' := [(0, 0), (0, 0), (0, 116), (0, 115), (0, 111), (0, 109), (2, (Ad E 1))]) (lo' := [(0, (2, (Ad E 1)))]) rfl ?_
                    refine r_callS gd hX hP rfl cs_12_405 (d' := 0) (mc' := 0) (ms' := 0) (as' := [(0, 109), (0, 111), (0, 115), (0, 116), (0, 0), (0, 0)]) (st := [(2, (Ad E 1))]) (by first | decide | omega) (by first | decide | omega) (by first | decide | omega) rfl rfl (Nat.le_of_ble_eq_true rfl) (c_X12_spelledR E S G 109 111 115 116 0 0 (by first | decide | omega) (by first | decide | omega) (by first | decide | omega) (by first | decide | omega) (by first | decide | omega) (by first | decide | omega) (by first | decide | omega) (by first | decide | omega) (by first | decide | omega) (by first | decide | omega) (by first | decide | omega) (by first | decide | omega)) ?_
                    rintro _ _ _ ⟨rfl, rfl, z69, rfl, z69a, z69b, f70⟩
                    have k71 := (show sp6 109 111 115 116 0 0 = 441972 from by decide)
                    refine r_callV gd hX hP rfl cv_12_401 hS (d' := 0) (mc' := 0) (ms' := 0) (as' := [(1, z69)]) (st := []) (by first | decide | omega) (by first | decide | omega) (by first | decide | omega) rfl rfl (Nat.le_of_ble_eq_true rfl) (c_X12_isWordR E S G z69 hS (by first | decide | omega) (by first | decide | omega) TT nn sr r66) ?_
                    rintro _ _ _ ⟨rfl, rfl, z72, rfl, z72a, z72b, f73, r74⟩
                    have k75 := isw_eq (T := TT) (n := nn) (p := sr 0) (k := 10) (lit := 441972) (by decide) (by decide +kernel) (show z69 = 441972 from by omega) f73
                    clear f73
                    refine r_if_eq hX hP rfl (tgt := 229) rfl (by first | decide | omega) (by first | decide | omega) (fun c76 => ?_) (fun c76 => ?_)
                    · skip
                      refine r_ex hX hP 1 (pc' := 230) (st' := [(0, (-1))]) (lo' := [(0, (2, (Ad E 1)))]) rfl ?_
                      have hZ77 : (-1) = pCw TT nn (sr 0) := by unfold pCw; (repeat (first | rw [if_pos (by first | decide | omega)] | rw [if_neg (by first | decide | omega)]))
                      exact r_retI hX hP rfl rfl (by first | decide | omega) (by first | decide | omega) ⟨rfl, rfl, (-1), rfl, (by first | decide | omega), (by first | decide | omega), (by first | decide | omega), r74⟩
                    · skip
                      refine r_ex hX hP 2 (pc' := 230) (st' := [(0, 9)]) (lo' := [(0, (2, (Ad E 1)))]) rfl ?_
                      have hZ78 : 9 = pCw TT nn (sr 0) := by unfold pCw; (repeat (first | rw [if_pos (by first | decide | omega)] | rw [if_neg (by first | decide | omega)]))
                      exact r_retI hX hP rfl rfl (by first | decide | omega) (by first | decide | omega) ⟨rfl, rfl, 9, rfl, (by first | decide | omega), (by first | decide | omega), (by first | decide | omega), r74⟩
                  · skip
                    refine r_ex hX hP 1 (pc' := 203) (st' := [(0, 8)]) (lo' := [(0, (2, (Ad E 1)))]) rfl ?_
                    have hZ79 : 8 = pCw TT nn (sr 0) := by unfold pCw; (repeat (first | rw [if_pos (by first | decide | omega)] | rw [if_neg (by first | decide | omega)]))
                    exact r_retI hX hP rfl rfl (by first | decide | omega) (by first | decide | omega) ⟨rfl, rfl, 8, rfl, (by first | decide | omega), (by first | decide | omega), (by first | decide | omega), r66⟩
                · skip
                  refine r_ex hX hP 1 (pc' := 166) (st' := [(0, 7)]) (lo' := [(0, (2, (Ad E 1)))]) rfl ?_
                  have hZ80 : 7 = pCw TT nn (sr 0) := by unfold pCw; (repeat (first | rw [if_pos (by first | decide | omega)] | rw [if_neg (by first | decide | omega)]))
                  exact r_retI hX hP rfl rfl (by first | decide | omega) (by first | decide | omega) ⟨rfl, rfl, 7, rfl, (by first | decide | omega), (by first | decide | omega), (by first | decide | omega), r58⟩
              · skip
                refine r_ex hX hP 1 (pc' := 141) (st' := [(0, 6)]) (lo' := [(0, (2, (Ad E 1)))]) rfl ?_
                have hZ81 : 6 = pCw TT nn (sr 0) := by unfold pCw; (repeat (first | rw [if_pos (by first | decide | omega)] | rw [if_neg (by first | decide | omega)]))
                exact r_retI hX hP rfl rfl (by first | decide | omega) (by first | decide | omega) ⟨rfl, rfl, 6, rfl, (by first | decide | omega), (by first | decide | omega), (by first | decide | omega), r50⟩
            · skip
              refine r_ex hX hP 1 (pc' := 118) (st' := [(0, 5)]) (lo' := [(0, (2, (Ad E 1)))]) rfl ?_
              have hZ82 : 5 = pCw TT nn (sr 0) := by unfold pCw; (repeat (first | rw [if_pos (by first | decide | omega)] | rw [if_neg (by first | decide | omega)]))
              exact r_retI hX hP rfl rfl (by first | decide | omega) (by first | decide | omega) ⟨rfl, rfl, 5, rfl, (by first | decide | omega), (by first | decide | omega), (by first | decide | omega), r43⟩
          · skip
            refine r_ex hX hP 1 (pc' := 109) (st' := [(0, 4)]) (lo' := [(0, (2, (Ad E 1)))]) rfl ?_
            have hZ83 : 4 = pCw TT nn (sr 0) := by unfold pCw; (repeat (first | rw [if_pos (by first | decide | omega)] | rw [if_neg (by first | decide | omega)]))
            exact r_retI hX hP rfl rfl (by first | decide | omega) (by first | decide | omega) ⟨rfl, rfl, 4, rfl, (by first | decide | omega), (by first | decide | omega), (by first | decide | omega), r38⟩
        · skip
          refine r_ex hX hP 1 (pc' := 86) (st' := [(0, 3)]) (lo' := [(0, (2, (Ad E 1)))]) rfl ?_
          have hZ84 : 3 = pCw TT nn (sr 0) := by unfold pCw; (repeat (first | rw [if_pos (by first | decide | omega)] | rw [if_neg (by first | decide | omega)]))
          exact r_retI hX hP rfl rfl (by first | decide | omega) (by first | decide | omega) ⟨rfl, rfl, 3, rfl, (by first | decide | omega), (by first | decide | omega), (by first | decide | omega), r30⟩
      · skip
        refine r_ex hX hP 1 (pc' := 65) (st' := [(0, 2)]) (lo' := [(0, (2, (Ad E 1)))]) rfl ?_
        have hZ85 : 2 = pCw TT nn (sr 0) := by unfold pCw; (repeat (first | rw [if_pos (by first | decide | omega)] | rw [if_neg (by first | decide | omega)]))
        exact r_retI hX hP rfl rfl (by first | decide | omega) (by first | decide | omega) ⟨rfl, rfl, 2, rfl, (by first | decide | omega), (by first | decide | omega), (by first | decide | omega), r22⟩
    · skip
      refine r_ex hX hP 1 (pc' := 43) (st' := [(0, 1)]) (lo' := [(0, (2, (Ad E 1)))]) rfl ?_
      have hZ86 : 1 = pCw TT nn (sr 0) := by unfold pCw; (repeat (first | rw [if_pos (by first | decide | omega)] | rw [if_neg (by first | decide | omega)]))
      exact r_retI hX hP rfl rfl (by first | decide | omega) (by first | decide | omega) ⟨rfl, rfl, 1, rfl, (by first | decide | omega), (by first | decide | omega), (by first | decide | omega), r14⟩
  · skip
    refine r_ex hX hP 1 (pc' := 21) (st' := [(0, 0)]) (lo' := [(0, (2, (Ad E 1)))]) rfl ?_
    have hZ87 : 0 = pCw TT nn (sr 0) := by unfold pCw; (repeat (first | rw [if_pos (by first | decide | omega)] | rw [if_neg (by first | decide | omega)]))
    exact r_retI hX hP rfl rfl (by first | decide | omega) (by first | decide | omega) ⟨rfl, rfl, 0, rfl, (by first | decide | omega), (by first | decide | omega), (by first | decide | omega), r6⟩
set_option maxRecDepth 100000 in
set_option maxHeartbeats 4000000 in
theorem c_X12_namedR (E : En) (S : Sg) (G : Gh) (hS : S (Ad E 1) = 1) (TT : Tp) (nn : Int) (sr : Rg) (rd : RdM E TT nn sr G) (pre0 : (sr 1 ≠ 0 ∨ (tkK TT nn (sr 0) = 1 ∧ tkE TT nn (sr 0) - tkS TT nn (sr 0) ≤ 8))) : Calls E mX12_named [(2, (Ad E 1))] S G 0 0 0 (fun r S' G' => S = S' ∧ G = G' ∧ ∃ z : Int, r = some (0, z) ∧ (-1) ≤ z ∧ z ≤ 2 ∧ (sr 1 ≠ 0 ∨ z = pNm TT nn sr 0) ∧ RdM E TT nn (sr) G') := by
  refine calls_by [(0, (2, (Ad E 1)))] rfl rfl (Nat.le_of_ble_eq_true rfl) (fun X hX => ?_)
  have hP := hPX12_named
  refine r_ex hX hP 2 (pc' := 2) (st' := []) (lo' := [(0, (2, (Ad E 1))), (1, (0, 0))]) rfl ?_
  have loop2 : ∀ (nF : Nat) (l1_h2 : Int), 0 ≤ l1_h2 → l1_h2 ≤ 3 → (sr 1 ≠ 0 ∨ pNm TT nn sr l1_h2 = pNm TT nn sr 0) → 3 - l1_h2 < (nF : Int) → X 0 0 2 [] [(0, (2, (Ad E 1))), (1, (0, l1_h2))] S G := by
    intro nF
    induction nF with
    | zero => intro l1_h2 yh2_0 yh2_1 yh2_2 ym2; exfalso; omega
    | succ nF ih2 =>
      intro l1_h2 yh2_0 yh2_1 yh2_2 ym2
      have k1 := nm_or TT nn sr l1_h2
      refine r_ex hX hP 2 (pc' := 4) (st' := [(2, (Ad E 1)), (0, l1_h2)]) (lo' := [(0, (2, (Ad E 1))), (1, (0, l1_h2))]) rfl ?_
      refine r_getI hX hP rfl fl_12_421 hS (fun nf2 nf2e nf2a nf2b => ?_)
      have k3 := rm_nc rd
      have k3 := k3.imp id (fun w => nf2e.trans w)
      refine r_ic_ge hX hP rfl (tgt := 32) rfl (by first | decide | omega) (by first | decide | omega) (by first | decide | omega) (by first | decide | omega) (fun c4 => ?_) (fun c4 => ?_)
      · skip
        refine r_ex hX hP 1 (pc' := 33) (st' := [(0, (-1))]) (lo' := [(0, (2, (Ad E 1))), (1, (0, l1_h2))]) rfl ?_
        exact r_retI hX hP rfl rfl (by first | decide | omega) (by first | decide | omega) ⟨rfl, rfl, (-1), rfl, (by first | decide | omega), (by first | decide | omega), (by first | decide | omega), rd⟩
      · skip
        have k5 := smw_or rd l1_h2 (by first | decide | omega) (by first | decide | omega) (by first | decide | omega) (by first | decide | omega)
        refine r_ex hX hP 1 (pc' := 11) (st' := [(2, (Ad E 1))]) (lo' := [(0, (2, (Ad E 1))), (1, (0, l1_h2))]) rfl ?_
        refine r_getC hX hP rfl fl_12_210 hS (fun s6 => ?_)
        refine r_ex hX hP 1 (pc' := 15) (st' := [(0, l1_h2), (2, (Ad E 62))]) (lo' := [(0, (2, (Ad E 1))), (1, (0, l1_h2))]) rfl ?_
        refine r_lald hX hP rfl al_62 s6 (by first | decide | omega) (by first | decide | omega) (fun x7 x7e x7a x7b => ?_)
        have k8 := rm_wx rd x7e (by first | decide | omega) (by first | decide | omega)
        refine r_ex hX hP 1 (pc' := 17) (st' := [(2, (Ad E 1)), (1, x7)]) (lo' := [(0, (2, (Ad E 1))), (1, (0, l1_h2))]) rfl ?_
        refine r_getL hX hP rfl fl_12_364 hS (fun wf9 wf9e wf9a wf9b => ?_)
        have k10 := rm_word rd
        have k10 := k10.imp id (fun w => wf9e.trans w)
        refine r_lc_ne hX hP rfl rfl (tgt := 26) rfl (by first | decide | omega) (by first | decide | omega) (by first | decide | omega) (by first | decide | omega) (fun c11 => ?_) (fun c11 => ?_)
        · skip
          refine r_ex hX hP 2 (pc' := 2) (st' := []) (lo' := [(0, (2, (Ad E 1))), (1, (0, (l1_h2 + 1)))]) rfl ?_
          exact ih2 (l1_h2 + 1) (by first | decide | omega) (by first | decide | omega) (by first | decide | omega) (by first | decide | omega)
        · skip
          refine r_ex hX hP 1 (pc' := 25) (st' := [(0, l1_h2)]) (lo' := [(0, (2, (Ad E 1))), (1, (0, l1_h2))]) rfl ?_
          exact r_retI hX hP rfl rfl (by first | decide | omega) (by first | decide | omega) ⟨rfl, rfl, l1_h2, rfl, (by first | decide | omega), (by first | decide | omega), (by first | decide | omega), rd⟩
  exact loop2 ((3 - 0) + 1 : Int).toNat 0 (by first | decide | omega) (by first | decide | omega) (by first | decide | omega) (by first | decide | omega)
set_option maxRecDepth 100000 in
set_option maxHeartbeats 4000000 in
theorem c_X12_isNameR (E : En) (S : Sg) (G : Gh) (hS : S (Ad E 1) = 1) (bad : Int) (bad_e : bad = G 1 (Ad E 1) 80) (TT : Tp) (nn : Int) (sr : Rg) (rd : RdM E TT nn sr G) : Calls E mX12_isName [(2, (Ad E 1))] S G 2 0 0 (fun r S' G' => S = S' ∧ (∃ G1, hv [80, 81] [] G G1 = G') ∧ ∃ z : Int, r = some (0, z) ∧ ∃ bad' : Int, bad' = G' 1 (Ad E 1) 80 ∧ 0 ≤ z ∧ z ≤ 1 ∧ ((z = 1 ∧ bad' = 0 ∧ bad = 0 ∧ tkK TT nn (sr 0) = 1 ∧ tkE TT nn (sr 0) - tkS TT nn (sr 0) ≤ 8 ∧ pNa TT nn sr 1 = 0) ∨ (z = 0 ∧ 1 ≤ bad' ∧ pNa TT nn sr 1 ≠ 0)) ∧ RdM E TT nn (pNa TT nn sr) G') := by
  refine calls_by [(0, (2, (Ad E 1)))] rfl rfl (Nat.le_of_ble_eq_true rfl) (fun X hX => ?_)
  have hP := hPX12_isName
  refine r_peekI hX (tl1 80 rfl (by decide)) hS (fun bad_o bad_oe bad_oa bad_ob => ?_)
  obtain rfl : bad = bad_o := bad_e.trans bad_oe.symm
  have k1 := rm_bad rd
  have k1 := bad_e.trans k1
  have k2 := srt_or (tkK TT nn (sr 0))
  refine r_ex hX hP 1 (pc' := 1) (st' := [(2, (Ad E 1))]) (lo' := [(0, (2, (Ad E 1)))]) rfl ?_
  refine r_getKI hX hP rfl fl_12_382 hS (x := bad) bad_e ?_
  refine r_if_le hX hP rfl (tgt := 9) rfl (by first | decide | omega) (by first | decide | omega) (fun c3 => ?_) (fun c3 => ?_)
  · skip
    refine r_ex hX hP 1 (pc' := 10) (st' := [(2, (Ad E 1))]) (lo' := [(0, (2, (Ad E 1)))]) rfl ?_
    refine r_getI hX hP rfl fl_12_358 hS (fun sf4 sf4e sf4a sf4b => ?_)
    have k5 := rm_sort rd
    have k5 := sf4e.trans k5
    refine r_ex hX hP 1 (pc' := 14) (st' := [(0, 1), (0, sf4)]) (lo' := [(0, (2, (Ad E 1)))]) rfl ?_
    refine r_ic_ne hX hP rfl (tgt := 26) rfl (by first | decide | omega) (by first | decide | omega) (by first | decide | omega) (by first | decide | omega) (fun c6 => ?_) (fun c6 => ?_)
    · skip
      refine r_ex hX hP 1 (pc' := 27) (st' := [(2, (Ad E 1))]) (lo' := [(0, (2, (Ad E 1)))]) rfl ?_
      refine r_callV gd hX hP rfl cv_12_395 hS (d' := 1) (mc' := 0) (ms' := 0) (as' := []) (st := []) (by first | decide | omega) (by first | decide | omega) (by first | decide | omega) rfl rfl (Nat.le_of_ble_eq_true rfl) (c_X12_wrongR E S G  hS TT nn sr rd) ?_
      rintro _ _ _ ⟨rfl, ⟨G7, rfl⟩, rfl, bah8, bah8e, f9, r10⟩
      have k11 := rm_bad r10
      have k11 := bah8e.trans k11
      refine r_peekI hX (tl1 80 rfl (by decide)) hS (fun o12 o12e o12a o12b => ?_)
      obtain rfl : bah8 = o12 := bah8e.trans o12e.symm
      refine r_ex hX hP 1 (pc' := 31) (st' := [(2, (Ad E 1))]) (lo' := [(0, (2, (Ad E 1)))]) rfl ?_
      refine r_getKI hX hP rfl fl_12_382 hS (x := bah8) bah8e ?_
      refine r_if_ne hX hP rfl (tgt := 41) rfl (by first | decide | omega) (by first | decide | omega) (fun c13 => ?_) (fun c13 => ?_)
      · skip
        refine r_ex hX hP 1 (pc' := 42) (st' := [(0, 0)]) (lo' := [(0, (2, (Ad E 1)))]) rfl ?_
        have hC14 : pWr TT nn sr = pNa TT nn sr := by
          rw [pNa_n]; (repeat (first | rw [if_pos (by first | decide | omega)] | rw [if_neg (by first | decide | omega)])); try (first | rfl | (split <;> (first | rfl | ((repeat (first | rw [if_pos (by first | decide | omega)] | rw [if_neg (by first | decide | omega)])); try rfl))))
        have hC141 : (pNa TT nn sr) 1 = (pWr TT nn sr) 1 := congrFun hC14.symm 1
        exact r_retZ hX hP rfl rfl (by first | decide | omega) (by first | decide | omega) (by first | decide | omega) (by first | decide | omega) ⟨rfl, ⟨_, (hq_call (hq_refl _ _ _) rfl).symm⟩, 0, rfl, bah8, bah8e, (by first | decide | omega), (by first | decide | omega), (by first | decide | omega), (rm_cast r10 hC14)⟩
      · skip
        exfalso; omega
    · skip
      refine r_ex hX hP 1 (pc' := 18) (st' := [(2, (Ad E 1))]) (lo' := [(0, (2, (Ad E 1)))]) rfl ?_
      refine r_getI hX hP rfl fl_12_373 hS (fun lf15 lf15e lf15a lf15b => ?_)
      have k16 := rm_let rd
      have k16 := k16.imp id (fun w => lf15e.trans w)
      refine r_ex hX hP 1 (pc' := 23) (st' := [(0, 8), (0, lf15)]) (lo' := [(0, (2, (Ad E 1)))]) rfl ?_
      refine r_ic_le hX hP rfl (tgt := 30) rfl (by first | decide | omega) (by first | decide | omega) (by first | decide | omega) (by first | decide | omega) (fun c17 => ?_) (fun c17 => ?_)
      · skip
        refine r_ex hX hP 1 (pc' := 31) (st' := [(2, (Ad E 1))]) (lo' := [(0, (2, (Ad E 1)))]) rfl ?_
        refine r_getKI hX hP rfl fl_12_382 hS (x := bad) bad_e ?_
        refine r_if_ne hX hP rfl (tgt := 41) rfl (by first | decide | omega) (by first | decide | omega) (fun c18 => ?_) (fun c18 => ?_)
        · skip
          exfalso; omega
        · skip
          refine r_ex hX hP 2 (pc' := 42) (st' := [(0, 1)]) (lo' := [(0, (2, (Ad E 1)))]) rfl ?_
          have hC19 : sr = pNa TT nn sr := by
            rw [pNa_n]; (repeat (first | rw [if_pos (by first | decide | omega)] | rw [if_neg (by first | decide | omega)])); try (first | rfl | (split <;> (first | rfl | ((repeat (first | rw [if_pos (by first | decide | omega)] | rw [if_neg (by first | decide | omega)])); try rfl))))
          have hC191 : (pNa TT nn sr) 1 = (sr) 1 := congrFun hC19.symm 1
          exact r_retZ hX hP rfl rfl (by first | decide | omega) (by first | decide | omega) (by first | decide | omega) (by first | decide | omega) ⟨rfl, ⟨_, (hq_refl _ _ _).symm⟩, 1, rfl, bad, bad_e, (by first | decide | omega), (by first | decide | omega), (by first | decide | omega), (rm_cast rd hC19)⟩
      · skip
        refine r_ex hX hP 1 (pc' := 27) (st' := [(2, (Ad E 1))]) (lo' := [(0, (2, (Ad E 1)))]) rfl ?_
        refine r_callV gd hX hP rfl cv_12_395 hS (d' := 1) (mc' := 0) (ms' := 0) (as' := []) (st := []) (by first | decide | omega) (by first | decide | omega) (by first | decide | omega) rfl rfl (Nat.le_of_ble_eq_true rfl) (c_X12_wrongR E S G  hS TT nn sr rd) ?_
        rintro _ _ _ ⟨rfl, ⟨G20, rfl⟩, rfl, bah21, bah21e, f22, r23⟩
        have k24 := rm_bad r23
        have k24 := bah21e.trans k24
        refine r_peekI hX (tl1 80 rfl (by decide)) hS (fun o25 o25e o25a o25b => ?_)
        obtain rfl : bah21 = o25 := bah21e.trans o25e.symm
        refine r_ex hX hP 1 (pc' := 31) (st' := [(2, (Ad E 1))]) (lo' := [(0, (2, (Ad E 1)))]) rfl ?_
        refine r_getKI hX hP rfl fl_12_382 hS (x := bah21) bah21e ?_
        refine r_if_ne hX hP rfl (tgt := 41) rfl (by first | decide | omega) (by first | decide | omega) (fun c26 => ?_) (fun c26 => ?_)
        · skip
          refine r_ex hX hP 1 (pc' := 42) (st' := [(0, 0)]) (lo' := [(0, (2, (Ad E 1)))]) rfl ?_
          have hC27 : pWr TT nn sr = pNa TT nn sr := by
            rw [pNa_n]; (repeat (first | rw [if_pos (by first | decide | omega)] | rw [if_neg (by first | decide | omega)])); try (first | rfl | (split <;> (first | rfl | ((repeat (first | rw [if_pos (by first | decide | omega)] | rw [if_neg (by first | decide | omega)])); try rfl))))
          have hC271 : (pNa TT nn sr) 1 = (pWr TT nn sr) 1 := congrFun hC27.symm 1
          exact r_retZ hX hP rfl rfl (by first | decide | omega) (by first | decide | omega) (by first | decide | omega) (by first | decide | omega) ⟨rfl, ⟨_, (hq_call (hq_refl _ _ _) rfl).symm⟩, 0, rfl, bah21, bah21e, (by first | decide | omega), (by first | decide | omega), (by first | decide | omega), (rm_cast r23 hC27)⟩
        · skip
          exfalso; omega
  · skip
    refine r_ex hX hP 1 (pc' := 8) (st' := [(0, 0)]) (lo' := [(0, (2, (Ad E 1)))]) rfl ?_
    have hC28 : sr = pNa TT nn sr := by
      rw [pNa_n]; (repeat (first | rw [if_pos (by first | decide | omega)] | rw [if_neg (by first | decide | omega)])); try (first | rfl | (split <;> (first | rfl | ((repeat (first | rw [if_pos (by first | decide | omega)] | rw [if_neg (by first | decide | omega)])); try rfl))))
    have hC281 : (pNa TT nn sr) 1 = (sr) 1 := congrFun hC28.symm 1
    exact r_retZ hX hP rfl rfl (by first | decide | omega) (by first | decide | omega) (by first | decide | omega) (by first | decide | omega) ⟨rfl, ⟨_, (hq_refl _ _ _).symm⟩, 0, rfl, bad, bad_e, (by first | decide | omega), (by first | decide | omega), (by first | decide | omega), (rm_cast rd hC28)⟩

