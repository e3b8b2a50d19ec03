set_option maxRecDepth 100000 in
set_option maxHeartbeats 4000000 in
theorem c_X12_readPlainR (E : En) (S : Sg) (G : Gh) (k c ch : Int) (hS : S (Ad E 1) = 1) (two_c : Int) (two_c_e : two_c = G 65 (Ad E 65) c) (k_a : 0 ≤ k) (k_b : k ≤ 9) (c_a : 0 ≤ c) (c_b : c ≤ 29) (ch_a : (-1) ≤ ch) (ch_b : ch ≤ 2) (pre0 : (k = 9 → 0 ≤ ch)) (pre1 : k ≠ 6) (pre2 : k ≠ 7) (pre3 : 1 ≤ two_c) (TT : Tp) (nn : Int) (sr : Rg) (rd : RdM E TT nn sr G) (pre4 : sr 1 = 0) (pre5 : (k ≠ 8 ∨ sr 5 = -1)) (pre6 : (k ≠ 9 ∨ ch < sr 4)) : Calls E mX12_readPlain [(2, (Ad E 1)), (0, k), (0, c), (0, ch)] S G 3 0 0 (fun r S' G' => S = S' ∧ (∃ G1, hv [80, 81, 82, 83, 84, 85, 86, 87, 90] [64, 65, 66, 70, 71] G G1 = G') ∧ r = none ∧ ∃ bad' : Int, bad' = G' 1 (Ad E 1) 80 ∧ ∃ o' : Int, o' = G' 64 (Ad E 64) c ∧ ∃ t' : Int, t' = G' 65 (Ad E 65) c ∧ (1 ≤ bad' ∨ (1 ≤ t' ∧ (k ≤ 1 → 1 ≤ o' ∧ o' ≤ 1000))) ∧ FRZ E G G' 1000 c ∧ RdM E TT nn (qPl TT nn k ch sr) G') := by
  refine calls_by [(0, (2, (Ad E 1))), (1, (0, k)), (2, (0, c)), (3, (0, ch))] rfl rfl (Nat.le_of_ble_eq_true rfl) (fun X hX => ?_)
  have hP := hPX12_readPlain
  refine r_labC hX (tl1 96 rfl (by decide)) hS (fun s1 => ?_)
  refine r_apeekI hX al_65 s1 (i := c) (by first | decide | omega) (by first | decide | omega) (fun two_c_o two_c_oe two_c_oa two_c_ob => ?_)
  obtain rfl : two_c = two_c_o := two_c_e.trans two_c_oe.symm
  refine r_ex hX hP 1 (pc' := 1) (st' := [(0, k)]) (lo' := [(0, (2, (Ad E 1))), (1, (0, k)), (2, (0, c)), (3, (0, ch))]) rfl ?_
  refine r_if_eq hX hP rfl (tgt := 19) rfl (by first | decide | omega) (by first | decide | omega) (fun c2 => ?_) (fun c2 => ?_)
  · skip
    refine r_ex hX hP 1 (pc' := 20) (st' := [(2, (Ad E 1))]) (lo' := [(0, (2, (Ad E 1))), (1, (0, k)), (2, (0, c)), (3, (0, ch))]) rfl ?_
    refine r_getC hX hP rfl fl_12_217 hS (fun s3 => ?_)
    refine r_ex hX hP 3 (pc' := 26) (st' := [(0, 2), (0, k), (0, c), (2, (Ad E 64))]) (lo' := [(0, (2, (Ad E 1))), (1, (0, k)), (2, (0, c)), (3, (0, ch))]) rfl ?_
    refine r_ic_ge hX hP rfl (tgt := 40) rfl (by first | decide | omega) (by first | decide | omega) (by first | decide | omega) (by first | decide | omega) (fun c4 => ?_) (fun c4 => ?_)
    · skip
      exfalso; omega
    · skip
      refine r_ex hX hP 3 (pc' := 34) (st' := [(0, 1000), (0, 1), (2, (Ad E 1)), (0, c), (2, (Ad E 64))]) (lo' := [(0, (2, (Ad E 1))), (1, (0, k)), (2, (0, c)), (3, (0, ch))]) rfl ?_
      refine r_peekI hX (tl1 80 rfl (by decide)) hS (fun bap5 bap5e bap5a bap5b => ?_)
      have k6 := rm_bad rd
      have k6 := bap5e.trans k6
      refine r_callV gd hX hP rfl cv_12_461 hS (d' := 2) (mc' := 0) (ms' := 0) (as' := [(0, 1), (0, 1000)]) (st := [(0, c), (2, (Ad E 64))]) (by first | decide | omega) (by first | decide | omega) (by first | decide | omega) rfl rfl (Nat.le_of_ble_eq_true rfl) (c_X12_countR E S G 1 1000 hS bap5 bap5e (by first | decide | omega) (by first | decide | omega) (by first | decide | omega) (by first | decide | omega) TT nn sr rd) ?_
      rintro _ _ _ ⟨rfl, ⟨G7, rfl⟩, z8, rfl, bah9, bah9e, z8a, z8b, f10, r11⟩
      have k12 := rm_bad r11
      have k12 := bah9e.trans k12
      refine r_peekI hX (tl1 80 rfl (by decide)) hS (fun o13 o13e o13a o13b => ?_)
      obtain rfl : bah9 = o13 := bah9e.trans o13e.symm
      refine r_ex hX hP 1 (pc' := 48) (st' := [(0, z8), (0, c), (2, (Ad E 64))]) (lo' := [(0, (2, (Ad E 1))), (1, (0, k)), (2, (0, c)), (3, (0, ch))]) rfl ?_
      refine r_iastK hX hP rfl al_64 s3 (by first | decide | omega) (by first | decide | omega) (by first | decide | omega) (by first | decide | omega) (fun h14 => ?_)
      refine r_ex hX hP 1 (pc' := 50) (st' := [(0, k)]) (lo' := [(0, (2, (Ad E 1))), (1, (0, k)), (2, (0, c)), (3, (0, ch))]) rfl ?_
      refine r_if_ne hX hP rfl (tgt := 81) rfl (by first | decide | omega) (by first | decide | omega) (fun c15 => ?_) (fun c15 => ?_)
      · skip
        exfalso; omega
      · skip
        refine r_ex hX hP 7 (pc' := 62) (st' := [(0, 0), (0, 0), (0, 0), (0, 0), (0, 102), (0, 111), (2, (Ad E 1))]) (lo' := [(0, (2, (Ad E 1))), (1, (0, k)), (2, (0, c)), (3, (0, ch))]) rfl ?_
        refine r_callS gd hX hP rfl cs_12_405 (d' := 0) (mc' := 0) (ms' := 0) (as' := [(0, 111), (0, 102), (0, 0), (0, 0), (0, 0), (0, 0)]) (st := [(2, (Ad E 1))]) (by first | decide | omega) (by first | decide | omega) (by first | decide | omega) rfl rfl (Nat.le_of_ble_eq_true rfl) (c_X12_spelledR E S (up (hv [80, 81, 82, 83, 84, 85, 86, 87] [] G G7) 64 (Ad E 64) c z8) 111 102 0 0 0 0 (by first | decide | omega) (by first | decide | omega) (by first | decide | omega) (by first | decide | omega) (by first | decide | omega) (by first | decide | omega) (by first | decide | omega) (by first | decide | omega) (by first | decide | omega) (by first | decide | omega) (by first | decide | omega) (by first | decide | omega)) ?_
        rintro _ _ _ ⟨rfl, rfl, z16, rfl, z16a, z16b, f17⟩
        have k18 := (show sp6 111 102 0 0 0 0 = 486 from by decide)
        have k19 : z16 = wW 18 := by have e : wW 18 = 486 := (by decide +kernel); omega
        refine r_callV gd hX hP rfl cv_12_466 hS (d' := 2) (mc' := 0) (ms' := 0) (as' := [(1, z16)]) (st := []) (by first | decide | omega) (by first | decide | omega) (by first | decide | omega) rfl rfl (Nat.le_of_ble_eq_true rfl) (c_X12_wordIsR E S (up (hv [80, 81, 82, 83, 84, 85, 86, 87] [] G G7) 64 (Ad E 64) c z8) z16 hS bah9 bah9e (by first | decide | omega) (by first | decide | omega) TT nn (pNb TT nn 1 1000 sr) r11 18 k19 (by decide)) ?_
        rintro _ _ _ ⟨rfl, ⟨G20, rfl⟩, rfl, bah21, bah21e, f22, r23⟩
        have k24 := rm_bad r23
        have k24 := bah21e.trans k24
        refine r_peekI hX (tl1 80 rfl (by decide)) hS (fun o25 o25e o25a o25b => ?_)
        obtain rfl : bah21 = o25 := bah21e.trans o25e.symm
        refine r_ex hX hP 1 (pc' := 69) (st' := [(2, (Ad E 1))]) (lo' := [(0, (2, (Ad E 1))), (1, (0, k)), (2, (0, c)), (3, (0, ch))]) rfl ?_
        refine r_getC hX hP rfl fl_12_223 hS (fun s26 => ?_)
        refine r_ex hX hP 4 (pc' := 77) (st' := [(0, 19), (0, 0), (2, (Ad E 1)), (0, c), (2, (Ad E 66))]) (lo' := [(0, (2, (Ad E 1))), (1, (0, k)), (2, (0, c)), (3, (0, ch))]) rfl ?_
        refine r_callV gd hX hP rfl cv_12_461 hS (d' := 2) (mc' := 0) (ms' := 0) (as' := [(0, 0), (0, 19)]) (st := [(0, c), (2, (Ad E 66))]) (by first | decide | omega) (by first | decide | omega) (by first | decide | omega) rfl rfl (Nat.le_of_ble_eq_true rfl) (c_X12_countR E S (hv [80, 81, 82, 83, 84, 85, 86, 87] [] (up (hv [80, 81, 82, 83, 84, 85, 86, 87] [] G G7) 64 (Ad E 64) c z8) G20) 0 19 hS bah21 bah21e (by first | decide | omega) (by first | decide | omega) (by first | decide | omega) (by first | decide | omega) TT nn (pKd TT nn 18 (pNb TT nn 1 1000 sr)) r23) ?_
        rintro _ _ _ ⟨rfl, ⟨G27, rfl⟩, z28, rfl, bah29, bah29e, z28a, z28b, f30, r31⟩
        have k32 := rm_bad r31
        have k32 := bah29e.trans k32
        refine r_peekI hX (tl1 80 rfl (by decide)) hS (fun o33 o33e o33a o33b => ?_)
        obtain rfl : bah29 = o33 := bah29e.trans o33e.symm
        refine r_iastK hX hP rfl al_66 s26 (by first | decide | omega) (by first | decide | omega) (by first | decide | omega) (by first | decide | omega) (fun h34 => ?_)
        refine r_ex hX hP 7 (pc' := 91) (st' := [(0, 0), (0, 0), (0, 0), (0, 114), (0, 111), (0, 102), (2, (Ad E 1))]) (lo' := [(0, (2, (Ad E 1))), (1, (0, k)), (2, (0, c)), (3, (0, ch))]) rfl ?_
        refine r_callS gd hX hP rfl cs_12_405 (d' := 0) (mc' := 0) (ms' := 0) (as' := [(0, 102), (0, 111), (0, 114), (0, 0), (0, 0), (0, 0)]) (st := [(2, (Ad E 1))]) (by first | decide | omega) (by first | decide | omega) (by first | decide | omega) rfl rfl (Nat.le_of_ble_eq_true rfl) (c_X12_spelledR E S (up (hv [80, 81, 82, 83, 84, 85, 86, 87] [] (hv [80, 81, 82, 83, 84, 85, 86, 87] [] (up (hv [80, 81, 82, 83, 84, 85, 86, 87] [] G G7) 64 (Ad E 64) c z8) G20) G27) 66 (Ad E 66) c z28) 102 111 114 0 0 0 (by first | decide | omega) (by first | decide | omega) (by first | decide | omega) (by first | decide | omega) (by first | decide | omega) (by first | decide | omega) (by first | decide | omega) (by first | decide | omega) (by first | decide | omega) (by first | decide | omega) (by first | decide | omega) (by first | decide | omega)) ?_
        rintro _ _ _ ⟨rfl, rfl, z35, rfl, z35a, z35b, f36⟩
        have k37 := (show sp6 102 111 114 0 0 0 = 6642 from by decide)
        have k38 : z35 = wW 19 := by have e : wW 19 = 6642 := (by decide +kernel); omega
        refine r_callV gd hX hP rfl cv_12_466 hS (d' := 2) (mc' := 0) (ms' := 0) (as' := [(1, z35)]) (st := []) (by first | decide | omega) (by first | decide | omega) (by first | decide | omega) rfl rfl (Nat.le_of_ble_eq_true rfl) (c_X12_wordIsR E S (up (hv [80, 81, 82, 83, 84, 85, 86, 87] [] (hv [80, 81, 82, 83, 84, 85, 86, 87] [] (up (hv [80, 81, 82, 83, 84, 85, 86, 87] [] G G7) 64 (Ad E 64) c z8) G20) G27) 66 (Ad E 66) c z28) z35 hS bah29 bah29e (by first | decide | omega) (by first | decide | omega) TT nn (pNb TT nn 0 19 (pKd TT nn 18 (pNb TT nn 1 1000 sr))) r31 19 k38 (by decide)) ?_
        rintro _ _ _ ⟨rfl, ⟨G39, rfl⟩, rfl, bah40, bah40e, f41, r42⟩
        have k43 := rm_bad r42
        have k43 := bah40e.trans k43
        refine r_peekI hX (tl1 80 rfl (by decide)) hS (fun o44 o44e o44a o44b => ?_)
        obtain rfl : bah40 = o44 := bah40e.trans o44e.symm
        refine r_ex hX hP 1 (pc' := 98) (st' := [(2, (Ad E 1))]) (lo' := [(0, (2, (Ad E 1))), (1, (0, k)), (2, (0, c)), (3, (0, ch))]) rfl ?_
        refine r_getC hX hP rfl fl_12_220 hS (fun _ => ?_)
        refine r_ex hX hP 3 (pc' := 104) (st' := [(0, 1), (0, k), (0, c), (2, (Ad E 65))]) (lo' := [(0, (2, (Ad E 1))), (1, (0, k)), (2, (0, c)), (3, (0, ch))]) rfl ?_
        refine r_ic_ne hX hP rfl (tgt := 127) rfl (by first | decide | omega) (by first | decide | omega) (by first | decide | omega) (by first | decide | omega) (fun c45 => ?_) (fun c45 => ?_)
        · skip
          refine r_ex hX hP 3 (pc' := 132) (st' := [(0, 1000), (0, 1), (2, (Ad E 1)), (0, c), (2, (Ad E 65))]) (lo' := [(0, (2, (Ad E 1))), (1, (0, k)), (2, (0, c)), (3, (0, ch))]) rfl ?_
          refine r_callV gd hX hP rfl cv_12_461 hS (d' := 2) (mc' := 0) (ms' := 0) (as' := [(0, 1), (0, 1000)]) (st := [(0, c), (2, (Ad E 65))]) (by first | decide | omega) (by first | decide | omega) (by first | decide | omega) rfl rfl (Nat.le_of_ble_eq_true rfl) (c_X12_countR E S (hv [80, 81, 82, 83, 84, 85, 86, 87] [] (up (hv [80, 81, 82, 83, 84, 85, 86, 87] [] (hv [80, 81, 82, 83, 84, 85, 86, 87] [] (up (hv [80, 81, 82, 83, 84, 85, 86, 87] [] G G7) 64 (Ad E 64) c z8) G20) G27) 66 (Ad E 66) c z28) G39) 1 1000 hS bah40 bah40e (by first | decide | omega) (by first | decide | omega) (by first | decide | omega) (by first | decide | omega) TT nn (pKd TT nn 19 (pNb TT nn 0 19 (pKd TT nn 18 (pNb TT nn 1 1000 sr)))) r42) ?_
          rintro _ _ _ ⟨rfl, ⟨G46, rfl⟩, z47, rfl, bah48, bah48e, z47a, z47b, f49, r50⟩
          have k51 := rm_bad r50
          have k51 := bah48e.trans k51
          refine r_peekI hX (tl1 80 rfl (by decide)) hS (fun o52 o52e o52a o52b => ?_)
          obtain rfl : bah48 = o52 := bah48e.trans o52e.symm
          refine r_iastK hX hP rfl al_65 s1 (by first | decide | omega) (by first | decide | omega) (by first | decide | omega) (by first | decide | omega) (fun h53 => ?_)
          refine r_ex hX hP 1 (pc' := 453) (st' := []) (lo' := [(0, (2, (Ad E 1))), (1, (0, k)), (2, (0, c)), (3, (0, ch))]) rfl ?_
          have hC54 : pNb TT nn 1 1000 (pKd TT nn 19 (pNb TT nn 0 19 (pKd TT nn 18 (pNb TT nn 1 1000 sr)))) = qPl TT nn k ch sr := by
            unfold qPl; (repeat (first | rw [if_pos (by first | decide | omega)] | rw [if_neg (by first | decide | omega)])); try (first | rfl | (unfold qFr; (repeat (first | rw [if_pos (by first | decide | omega)] | rw [if_neg (by first | decide | omega)])); try rfl) | (unfold qFa; (repeat (first | rw [if_pos (by first | decide | omega)] | rw [if_neg (by first | decide | omega)])); try rfl) | (unfold qMs qCu; (repeat (first | rw [if_pos (by first | decide | omega)] | rw [if_neg (by first | decide | omega)])); try rfl) | (rw [show k = 1 from by omega]; exact rt1 TT nn (by first | decide | omega)) | (unfold qRt pM3 pM2 pM1; (repeat (first | rw [if_pos (by first | decide | omega)] | rw [if_neg (by first | decide | omega)])); try rfl))
          have hC541 : (qPl TT nn k ch sr) 1 = (pNb TT nn 1 1000 (pKd TT nn 19 (pNb TT nn 0 19 (pKd TT nn 18 (pNb TT nn 1 1000 sr))))) 1 := congrFun hC54.symm 1
          exact r_retV hX hP rfl rfl (by first | decide | omega) (by first | decide | omega) ⟨rfl, ⟨_, (hq_up (hq_call (hq_call (hq_up (hq_call (hq_call (hq_up (hq_call (hq_refl _ _ _) rfl) rfl) rfl) rfl) rfl) rfl) rfl) rfl).symm⟩, rfl, bah48, bah48e, z8, h14, z47, h53, (by first | decide | omega), (fun i h0 hi hx => ⟨rfl, ((show (up (hv [80, 81, 82, 83, 84, 85, 86, 87] [] G G7) 64 (Ad E 64) c z8) 64 (Ad E 64) i = _ from up_ne (fun q => absurd q.2.2 hx)).trans rfl), ((show (up (hv [80, 81, 82, 83, 84, 85, 86, 87] [] (hv [80, 81, 82, 83, 84, 85, 86, 87] [] (up (hv [80, 81, 82, 83, 84, 85, 86, 87] [] (hv [80, 81, 82, 83, 84, 85, 86, 87] [] (up (hv [80, 81, 82, 83, 84, 85, 86, 87] [] G G7) 64 (Ad E 64) c z8) G20) G27) 66 (Ad E 66) c z28) G39) G46) 65 (Ad E 65) c z47) 65 (Ad E 65) i = _ from up_ne (fun q => absurd q.2.2 hx)).trans rfl), ((show (up (hv [80, 81, 82, 83, 84, 85, 86, 87] [] (hv [80, 81, 82, 83, 84, 85, 86, 87] [] (up (hv [80, 81, 82, 83, 84, 85, 86, 87] [] G G7) 64 (Ad E 64) c z8) G20) G27) 66 (Ad E 66) c z28) 66 (Ad E 66) i = _ from up_ne (fun q => absurd q.2.2 hx)).trans rfl), rfl, rfl⟩), (rm_cast r50 hC54)⟩
        · skip
          exfalso; omega
  · skip
    refine r_ex hX hP 2 (pc' := 6) (st' := [(0, 1), (0, k)]) (lo' := [(0, (2, (Ad E 1))), (1, (0, k)), (2, (0, c)), (3, (0, ch))]) rfl ?_
    refine r_ic_eq hX hP rfl (tgt := 19) rfl (by first | decide | omega) (by first | decide | omega) (by first | decide | omega) (by first | decide | omega) (fun c55 => ?_) (fun c55 => ?_)
    · skip
      refine r_ex hX hP 1 (pc' := 20) (st' := [(2, (Ad E 1))]) (lo' := [(0, (2, (Ad E 1))), (1, (0, k)), (2, (0, c)), (3, (0, ch))]) rfl ?_
      refine r_getC hX hP rfl fl_12_217 hS (fun s56 => ?_)
      refine r_ex hX hP 3 (pc' := 26) (st' := [(0, 2), (0, k), (0, c), (2, (Ad E 64))]) (lo' := [(0, (2, (Ad E 1))), (1, (0, k)), (2, (0, c)), (3, (0, ch))]) rfl ?_
      refine r_ic_ge hX hP rfl (tgt := 40) rfl (by first | decide | omega) (by first | decide | omega) (by first | decide | omega) (by first | decide | omega) (fun c57 => ?_) (fun c57 => ?_)
      · skip
        exfalso; omega
      · skip
        refine r_ex hX hP 3 (pc' := 34) (st' := [(0, 1000), (0, 1), (2, (Ad E 1)), (0, c), (2, (Ad E 64))]) (lo' := [(0, (2, (Ad E 1))), (1, (0, k)), (2, (0, c)), (3, (0, ch))]) rfl ?_
        refine r_peekI hX (tl1 80 rfl (by decide)) hS (fun bap58 bap58e bap58a bap58b => ?_)
        have k59 := rm_bad rd
        have k59 := bap58e.trans k59
        refine r_callV gd hX hP rfl cv_12_461 hS (d' := 2) (mc' := 0) (ms' := 0) (as' := [(0, 1), (0, 1000)]) (st := [(0, c), (2, (Ad E 64))]) (by first | decide | omega) (by first | decide | omega) (by first | decide | omega) rfl rfl (Nat.le_of_ble_eq_true rfl) (c_X12_countR E S G 1 1000 hS bap58 bap58e (by first | decide | omega) (by first | decide | omega) (by first | decide | omega) (by first | decide | omega) TT nn sr rd) ?_
        rintro _ _ _ ⟨rfl, ⟨G60, rfl⟩, z61, rfl, bah62, bah62e, z61a, z61b, f63, r64⟩
        have k65 := rm_bad r64
        have k65 := bah62e.trans k65
        refine r_peekI hX (tl1 80 rfl (by decide)) hS (fun o66 o66e o66a o66b => ?_)
        obtain rfl : bah62 = o66 := bah62e.trans o66e.symm
        refine r_ex hX hP 1 (pc' := 48) (st' := [(0, z61), (0, c), (2, (Ad E 64))]) (lo' := [(0, (2, (Ad E 1))), (1, (0, k)), (2, (0, c)), (3, (0, ch))]) rfl ?_
        refine r_iastK hX hP rfl al_64 s56 (by first | decide | omega) (by first | decide | omega) (by first | decide | omega) (by first | decide | omega) (fun h67 => ?_)
        refine r_ex hX hP 1 (pc' := 50) (st' := [(0, k)]) (lo' := [(0, (2, (Ad E 1))), (1, (0, k)), (2, (0, c)), (3, (0, ch))]) rfl ?_
        refine r_if_ne hX hP rfl (tgt := 81) rfl (by first | decide | omega) (by first | decide | omega) (fun c68 => ?_) (fun c68 => ?_)
        · skip
          refine r_ex hX hP 7 (pc' := 91) (st' := [(0, 0), (0, 0), (0, 0), (0, 114), (0, 111), (0, 102), (2, (Ad E 1))]) (lo' := [(0, (2, (Ad E 1))), (1, (0, k)), (2, (0, c)), (3, (0, ch))]) rfl ?_
          refine r_callS gd hX hP rfl cs_12_405 (d' := 0) (mc' := 0) (ms' := 0) (as' := [(0, 102), (0, 111), (0, 114), (0, 0), (0, 0), (0, 0)]) (st := [(2, (Ad E 1))]) (by first | decide | omega) (by first | decide | omega) (by first | decide | omega) rfl rfl (Nat.le_of_ble_eq_true rfl) (c_X12_spelledR E S (up (hv [80, 81, 82, 83, 84, 85, 86, 87] [] G G60) 64 (Ad E 64) c z61) 102 111 114 0 0 0 (by first | decide | omega) (by first | decide | omega) (by first | decide | omega) (by first | decide | omega) (by first | decide | omega) (by first | decide | omega) (by first | decide | omega) (by first | decide | omega) (by first | decide | omega) (by first | decide | omega) (by first | decide | omega) (by first | decide | omega)) ?_
          rintro _ _ _ ⟨rfl, rfl, z69, rfl, z69a, z69b, f70⟩
          have k71 := (show sp6 102 111 114 0 0 0 = 6642 from by decide)
          have k72 : z69 = wW 19 := by have e : wW 19 = 6642 := (by decide +kernel); omega
          refine r_callV gd hX hP rfl cv_12_466 hS (d' := 2) (mc' := 0) (ms' := 0) (as' := [(1, z69)]) (st := []) (by first | decide | omega) (by first | decide | omega) (by first | decide | omega) rfl rfl (Nat.le_of_ble_eq_true rfl) (c_X12_wordIsR E S (up (hv [80, 81, 82, 83, 84, 85, 86, 87] [] G G60) 64 (Ad E 64) c z61) z69 hS bah62 bah62e (by first | decide | omega) (by first | decide | omega) TT nn (pNb TT nn 1 1000 sr) r64 19 k72 (by decide)) ?_
          rintro _ _ _ ⟨rfl, ⟨G73, rfl⟩, rfl, bah74, bah74e, f75, r76⟩
          have k77 := rm_bad r76
          have k77 := bah74e.trans k77
          refine r_peekI hX (tl1 80 rfl (by decide)) hS (fun o78 o78e o78a o78b => ?_)
          obtain rfl : bah74 = o78 := bah74e.trans o78e.symm
          refine r_ex hX hP 1 (pc' := 98) (st' := [(2, (Ad E 1))]) (lo' := [(0, (2, (Ad E 1))), (1, (0, k)), (2, (0, c)), (3, (0, ch))]) rfl ?_
          refine r_getC hX hP rfl fl_12_220 hS (fun _ => ?_)
          refine r_ex hX hP 3 (pc' := 104) (st' := [(0, 1), (0, k), (0, c), (2, (Ad E 65))]) (lo' := [(0, (2, (Ad E 1))), (1, (0, k)), (2, (0, c)), (3, (0, ch))]) rfl ?_
          refine r_ic_ne hX hP rfl (tgt := 127) rfl (by first | decide | omega) (by first | decide | omega) (by first | decide | omega) (by first | decide | omega) (fun c79 => ?_) (fun c79 => ?_)
          · skip
            exfalso; omega
          · skip
            refine r_ex hX hP 3 (pc' := 110) (st' := [(2, (Ad E 1)), (0, 1), (2, (Ad E 1)), (0, c), (2, (Ad E 65))]) (lo' := [(0, (2, (Ad E 1))), (1, (0, k)), (2, (0, c)), (3, (0, ch))]) rfl ?_
            refine r_getC hX hP rfl fl_12_217 hS (fun _ => ?_)
            refine r_ex hX hP 1 (pc' := 114) (st' := [(0, c), (2, (Ad E 64)), (0, 1), (2, (Ad E 1)), (0, c), (2, (Ad E 65))]) (lo' := [(0, (2, (Ad E 1))), (1, (0, k)), (2, (0, c)), (3, (0, ch))]) rfl ?_
            refine r_ialdK hX hP rfl al_64 s56 (by first | decide | omega) (by first | decide | omega) (x := z61) h67 ?_
            refine r_mmaxI hX hP rfl (tbg sg9 215 rfl rfl) (tbg sg3 89 rfl rfl) (tbg sg1 14 rfl rfl) (tbg sg3 90 rfl rfl) (by decide) (by decide) (by decide) (Nat.le_of_ble_eq_true rfl) (by first | decide | omega) (by first | decide | omega) (by first | decide | omega) (by first | decide | omega) (fun c80 => ?_) (fun c80 => ?_)
            · skip
              refine r_ex hX hP 1 (pc' := 121) (st' := [(0, 1000), (0, 1), (2, (Ad E 1)), (0, c), (2, (Ad E 65))]) (lo' := [(0, (2, (Ad E 1))), (1, (0, k)), (2, (0, c)), (3, (0, ch))]) rfl ?_
              refine r_callV gd hX hP rfl cv_12_461 hS (d' := 2) (mc' := 0) (ms' := 0) (as' := [(0, 1), (0, 1000)]) (st := [(0, c), (2, (Ad E 65))]) (by first | decide | omega) (by first | decide | omega) (by first | decide | omega) rfl rfl (Nat.le_of_ble_eq_true rfl) (c_X12_countR E S (hv [80, 81, 82, 83, 84, 85, 86, 87] [] (up (hv [80, 81, 82, 83, 84, 85, 86, 87] [] G G60) 64 (Ad E 64) c z61) G73) 1 1000 hS bah74 bah74e (by first | decide | omega) (by first | decide | omega) (by first | decide | omega) (by first | decide | omega) TT nn (pKd TT nn 19 (pNb TT nn 1 1000 sr)) r76) ?_
              rintro _ _ _ ⟨rfl, ⟨G81, rfl⟩, z82, rfl, bah83, bah83e, z82a, z82b, f84, r85⟩
              have k86 := rm_bad r85
              have k86 := bah83e.trans k86
              refine r_peekI hX (tl1 80 rfl (by decide)) hS (fun o87 o87e o87a o87b => ?_)
              obtain rfl : bah83 = o87 := bah83e.trans o87e.symm
              refine r_ex hX hP 1 (pc' := 135) (st' := [(0, z82), (0, c), (2, (Ad E 65))]) (lo' := [(0, (2, (Ad E 1))), (1, (0, k)), (2, (0, c)), (3, (0, ch))]) rfl ?_
              refine r_iastK hX hP rfl al_65 s1 (by first | decide | omega) (by first | decide | omega) (by first | decide | omega) (by first | decide | omega) (fun h88 => ?_)
              refine r_ex hX hP 1 (pc' := 453) (st' := []) (lo' := [(0, (2, (Ad E 1))), (1, (0, k)), (2, (0, c)), (3, (0, ch))]) rfl ?_
              have hC89 : pNb TT nn 1 1000 (pKd TT nn 19 (pNb TT nn 1 1000 sr)) = qPl TT nn k ch sr := by
                unfold qPl; (repeat (first | rw [if_pos (by first | decide | omega)] | rw [if_neg (by first | decide | omega)])); try (first | rfl | (unfold qFr; (repeat (first | rw [if_pos (by first | decide | omega)] | rw [if_neg (by first | decide | omega)])); try rfl) | (unfold qFa; (repeat (first | rw [if_pos (by first | decide | omega)] | rw [if_neg (by first | decide | omega)])); try rfl) | (unfold qMs qCu; (repeat (first | rw [if_pos (by first | decide | omega)] | rw [if_neg (by first | decide | omega)])); try rfl) | (rw [show k = 1 from by omega]; exact rt1 TT nn (by first | decide | omega)) | (unfold qRt pM3 pM2 pM1; (repeat (first | rw [if_pos (by first | decide | omega)] | rw [if_neg (by first | decide | omega)])); try rfl))
              have hC891 : (qPl TT nn k ch sr) 1 = (pNb TT nn 1 1000 (pKd TT nn 19 (pNb TT nn 1 1000 sr))) 1 := congrFun hC89.symm 1
              exact r_retV hX hP rfl rfl (by first | decide | omega) (by first | decide | omega) ⟨rfl, ⟨_, (hq_up (hq_call (hq_call (hq_up (hq_call (hq_refl _ _ _) rfl) rfl) rfl) rfl) rfl).symm⟩, rfl, bah83, bah83e, z61, h67, z82, h88, (by first | decide | omega), (fun i h0 hi hx => ⟨rfl, ((show (up (hv [80, 81, 82, 83, 84, 85, 86, 87] [] G G60) 64 (Ad E 64) c z61) 64 (Ad E 64) i = _ from up_ne (fun q => absurd q.2.2 hx)).trans rfl), ((show (up (hv [80, 81, 82, 83, 84, 85, 86, 87] [] (hv [80, 81, 82, 83, 84, 85, 86, 87] [] (up (hv [80, 81, 82, 83, 84, 85, 86, 87] [] G G60) 64 (Ad E 64) c z61) G73) G81) 65 (Ad E 65) c z82) 65 (Ad E 65) i = _ from up_ne (fun q => absurd q.2.2 hx)).trans rfl), rfl, rfl, rfl⟩), (rm_cast r85 hC89)⟩
            · skip
              refine r_ex hX hP 1 (pc' := 121) (st' := [(0, 1000), (0, z61), (2, (Ad E 1)), (0, c), (2, (Ad E 65))]) (lo' := [(0, (2, (Ad E 1))), (1, (0, k)), (2, (0, c)), (3, (0, ch))]) rfl ?_
              refine r_callV gd hX hP rfl cv_12_461 hS (d' := 2) (mc' := 0) (ms' := 0) (as' := [(0, z61), (0, 1000)]) (st := [(0, c), (2, (Ad E 65))]) (by first | decide | omega) (by first | decide | omega) (by first | decide | omega) rfl rfl (Nat.le_of_ble_eq_true rfl) (c_X12_countR E S (hv [80, 81, 82, 83, 84, 85, 86, 87] [] (up (hv [80, 81, 82, 83, 84, 85, 86, 87] [] G G60) 64 (Ad E 64) c z61) G73) z61 1000 hS bah74 bah74e (by first | decide | omega) (by first | decide | omega) (by first | decide | omega) (by first | decide | omega) TT nn (pKd TT nn 19 (pNb TT nn 1 1000 sr)) r76) ?_
              rintro _ _ _ ⟨rfl, ⟨G90, rfl⟩, z91, rfl, bah92, bah92e, z91a, z91b, f93, r94⟩
              have k95 := rm_bad r94
              have k95 := bah92e.trans k95
              refine r_peekI hX (tl1 80 rfl (by decide)) hS (fun o96 o96e o96a o96b => ?_)
              obtain rfl : bah92 = o96 := bah92e.trans o96e.symm
              refine r_ex hX hP 1 (pc' := 135) (st' := [(0, z91), (0, c), (2, (Ad E 65))]) (lo' := [(0, (2, (Ad E 1))), (1, (0, k)), (2, (0, c)), (3, (0, ch))]) rfl ?_
              refine r_iastK hX hP rfl al_65 s1 (by first | decide | omega) (by first | decide | omega) (by first | decide | omega) (by first | decide | omega) (fun h97 => ?_)
              refine r_ex hX hP 1 (pc' := 453) (st' := []) (lo' := [(0, (2, (Ad E 1))), (1, (0, k)), (2, (0, c)), (3, (0, ch))]) rfl ?_
              have hC98 : pNb TT nn z61 1000 (pKd TT nn 19 (pNb TT nn 1 1000 sr)) = qPl TT nn k ch sr := by
                unfold qPl; (repeat (first | rw [if_pos (by first | decide | omega)] | rw [if_neg (by first | decide | omega)])); try (first | rfl | (unfold qFr; (repeat (first | rw [if_pos (by first | decide | omega)] | rw [if_neg (by first | decide | omega)])); try rfl) | (unfold qFa; (repeat (first | rw [if_pos (by first | decide | omega)] | rw [if_neg (by first | decide | omega)])); try rfl) | (unfold qMs qCu; (repeat (first | rw [if_pos (by first | decide | omega)] | rw [if_neg (by first | decide | omega)])); try rfl) | (rw [show k = 1 from by omega]; exact rt1 TT nn (by first | decide | omega)) | (unfold qRt pM3 pM2 pM1; (repeat (first | rw [if_pos (by first | decide | omega)] | rw [if_neg (by first | decide | omega)])); try rfl))
              have hC981 : (qPl TT nn k ch sr) 1 = (pNb TT nn z61 1000 (pKd TT nn 19 (pNb TT nn 1 1000 sr))) 1 := congrFun hC98.symm 1
              exact r_retV hX hP rfl rfl (by first | decide | omega) (by first | decide | omega) ⟨rfl, ⟨_, (hq_up (hq_call (hq_call (hq_up (hq_call (hq_refl _ _ _) rfl) rfl) rfl) rfl) rfl).symm⟩, rfl, bah92, bah92e, z61, h67, z91, h97, (by first | decide | omega), (fun i h0 hi hx => ⟨rfl, ((show (up (hv [80, 81, 82, 83, 84, 85, 86, 87] [] G G60) 64 (Ad E 64) c z61) 64 (Ad E 64) i = _ from up_ne (fun q => absurd q.2.2 hx)).trans rfl), ((show (up (hv [80, 81, 82, 83, 84, 85, 86, 87] [] (hv [80, 81, 82, 83, 84, 85, 86, 87] [] (up (hv [80, 81, 82, 83, 84, 85, 86, 87] [] G G60) 64 (Ad E 64) c z61) G73) G90) 65 (Ad E 65) c z91) 65 (Ad E 65) i = _ from up_ne (fun q => absurd q.2.2 hx)).trans rfl), rfl, rfl, rfl⟩), (rm_cast r94 hC98)⟩
        · skip
          exfalso; omega
    · skip
      refine r_ex hX hP 2 (pc' := 11) (st' := [(0, 2), (0, k)]) (lo' := [(0, (2, (Ad E 1))), (1, (0, k)), (2, (0, c)), (3, (0, ch))]) rfl ?_
      refine r_ic_eq hX hP rfl (tgt := 19) rfl (by first | decide | omega) (by first | decide | omega) (by first | decide | omega) (by first | decide | omega) (fun c99 => ?_) (fun c99 => ?_)
      · skip
        refine r_ex hX hP 1 (pc' := 20) (st' := [(2, (Ad E 1))]) (lo' := [(0, (2, (Ad E 1))), (1, (0, k)), (2, (0, c)), (3, (0, ch))]) rfl ?_
        refine r_getC hX hP rfl fl_12_217 hS (fun s100 => ?_)
        refine r_ex hX hP 3 (pc' := 26) (st' := [(0, 2), (0, k), (0, c), (2, (Ad E 64))]) (lo' := [(0, (2, (Ad E 1))), (1, (0, k)), (2, (0, c)), (3, (0, ch))]) rfl ?_
        refine r_ic_ge hX hP rfl (tgt := 40) rfl (by first | decide | omega) (by first | decide | omega) (by first | decide | omega) (by first | decide | omega) (fun c101 => ?_) (fun c101 => ?_)
        · skip
          refine r_ex hX hP 2 (pc' := 42) (st' := [(0, 0), (2, (Ad E 1)), (0, c), (2, (Ad E 64))]) (lo' := [(0, (2, (Ad E 1))), (1, (0, k)), (2, (0, c)), (3, (0, ch))]) rfl ?_
          refine r_ldcw hX hP rfl (v := 9999999) (tbg sg9 186 rfl rfl) ?_
          refine r_peekI hX (tl1 80 rfl (by decide)) hS (fun bap102 bap102e bap102a bap102b => ?_)
          have k103 := rm_bad rd
          have k103 := bap102e.trans k103
          refine r_callV gd hX hP rfl cv_12_461 hS (d' := 2) (mc' := 0) (ms' := 0) (as' := [(0, 0), (0, 9999999)]) (st := [(0, c), (2, (Ad E 64))]) (by first | decide | omega) (by first | decide | omega) (by first | decide | omega) rfl rfl (Nat.le_of_ble_eq_true rfl) (c_X12_countR E S G 0 9999999 hS bap102 bap102e (by first | decide | omega) (by first | decide | omega) (by first | decide | omega) (by first | decide | omega) TT nn sr rd) ?_
          rintro _ _ _ ⟨rfl, ⟨G104, rfl⟩, z105, rfl, bah106, bah106e, z105a, z105b, f107, r108⟩
          have k109 := rm_bad r108
          have k109 := bah106e.trans k109
          refine r_peekI hX (tl1 80 rfl (by decide)) hS (fun o110 o110e o110a o110b => ?_)
          obtain rfl : bah106 = o110 := bah106e.trans o110e.symm
          refine r_iastK hX hP rfl al_64 s100 (by first | decide | omega) (by first | decide | omega) (by first | decide | omega) (by first | decide | omega) (fun h111 => ?_)
          refine r_ex hX hP 1 (pc' := 50) (st' := [(0, k)]) (lo' := [(0, (2, (Ad E 1))), (1, (0, k)), (2, (0, c)), (3, (0, ch))]) rfl ?_
          refine r_if_ne hX hP rfl (tgt := 81) rfl (by first | decide | omega) (by first | decide | omega) (fun c112 => ?_) (fun c112 => ?_)
          · skip
            refine r_ex hX hP 7 (pc' := 91) (st' := [(0, 0), (0, 0), (0, 0), (0, 114), (0, 111), (0, 102), (2, (Ad E 1))]) (lo' := [(0, (2, (Ad E 1))), (1, (0, k)), (2, (0, c)), (3, (0, ch))]) rfl ?_
            refine r_callS gd hX hP rfl cs_12_405 (d' := 0) (mc' := 0) (ms' := 0) (as' := [(0, 102), (0, 111), (0, 114), (0, 0), (0, 0), (0, 0)]) (st := [(2, (Ad E 1))]) (by first | decide | omega) (by first | decide | omega) (by first | decide | omega) rfl rfl (Nat.le_of_ble_eq_true rfl) (c_X12_spelledR E S (up (hv [80, 81, 82, 83, 84, 85, 86, 87] [] G G104) 64 (Ad E 64) c z105) 102 111 114 0 0 0 (by first | decide | omega) (by first | decide | omega) (by first | decide | omega) (by first | decide | omega) (by first | decide | omega) (by first | decide | omega) (by first | decide | omega) (by first | decide | omega) (by first | decide | omega) (by first | decide | omega) (by first | decide | omega) (by first | decide | omega)) ?_
            rintro _ _ _ ⟨rfl, rfl, z113, rfl, z113a, z113b, f114⟩
            have k115 := (show sp6 102 111 114 0 0 0 = 6642 from by decide)
            have k116 : z113 = wW 19 := by have e : wW 19 = 6642 := (by decide +kernel); omega
            refine r_callV gd hX hP rfl cv_12_466 hS (d' := 2) (mc' := 0) (ms' := 0) (as' := [(1, z113)]) (st := []) (by first | decide | omega) (by first | decide | omega) (by first | decide | omega) rfl rfl (Nat.le_of_ble_eq_true rfl) (c_X12_wordIsR E S (up (hv [80, 81, 82, 83, 84, 85, 86, 87] [] G G104) 64 (Ad E 64) c z105) z113 hS bah106 bah106e (by first | decide | omega) (by first | decide | omega) TT nn (pNb TT nn 0 9999999 sr) r108 19 k116 (by decide)) ?_
            rintro _ _ _ ⟨rfl, ⟨G117, rfl⟩, rfl, bah118, bah118e, f119, r120⟩
            have k121 := rm_bad r120
            have k121 := bah118e.trans k121
            refine r_peekI hX (tl1 80 rfl (by decide)) hS (fun o122 o122e o122a o122b => ?_)
            obtain rfl : bah118 = o122 := bah118e.trans o122e.symm
            refine r_ex hX hP 1 (pc' := 98) (st' := [(2, (Ad E 1))]) (lo' := [(0, (2, (Ad E 1))), (1, (0, k)), (2, (0, c)), (3, (0, ch))]) rfl ?_
            refine r_getC hX hP rfl fl_12_220 hS (fun _ => ?_)
            refine r_ex hX hP 3 (pc' := 104) (st' := [(0, 1), (0, k), (0, c), (2, (Ad E 65))]) (lo' := [(0, (2, (Ad E 1))), (1, (0, k)), (2, (0, c)), (3, (0, ch))]) rfl ?_
            refine r_ic_ne hX hP rfl (tgt := 127) rfl (by first | decide | omega) (by first | decide | omega) (by first | decide | omega) (by first | decide | omega) (fun c123 => ?_) (fun c123 => ?_)
            · skip
              refine r_ex hX hP 3 (pc' := 132) (st' := [(0, 1000), (0, 1), (2, (Ad E 1)), (0, c), (2, (Ad E 65))]) (lo' := [(0, (2, (Ad E 1))), (1, (0, k)), (2, (0, c)), (3, (0, ch))]) rfl ?_
              refine r_callV gd hX hP rfl cv_12_461 hS (d' := 2) (mc' := 0) (ms' := 0) (as' := [(0, 1), (0, 1000)]) (st := [(0, c), (2, (Ad E 65))]) (by first | decide | omega) (by first | decide | omega) (by first | decide | omega) rfl rfl (Nat.le_of_ble_eq_true rfl) (c_X12_countR E S (hv [80, 81, 82, 83, 84, 85, 86, 87] [] (up (hv [80, 81, 82, 83, 84, 85, 86, 87] [] G G104) 64 (Ad E 64) c z105) G117) 1 1000 hS bah118 bah118e (by first | decide | omega) (by first | decide | omega) (by first | decide | omega) (by first | decide | omega) TT nn (pKd TT nn 19 (pNb TT nn 0 9999999 sr)) r120) ?_
              rintro _ _ _ ⟨rfl, ⟨G124, rfl⟩, z125, rfl, bah126, bah126e, z125a, z125b, f127, r128⟩
              have k129 := rm_bad r128
              have k129 := bah126e.trans k129
              refine r_peekI hX (tl1 80 rfl (by decide)) hS (fun o130 o130e o130a o130b => ?_)
              obtain rfl : bah126 = o130 := bah126e.trans o130e.symm
              refine r_iastK hX hP rfl al_65 s1 (by first | decide | omega) (by first | decide | omega) (by first | decide | omega) (by first | decide | omega) (fun h131 => ?_)
              refine r_ex hX hP 1 (pc' := 453) (st' := []) (lo' := [(0, (2, (Ad E 1))), (1, (0, k)), (2, (0, c)), (3, (0, ch))]) rfl ?_
              have hC132 : pNb TT nn 1 1000 (pKd TT nn 19 (pNb TT nn 0 9999999 sr)) = qPl TT nn k ch sr := by
                unfold qPl; (repeat (first | rw [if_pos (by first | decide | omega)] | rw [if_neg (by first | decide | omega)])); try (first | rfl | (unfold qFr; (repeat (first | rw [if_pos (by first | decide | omega)] | rw [if_neg (by first | decide | omega)])); try rfl) | (unfold qFa; (repeat (first | rw [if_pos (by first | decide | omega)] | rw [if_neg (by first | decide | omega)])); try rfl) | (unfold qMs qCu; (repeat (first | rw [if_pos (by first | decide | omega)] | rw [if_neg (by first | decide | omega)])); try rfl) | (rw [show k = 1 from by omega]; exact rt1 TT nn (by first | decide | omega)) | (unfold qRt pM3 pM2 pM1; (repeat (first | rw [if_pos (by first | decide | omega)] | rw [if_neg (by first | decide | omega)])); try rfl))
              have hC1321 : (qPl TT nn k ch sr) 1 = (pNb TT nn 1 1000 (pKd TT nn 19 (pNb TT nn 0 9999999 sr))) 1 := congrFun hC132.symm 1
              exact r_retV hX hP rfl rfl (by first | decide | omega) (by first | decide | omega) ⟨rfl, ⟨_, (hq_up (hq_call (hq_call (hq_up (hq_call (hq_refl _ _ _) rfl) rfl) rfl) rfl) rfl).symm⟩, rfl, bah126, bah126e, z105, h111, z125, h131, (by first | decide | omega), (fun i h0 hi hx => ⟨rfl, ((show (up (hv [80, 81, 82, 83, 84, 85, 86, 87] [] G G104) 64 (Ad E 64) c z105) 64 (Ad E 64) i = _ from up_ne (fun q => absurd q.2.2 hx)).trans rfl), ((show (up (hv [80, 81, 82, 83, 84, 85, 86, 87] [] (hv [80, 81, 82, 83, 84, 85, 86, 87] [] (up (hv [80, 81, 82, 83, 84, 85, 86, 87] [] G G104) 64 (Ad E 64) c z105) G117) G124) 65 (Ad E 65) c z125) 65 (Ad E 65) i = _ from up_ne (fun q => absurd q.2.2 hx)).trans rfl), rfl, rfl, rfl⟩), (rm_cast r128 hC132)⟩
            · skip
              exfalso; omega
          · skip
            exfalso; omega
        · skip
          exfalso; omega
      · skip
        refine r_ex hX hP 2 (pc' := 16) (st' := [(0, 3), (0, k)]) (lo' := [(0, (2, (Ad E 1))), (1, (0, k)), (2, (0, c)), (3, (0, ch))]) rfl ?_
        refine r_ic_ne hX hP rfl (tgt := 139) rfl (by first | decide | omega) (by first | decide | omega) (by first | decide | omega) (by first | decide | omega) (fun c133 => ?_) (fun c133 => ?_)
        · skip
          refine r_ex hX hP 2 (pc' := 141) (st' := [(0, 4), (0, k)]) (lo' := [(0, (2, (Ad E 1))), (1, (0, k)), (2, (0, c)), (3, (0, ch))]) rfl ?_
          refine r_ic_ne hX hP rfl (tgt := 189) rfl (by first | decide | omega) (by first | decide | omega) (by first | decide | omega) (by first | decide | omega) (fun c134 => ?_) (fun c134 => ?_)
          · skip
            refine r_ex hX hP 2 (pc' := 191) (st' := [(0, 5), (0, k)]) (lo' := [(0, (2, (Ad E 1))), (1, (0, k)), (2, (0, c)), (3, (0, ch))]) rfl ?_
            refine r_ic_ne hX hP rfl (tgt := 325) rfl (by first | decide | omega) (by first | decide | omega) (by first | decide | omega) (by first | decide | omega) (fun c135 => ?_) (fun c135 => ?_)
            · skip
              refine r_ex hX hP 2 (pc' := 328) (st' := [(0, 8), (0, k)]) (lo' := [(0, (2, (Ad E 1))), (1, (0, k)), (2, (0, c)), (3, (0, ch))]) rfl ?_
              refine r_ic_ne hX hP rfl (tgt := 373) rfl (by first | decide | omega) (by first | decide | omega) (by first | decide | omega) (by first | decide | omega) (fun c136 => ?_) (fun c136 => ?_)
              · skip
                refine r_ex hX hP 1 (pc' := 374) (st' := [(2, (Ad E 1))]) (lo' := [(0, (2, (Ad E 1))), (1, (0, k)), (2, (0, c)), (3, (0, ch))]) rfl ?_
                refine r_getC hX hP rfl fl_12_235 hS (fun s137 => ?_)
                refine r_ex hX hP 3 (pc' := 380) (st' := [(0, 0), (2, (Ad E 1)), (0, ch), (2, (Ad E 70))]) (lo' := [(0, (2, (Ad E 1))), (1, (0, k)), (2, (0, c)), (3, (0, ch))]) rfl ?_
                refine r_ldcw hX hP rfl (v := 9999999) (tbg sg9 186 rfl rfl) ?_
                refine r_peekI hX (tl1 80 rfl (by decide)) hS (fun bap138 bap138e bap138a bap138b => ?_)
                have k139 := rm_bad rd
                have k139 := bap138e.trans k139
                refine r_callV gd hX hP rfl cv_12_461 hS (d' := 2) (mc' := 0) (ms' := 0) (as' := [(0, 0), (0, 9999999)]) (st := [(0, ch), (2, (Ad E 70))]) (by first | decide | omega) (by first | decide | omega) (by first | decide | omega) rfl rfl (Nat.le_of_ble_eq_true rfl) (c_X12_countR E S G 0 9999999 hS bap138 bap138e (by first | decide | omega) (by first | decide | omega) (by first | decide | omega) (by first | decide | omega) TT nn sr rd) ?_
                rintro _ _ _ ⟨rfl, ⟨G140, rfl⟩, z141, rfl, bah142, bah142e, z141a, z141b, f143, r144⟩
                have k145 := rm_bad r144
                have k145 := bah142e.trans k145
                refine r_peekI hX (tl1 80 rfl (by decide)) hS (fun o146 o146e o146a o146b => ?_)
                obtain rfl : bah142 = o146 := bah142e.trans o146e.symm
                refine r_iastK hX hP rfl al_70 s137 (by first | decide | omega) (by first | decide | omega) (by first | decide | omega) (by first | decide | omega) (fun h147 => ?_)
                have k148 : (pNb TT nn 0 9999999 sr) 4 = sr 4 := pNb_hi TT nn sr (by decide)
                have rd149 : RdM E TT nn (pMo ch (tkV TT nn (sr 0)) (pNb TT nn 0 9999999 sr)) (up (hv [80, 81, 82, 83, 84, 85, 86, 87] [] G G140) 70 (Ad E 70) ch z141) := rm_mk (rm_tape r144 : _) (rm_end r144 : _) (rm_at r144 : _) (rm_beh r144 : _) (rm_sort r144 : _) (rm_num r144 : _) (rm_sgn r144 : _) (rm_word r144 : _) (rm_let r144 : _) (rm_bad r144 : _) (rm_bat r144 : _) (rm_nm r144 : _) (rm_nc r144 : _) (rm_nd r144 : _) (rm_ti r144 : _) (rm_to r144 : _) (rm_w0 r144 : _) (rm_w1 r144 : _) (rm_w2 r144 : _) (rm_mo (k := 0) (rm_q0 r144) (show _ ∨ _ from by omega) : _) (rm_mo (k := 1) (rm_q1 r144) (show _ ∨ _ from by omega) : _) (rm_mo (k := 2) (rm_q2 r144) (show _ ∨ _ from by omega) : _) (rm_mz (k := 0) (rm_z0 r144) (by first | decide | omega) : _) (rm_mz (k := 1) (rm_z1 r144) (by first | decide | omega) : _) (rm_mz (k := 2) (rm_z2 r144) (by first | decide | omega) : _) (rm_nv r144 : _) (rm_p0 r144 : _) (rm_p1 r144 : _) (rm_n4 r144 : _) (rm_c3 r144 : _)
                have k150 : (pMo ch (tkV TT nn (sr 0)) (pNb TT nn 0 9999999 sr)) 0 = (pNb TT nn 0 9999999 sr) 0 := rfl
                have k151 : (pMo ch (tkV TT nn (sr 0)) (pNb TT nn 0 9999999 sr)) 1 = (pNb TT nn 0 9999999 sr) 1 := rfl
                refine r_ex hX hP 1 (pc' := 388) (st' := [(2, (Ad E 1))]) (lo' := [(0, (2, (Ad E 1))), (1, (0, k)), (2, (0, c)), (3, (0, ch))]) rfl ?_
                refine r_getKI hX hP rfl fl_12_382 hS (x := bah142) bah142e ?_
                refine r_if_ne hX hP rfl (tgt := 421) rfl (by first | decide | omega) (by first | decide | omega) (fun c152 => ?_) (fun c152 => ?_)
                · skip
                  refine r_ex hX hP 7 (pc' := 433) (st' := [(0, 0), (0, 108), (0, 108), (0, 97), (0, 109), (0, 115), (2, (Ad E 1))]) (lo' := [(0, (2, (Ad E 1))), (1, (0, k)), (2, (0, c)), (3, (0, ch))]) rfl ?_
                  refine r_callS gd hX hP rfl cs_12_405 (d' := 0) (mc' := 0) (ms' := 0) (as' := [(0, 115), (0, 109), (0, 97), (0, 108), (0, 108), (0, 0)]) (st := [(2, (Ad E 1))]) (by first | decide | omega) (by first | decide | omega) (by first | decide | omega) rfl rfl (Nat.le_of_ble_eq_true rfl) (c_X12_spelledR E S (up (hv [80, 81, 82, 83, 84, 85, 86, 87] [] G G140) 70 (Ad E 70) ch z141) 115 109 97 108 108 0 (by first | decide | omega) (by first | decide | omega) (by first | decide | omega) (by first | decide | omega) (by first | decide | omega) (by first | decide | omega) (by first | decide | omega) (by first | decide | omega) (by first | decide | omega) (by first | decide | omega) (by first | decide | omega) (by first | decide | omega)) ?_
                  rintro _ _ _ ⟨rfl, rfl, z153, rfl, z153a, z153b, f154⟩
                  have k155 := (show sp6 115 109 97 108 108 0 = 20350348 from by decide)
                  have k156 : z153 = wW 16 := by have e : wW 16 = 20350348 := (by decide +kernel); omega
                  refine r_callV gd hX hP rfl cv_12_466 hS (d' := 2) (mc' := 0) (ms' := 0) (as' := [(1, z153)]) (st := []) (by first | decide | omega) (by first | decide | omega) (by first | decide | omega) rfl rfl (Nat.le_of_ble_eq_true rfl) (c_X12_wordIsR E S (up (hv [80, 81, 82, 83, 84, 85, 86, 87] [] G G140) 70 (Ad E 70) ch z141) z153 hS bah142 bah142e (by first | decide | omega) (by first | decide | omega) TT nn (pMo ch (tkV TT nn (sr 0)) (pNb TT nn 0 9999999 sr)) rd149 16 k156 (by decide)) ?_
                  rintro _ _ _ ⟨rfl, ⟨G157, rfl⟩, rfl, bah158, bah158e, f159, r160⟩
                  have k161 := rm_bad r160
                  have k161 := bah158e.trans k161
                  refine r_peekI hX (tl1 80 rfl (by decide)) hS (fun o162 o162e o162a o162b => ?_)
                  obtain rfl : bah158 = o162 := bah158e.trans o162e.symm
                  refine r_ex hX hP 1 (pc' := 440) (st' := [(2, (Ad E 1))]) (lo' := [(0, (2, (Ad E 1))), (1, (0, k)), (2, (0, c)), (3, (0, ch))]) rfl ?_
                  refine r_getC hX hP rfl fl_12_238 hS (fun s163 => ?_)
                  refine r_ex hX hP 3 (pc' := 446) (st' := [(0, 0), (2, (Ad E 1)), (0, ch), (2, (Ad E 71))]) (lo' := [(0, (2, (Ad E 1))), (1, (0, k)), (2, (0, c)), (3, (0, ch))]) rfl ?_
                  refine r_ldcw hX hP rfl (v := 9999999) (tbg sg9 186 rfl rfl) ?_
                  refine r_callV gd hX hP rfl cv_12_461 hS (d' := 2) (mc' := 0) (ms' := 0) (as' := [(0, 0), (0, 9999999)]) (st := [(0, ch), (2, (Ad E 71))]) (by first | decide | omega) (by first | decide | omega) (by first | decide | omega) rfl rfl (Nat.le_of_ble_eq_true rfl) (c_X12_countR E S (hv [80, 81, 82, 83, 84, 85, 86, 87] [] (up (hv [80, 81, 82, 83, 84, 85, 86, 87] [] G G140) 70 (Ad E 70) ch z141) G157) 0 9999999 hS bah158 bah158e (by first | decide | omega) (by first | decide | omega) (by first | decide | omega) (by first | decide | omega) TT nn (pKd TT nn 16 (pMo ch (tkV TT nn (sr 0)) (pNb TT nn 0 9999999 sr))) r160) ?_
                  rintro _ _ _ ⟨rfl, ⟨G164, rfl⟩, z165, rfl, bah166, bah166e, z165a, z165b, f167, r168⟩
                  have k169 := rm_bad r168
                  have k169 := bah166e.trans k169
                  refine r_peekI hX (tl1 80 rfl (by decide)) hS (fun o170 o170e o170a o170b => ?_)
                  obtain rfl : bah166 = o170 := bah166e.trans o170e.symm
                  refine r_iastK hX hP rfl al_71 s163 (by first | decide | omega) (by first | decide | omega) (by first | decide | omega) (by first | decide | omega) (fun h171 => ?_)
                  have hC172 : pNb TT nn 0 9999999 (pKd TT nn 16 (pMo ch (tkV TT nn (sr 0)) (pNb TT nn 0 9999999 sr))) = qPl TT nn k ch sr := by
                    unfold qPl; (repeat (first | rw [if_pos (by first | decide | omega)] | rw [if_neg (by first | decide | omega)])); try (first | rfl | (unfold qFr; (repeat (first | rw [if_pos (by first | decide | omega)] | rw [if_neg (by first | decide | omega)])); try rfl) | (unfold qFa; (repeat (first | rw [if_pos (by first | decide | omega)] | rw [if_neg (by first | decide | omega)])); try rfl) | (unfold qMs qCu; (repeat (first | rw [if_pos (by first | decide | omega)] | rw [if_neg (by first | decide | omega)])); try rfl) | (rw [show k = 1 from by omega]; exact rt1 TT nn (by first | decide | omega)) | (unfold qRt pM3 pM2 pM1; (repeat (first | rw [if_pos (by first | decide | omega)] | rw [if_neg (by first | decide | omega)])); try rfl))
                  have hC1721 : (qPl TT nn k ch sr) 1 = (pNb TT nn 0 9999999 (pKd TT nn 16 (pMo ch (tkV TT nn (sr 0)) (pNb TT nn 0 9999999 sr)))) 1 := congrFun hC172.symm 1
                  refine r_labC hX (tl1 95 rfl (by decide)) hS (fun s173 => ?_)
                  refine r_apeekI hX al_64 s173 (i := c) (by first | decide | omega) (by first | decide | omega) (fun nek174 nek174e nek174a nek174b => ?_)
                  exact r_retV hX hP rfl rfl (by first | decide | omega) (by first | decide | omega) ⟨rfl, ⟨_, (hq_up (hq_call (hq_call (hq_up (hq_call (hq_refl _ _ _) rfl) rfl) rfl) rfl) rfl).symm⟩, rfl, bah166, bah166e, nek174, nek174e, two_c, two_c_e, (by first | decide | omega), (fun i h0 hi hx => ⟨rfl, rfl, rfl, rfl, rfl, rfl⟩), (rm_cast r168 hC172)⟩
                · skip
                  refine r_ex hX hP 7 (pc' := 405) (st' := [(0, 0), (0, 0), (0, 97), (0, 116), (0, 97), (0, 114), (2, (Ad E 1))]) (lo' := [(0, (2, (Ad E 1))), (1, (0, k)), (2, (0, c)), (3, (0, ch))]) rfl ?_
                  refine r_callS gd hX hP rfl cs_12_405 (d' := 0) (mc' := 0) (ms' := 0) (as' := [(0, 114), (0, 97), (0, 116), (0, 97), (0, 0), (0, 0)]) (st := [(2, (Ad E 1))]) (by first | decide | omega) (by first | decide | omega) (by first | decide | omega) rfl rfl (Nat.le_of_ble_eq_true rfl) (c_X12_spelledR E S (up (hv [80, 81, 82, 83, 84, 85, 86, 87] [] G G140) 70 (Ad E 70) ch z141) 114 97 116 97 0 0 (by first | decide | omega) (by first | decide | omega) (by first | decide | omega) (by first | decide | omega) (by first | decide | omega) (by first | decide | omega) (by first | decide | omega) (by first | decide | omega) (by first | decide | omega) (by first | decide | omega) (by first | decide | omega) (by first | decide | omega)) ?_
                  rintro _ _ _ ⟨rfl, rfl, z175, rfl, z175a, z175b, f176⟩
                  have k177 := (show sp6 114 97 116 97 0 0 = 591489 from by decide)
                  refine r_callV gd hX hP rfl cv_12_401 hS (d' := 0) (mc' := 0) (ms' := 0) (as' := [(1, z175)]) (st := []) (by first | decide | omega) (by first | decide | omega) (by first | decide | omega) rfl rfl (Nat.le_of_ble_eq_true rfl) (c_X12_isWordR E S (up (hv [80, 81, 82, 83, 84, 85, 86, 87] [] G G140) 70 (Ad E 70) ch z141) z175 hS (by first | decide | omega) (by first | decide | omega) TT nn (pMo ch (tkV TT nn (sr 0)) (pNb TT nn 0 9999999 sr)) rd149) ?_
                  rintro _ _ _ ⟨rfl, rfl, z178, rfl, z178a, z178b, f179, r180⟩
                  have k181 := isw_eq (T := TT) (n := nn) (p := (pMo ch (tkV TT nn (sr 0)) (pNb TT nn 0 9999999 sr)) 0) (k := 17) (lit := 591489) (by decide) (by decide +kernel) (show z175 = 591489 from by omega) f179
                  clear f179
                  have k182 := wq_tk TT nn ((pMo ch (tkV TT nn (sr 0)) (pNb TT nn 0 9999999 sr)) 0) 17
                  refine r_if_eq hX hP rfl (tgt := 421) rfl (by first | decide | omega) (by first | decide | omega) (fun c183 => ?_) (fun c183 => ?_)
                  · skip
                    refine r_ex hX hP 7 (pc' := 433) (st' := [(0, 0), (0, 108), (0, 108), (0, 97), (0, 109), (0, 115), (2, (Ad E 1))]) (lo' := [(0, (2, (Ad E 1))), (1, (0, k)), (2, (0, c)), (3, (0, ch))]) rfl ?_
                    refine r_callS gd hX hP rfl cs_12_405 (d' := 0) (mc' := 0) (ms' := 0) (as' := [(0, 115), (0, 109), (0, 97), (0, 108), (0, 108), (0, 0)]) (st := [(2, (Ad E 1))]) (by first | decide | omega) (by first | decide | omega) (by first | decide | omega) rfl rfl (Nat.le_of_ble_eq_true rfl) (c_X12_spelledR E S (up (hv [80, 81, 82, 83, 84, 85, 86, 87] [] G G140) 70 (Ad E 70) ch z141) 115 109 97 108 108 0 (by first | decide | omega) (by first | decide | omega) (by first | decide | omega) (by first | decide | omega) (by first | decide | omega) (by first | decide | omega) (by first | decide | omega) (by first | decide | omega) (by first | decide | omega) (by first | decide | omega) (by first | decide | omega) (by first | decide | omega)) ?_
                    rintro _ _ _ ⟨rfl, rfl, z184, rfl, z184a, z184b, f185⟩
                    have k186 := (show sp6 115 109 97 108 108 0 = 20350348 from by decide)
                    have k187 : z184 = wW 16 := by have e : wW 16 = 20350348 := (by decide +kernel); omega
                    refine r_callV gd hX hP rfl cv_12_466 hS (d' := 2) (mc' := 0) (ms' := 0) (as' := [(1, z184)]) (st := []) (by first | decide | omega) (by first | decide | omega) (by first | decide | omega) rfl rfl (Nat.le_of_ble_eq_true rfl) (c_X12_wordIsR E S (up (hv [80, 81, 82, 83, 84, 85, 86, 87] [] G G140) 70 (Ad E 70) ch z141) z184 hS bah142 bah142e (by first | decide | omega) (by first | decide | omega) TT nn (pMo ch (tkV TT nn (sr 0)) (pNb TT nn 0 9999999 sr)) r180 16 k187 (by decide)) ?_
                    rintro _ _ _ ⟨rfl, ⟨G188, rfl⟩, rfl, bah189, bah189e, f190, r191⟩
                    have k192 := rm_bad r191
                    have k192 := bah189e.trans k192
                    refine r_peekI hX (tl1 80 rfl (by decide)) hS (fun o193 o193e o193a o193b => ?_)
                    obtain rfl : bah189 = o193 := bah189e.trans o193e.symm
                    refine r_ex hX hP 1 (pc' := 440) (st' := [(2, (Ad E 1))]) (lo' := [(0, (2, (Ad E 1))), (1, (0, k)), (2, (0, c)), (3, (0, ch))]) rfl ?_
                    refine r_getC hX hP rfl fl_12_238 hS (fun s194 => ?_)
                    refine r_ex hX hP 3 (pc' := 446) (st' := [(0, 0), (2, (Ad E 1)), (0, ch), (2, (Ad E 71))]) (lo' := [(0, (2, (Ad E 1))), (1, (0, k)), (2, (0, c)), (3, (0, ch))]) rfl ?_
                    refine r_ldcw hX hP rfl (v := 9999999) (tbg sg9 186 rfl rfl) ?_
                    refine r_callV gd hX hP rfl cv_12_461 hS (d' := 2) (mc' := 0) (ms' := 0) (as' := [(0, 0), (0, 9999999)]) (st := [(0, ch), (2, (Ad E 71))]) (by first | decide | omega) (by first | decide | omega) (by first | decide | omega) rfl rfl (Nat.le_of_ble_eq_true rfl) (c_X12_countR E S (hv [80, 81, 82, 83, 84, 85, 86, 87] [] (up (hv [80, 81, 82, 83, 84, 85, 86, 87] [] G G140) 70 (Ad E 70) ch z141) G188) 0 9999999 hS bah189 bah189e (by first | decide | omega) (by first | decide | omega) (by first | decide | omega) (by first | decide | omega) TT nn (pKd TT nn 16 (pMo ch (tkV TT nn (sr 0)) (pNb TT nn 0 9999999 sr))) r191) ?_
                    rintro _ _ _ ⟨rfl, ⟨G195, rfl⟩, z196, rfl, bah197, bah197e, z196a, z196b, f198, r199⟩
                    have k200 := rm_bad r199
                    have k200 := bah197e.trans k200
                    refine r_peekI hX (tl1 80 rfl (by decide)) hS (fun o201 o201e o201a o201b => ?_)
                    obtain rfl : bah197 = o201 := bah197e.trans o201e.symm
                    refine r_iastK hX hP rfl al_71 s194 (by first | decide | omega) (by first | decide | omega) (by first | decide | omega) (by first | decide | omega) (fun h202 => ?_)
                    have hC203 : pNb TT nn 0 9999999 (pKd TT nn 16 (pMo ch (tkV TT nn (sr 0)) (pNb TT nn 0 9999999 sr))) = qPl TT nn k ch sr := by
                      unfold qPl; (repeat (first | rw [if_pos (by first | decide | omega)] | rw [if_neg (by first | decide | omega)])); try (first | rfl | (unfold qFr; (repeat (first | rw [if_pos (by first | decide | omega)] | rw [if_neg (by first | decide | omega)])); try rfl) | (unfold qFa; (repeat (first | rw [if_pos (by first | decide | omega)] | rw [if_neg (by first | decide | omega)])); try rfl) | (unfold qMs qCu; (repeat (first | rw [if_pos (by first | decide | omega)] | rw [if_neg (by first | decide | omega)])); try rfl) | (rw [show k = 1 from by omega]; exact rt1 TT nn (by first | decide | omega)) | (unfold qRt pM3 pM2 pM1; (repeat (first | rw [if_pos (by first | decide | omega)] | rw [if_neg (by first | decide | omega)])); try rfl))
                    have hC2031 : (qPl TT nn k ch sr) 1 = (pNb TT nn 0 9999999 (pKd TT nn 16 (pMo ch (tkV TT nn (sr 0)) (pNb TT nn 0 9999999 sr)))) 1 := congrFun hC203.symm 1
                    refine r_labC hX (tl1 95 rfl (by decide)) hS (fun s204 => ?_)
                    refine r_apeekI hX al_64 s204 (i := c) (by first | decide | omega) (by first | decide | omega) (fun nek205 nek205e nek205a nek205b => ?_)
                    exact r_retV hX hP rfl rfl (by first | decide | omega) (by first | decide | omega) ⟨rfl, ⟨_, (hq_up (hq_call (hq_call (hq_up (hq_call (hq_refl _ _ _) rfl) rfl) rfl) rfl) rfl).symm⟩, rfl, bah197, bah197e, nek205, nek205e, two_c, two_c_e, (by first | decide | omega), (fun i h0 hi hx => ⟨rfl, rfl, rfl, rfl, rfl, rfl⟩), (rm_cast r199 hC203)⟩
                  · skip
                    refine r_ex hX hP 1 (pc' := 415) (st' := [(2, (Ad E 1))]) (lo' := [(0, (2, (Ad E 1))), (1, (0, k)), (2, (0, c)), (3, (0, ch))]) rfl ?_
                    refine r_callV gd hX hP rfl cv_12_398 hS (d' := 1) (mc' := 0) (ms' := 0) (as' := []) (st := []) (by first | decide | omega) (by first | decide | omega) (by first | decide | omega) rfl rfl (Nat.le_of_ble_eq_true rfl) (c_X12_nextR E S (up (hv [80, 81, 82, 83, 84, 85, 86, 87] [] G G140) 70 (Ad E 70) ch z141)  hS TT nn (pMo ch (tkV TT nn (sr 0)) (pNb TT nn 0 9999999 sr)) r180) ?_
                    rintro _ _ _ ⟨rfl, ⟨G206, rfl⟩, rfl, r207⟩
                    refine r_ex hX hP 1 (pc' := 453) (st' := []) (lo' := [(0, (2, (Ad E 1))), (1, (0, k)), (2, (0, c)), (3, (0, ch))]) rfl ?_
                    have hC208 : pAv TT nn (pMo ch (tkV TT nn (sr 0)) (pNb TT nn 0 9999999 sr)) = qPl TT nn k ch sr := by
                      unfold qPl; (repeat (first | rw [if_pos (by first | decide | omega)] | rw [if_neg (by first | decide | omega)])); try (first | rfl | (unfold qFr; (repeat (first | rw [if_pos (by first | decide | omega)] | rw [if_neg (by first | decide | omega)])); try rfl) | (unfold qFa; (repeat (first | rw [if_pos (by first | decide | omega)] | rw [if_neg (by first | decide | omega)])); try rfl) | (unfold qMs qCu; (repeat (first | rw [if_pos (by first | decide | omega)] | rw [if_neg (by first | decide | omega)])); try rfl) | (rw [show k = 1 from by omega]; exact rt1 TT nn (by first | decide | omega)) | (unfold qRt pM3 pM2 pM1; (repeat (first | rw [if_pos (by first | decide | omega)] | rw [if_neg (by first | decide | omega)])); try rfl))
                    have hC2081 : (qPl TT nn k ch sr) 1 = (pAv TT nn (pMo ch (tkV TT nn (sr 0)) (pNb TT nn 0 9999999 sr))) 1 := congrFun hC208.symm 1
                    refine r_labC hX (tl1 95 rfl (by decide)) hS (fun s209 => ?_)
                    refine r_apeekI hX al_64 s209 (i := c) (by first | decide | omega) (by first | decide | omega) (fun nek210 nek210e nek210a nek210b => ?_)
                    exact r_retV hX hP rfl rfl (by first | decide | omega) (by first | decide | omega) ⟨rfl, ⟨_, (hq_call (hq_up (hq_call (hq_refl _ _ _) rfl) rfl) rfl).symm⟩, rfl, bah142, bah142e, nek210, nek210e, two_c, two_c_e, (by first | decide | omega), (fun i h0 hi hx => ⟨rfl, rfl, rfl, rfl, rfl, rfl⟩), (rm_cast r207 hC208)⟩
              · skip
                refine r_ex hX hP 1 (pc' := 332) (st' := [(2, (Ad E 1))]) (lo' := [(0, (2, (Ad E 1))), (1, (0, k)), (2, (0, c)), (3, (0, ch))]) rfl ?_
                refine r_peekI hX (tl1 80 rfl (by decide)) hS (fun bap211 bap211e bap211a bap211b => ?_)
                have k212 := rm_bad rd
                have k212 := bap211e.trans k212
                refine r_callV gd hX hP rfl cv_12_475 hS (d' := 2) (mc' := 0) (ms' := 0) (as' := []) (st := []) (by first | decide | omega) (by first | decide | omega) (by first | decide | omega) rfl rfl (Nat.le_of_ble_eq_true rfl) (c_X12_isNameR E S G  hS bap211 bap211e TT nn sr rd) ?_
                rintro _ _ _ ⟨rfl, ⟨G213, rfl⟩, z214, rfl, bah215, bah215e, z214a, z214b, f216, r217⟩
                have k218 := congrArg (tkK TT nn) (pNa_0 TT nn sr)
                have k219 := congrArg (tkE TT nn) (pNa_0 TT nn sr)
                have k220 := congrArg (tkS TT nn) (pNa_0 TT nn sr)
                have k221 := pNa_hi TT nn sr (show (3 : Int) ≤ 5 from by decide)
                have k222 := rm_bad r217
                have k222 := bah215e.trans k222
                refine r_peekI hX (tl1 80 rfl (by decide)) hS (fun o223 o223e o223a o223b => ?_)
                obtain rfl : bah215 = o223 := bah215e.trans o223e.symm
                refine r_if_ne hX hP rfl (tgt := 339) rfl (by first | decide | omega) (by first | decide | omega) (fun c224 => ?_) (fun c224 => ?_)
                · skip
                  refine r_ex hX hP 2 (pc' := 341) (st' := [(2, (Ad E 1)), (2, (Ad E 1))]) (lo' := [(0, (2, (Ad E 1))), (1, (0, k)), (2, (0, c)), (3, (0, ch))]) rfl ?_
                  refine r_callV gd hX hP rfl cv_12_478 hS (d' := 0) (mc' := 0) (ms' := 0) (as' := []) (st := [(2, (Ad E 1))]) (by first | decide | omega) (by first | decide | omega) (by first | decide | omega) rfl rfl (Nat.le_of_ble_eq_true rfl) (c_X12_namedR E S (hv [80, 81] [] G G213)  hS TT nn (pNa TT nn sr) r217 (by first | decide | omega)) ?_
                  rintro _ _ _ ⟨rfl, rfl, z225, rfl, z225a, z225b, f226, r227⟩
                  refine r_putIK hX hP rfl fp_12_441 hS (by first | decide | omega) (by first | decide | omega) (fun h228 => ?_)
                  refine r_ex hX hP 1 (pc' := 348) (st' := [(2, (Ad E 1))]) (lo' := [(0, (2, (Ad E 1))), (1, (0, k)), (2, (0, c)), (3, (0, ch))]) rfl ?_
                  refine r_getKI hX hP rfl fl_12_441 hS (x := z225) h228 ?_
                  refine r_if_ge hX hP rfl (tgt := 366) rfl (by first | decide | omega) (by first | decide | omega) (fun c229 => ?_) (fun c229 => ?_)
                  · skip
                    have rd230 : RdM E TT nn (ud (pNa TT nn sr) 5 (pNm TT nn (pNa TT nn sr) 0)) (up (hv [80, 81] [] G G213) 1 (Ad E 1) 90 z225) := rm_mk (rm_tape r227 : _) (rm_end r227 : _) (rm_at r227 : _) (rm_beh r227 : _) (rm_sort r227 : _) (rm_num r227 : _) (rm_sgn r227 : _) (rm_word r227 : _) (rm_let r227 : _) (rm_bad r227 : _) (rm_bat r227 : _) (rm_nm r227 : _) (rm_nc r227 : _) (show _ ∨ _ from Or.inr (h228.symm.trans (show z225 = pNm TT nn (pNa TT nn sr) 0 from by omega))) (rm_ti r227 : _) (rm_to r227 : _) (rm_w0 r227 : _) (rm_w1 r227 : _) (rm_w2 r227 : _) (rm_q0 r227 : _) (rm_q1 r227 : _) (rm_q2 r227 : _) (rm_z0 r227 : _) (rm_z1 r227 : _) (rm_z2 r227 : _) (rm_nv r227 : _) (rm_p0 r227 : _) (rm_p1 r227 : _) (rm_n4 r227 : _) (rm_c3 r227 : _)
                    refine r_ex hX hP 1 (pc' := 367) (st' := [(2, (Ad E 1))]) (lo' := [(0, (2, (Ad E 1))), (1, (0, k)), (2, (0, c)), (3, (0, ch))]) rfl ?_
                    refine r_callV gd hX hP rfl cv_12_398 hS (d' := 1) (mc' := 0) (ms' := 0) (as' := []) (st := []) (by first | decide | omega) (by first | decide | omega) (by first | decide | omega) rfl rfl (Nat.le_of_ble_eq_true rfl) (c_X12_nextR E S (up (hv [80, 81] [] G G213) 1 (Ad E 1) 90 z225)  hS TT nn (ud (pNa TT nn sr) 5 (pNm TT nn (pNa TT nn sr) 0)) rd230) ?_
                    rintro _ _ _ ⟨rfl, ⟨G231, rfl⟩, rfl, r232⟩
                    refine r_ex hX hP 1 (pc' := 453) (st' := []) (lo' := [(0, (2, (Ad E 1))), (1, (0, k)), (2, (0, c)), (3, (0, ch))]) rfl ?_
                    have hC233 : pAv TT nn (ud (pNa TT nn sr) 5 (pNm TT nn (pNa TT nn sr) 0)) = qPl TT nn k ch sr := by
                      unfold qPl; (repeat (first | rw [if_pos (by first | decide | omega)] | rw [if_neg (by first | decide | omega)])); try (first | rfl | (unfold qFr; (repeat (first | rw [if_pos (by first | decide | omega)] | rw [if_neg (by first | decide | omega)])); try rfl) | (unfold qFa; (repeat (first | rw [if_pos (by first | decide | omega)] | rw [if_neg (by first | decide | omega)])); try rfl) | (unfold qMs qCu; (repeat (first | rw [if_pos (by first | decide | omega)] | rw [if_neg (by first | decide | omega)])); try rfl) | (rw [show k = 1 from by omega]; exact rt1 TT nn (by first | decide | omega)) | (unfold qRt pM3 pM2 pM1; (repeat (first | rw [if_pos (by first | decide | omega)] | rw [if_neg (by first | decide | omega)])); try rfl))
                    have hC2331 : (qPl TT nn k ch sr) 1 = (pAv TT nn (ud (pNa TT nn sr) 5 (pNm TT nn (pNa TT nn sr) 0))) 1 := congrFun hC233.symm 1
                    refine r_labC hX (tl1 95 rfl (by decide)) hS (fun s234 => ?_)
                    refine r_apeekI hX al_64 s234 (i := c) (by first | decide | omega) (by first | decide | omega) (fun nek235 nek235e nek235a nek235b => ?_)
                    exact r_retV hX hP rfl rfl (by first | decide | omega) (by first | decide | omega) ⟨rfl, ⟨_, (hq_call (hq_up (hq_call (hq_refl _ _ _) rfl) rfl) rfl).symm⟩, rfl, bah215, bah215e, nek235, nek235e, two_c, two_c_e, (by first | decide | omega), (fun i h0 hi hx => ⟨rfl, rfl, rfl, rfl, rfl, rfl⟩), (rm_cast r232 hC233)⟩
                  · skip
                    have rd236 : RdM E TT nn (pNa TT nn sr) (up (hv [80, 81] [] G G213) 1 (Ad E 1) 90 z225) := rm_mk (rm_tape r227 : _) (rm_end r227 : _) (rm_at r227 : _) (rm_beh r227 : _) (rm_sort r227 : _) (rm_num r227 : _) (rm_sgn r227 : _) (rm_word r227 : _) (rm_let r227 : _) (rm_bad r227 : _) (rm_bat r227 : _) (rm_nm r227 : _) (rm_nc r227 : _) (show _ ∨ _ from Or.inr (h228.symm.trans (show z225 = pNa TT nn sr 5 from by omega))) (rm_ti r227 : _) (rm_to r227 : _) (rm_w0 r227 : _) (rm_w1 r227 : _) (rm_w2 r227 : _) (rm_q0 r227 : _) (rm_q1 r227 : _) (rm_q2 r227 : _) (rm_z0 r227 : _) (rm_z1 r227 : _) (rm_z2 r227 : _) (rm_nv r227 : _) (rm_p0 r227 : _) (rm_p1 r227 : _) (rm_n4 r227 : _) (rm_c3 r227 : _)
                    refine r_ex hX hP 3 (pc' := 357) (st' := [(2, (Ad E 1)), (0, 5), (2, (Ad E 1))]) (lo' := [(0, (2, (Ad E 1))), (1, (0, k)), (2, (0, c)), (3, (0, ch))]) rfl ?_
                    refine r_getI hX hP rfl fl_12_352 hS (fun af237 af237e af237a af237b => ?_)
                    have k238 := rm_at rd236
                    have k238 := af237e.trans k238
                    refine r_callV gd hX hP rfl cv_12_388 hS (d' := 0) (mc' := 0) (ms' := 0) (as' := [(0, 5), (0, af237)]) (st := []) (by first | decide | omega) (by first | decide | omega) (by first | decide | omega) rfl rfl (Nat.le_of_ble_eq_true rfl) (c_X12_failR E S (up (hv [80, 81] [] G G213) 1 (Ad E 1) 90 z225) 5 af237 hS (by first | decide | omega) (by first | decide | omega) (by first | decide | omega) (by first | decide | omega) TT nn (pNa TT nn sr) rd236 (by first | decide | omega)) ?_
                    rintro _ _ _ ⟨rfl, ⟨G239, rfl⟩, rfl, bah240, bah240e, f241, r242⟩
                    have k243 := rm_bad r242
                    have k243 := bah240e.trans k243
                    refine r_peekI hX (tl1 80 rfl (by decide)) hS (fun o244 o244e o244a o244b => ?_)
                    obtain rfl : bah240 = o244 := bah240e.trans o244e.symm
                    refine r_ex hX hP 1 (pc' := 453) (st' := []) (lo' := [(0, (2, (Ad E 1))), (1, (0, k)), (2, (0, c)), (3, (0, ch))]) rfl ?_
                    have hC245 : pFl TT nn 5 (pNa TT nn sr) = qPl TT nn k ch sr := by
                      unfold qPl; (repeat (first | rw [if_pos (by first | decide | omega)] | rw [if_neg (by first | decide | omega)])); try (first | rfl | (unfold qFr; (repeat (first | rw [if_pos (by first | decide | omega)] | rw [if_neg (by first | decide | omega)])); try rfl) | (unfold qFa; (repeat (first | rw [if_pos (by first | decide | omega)] | rw [if_neg (by first | decide | omega)])); try rfl) | (unfold qMs qCu; (repeat (first | rw [if_pos (by first | decide | omega)] | rw [if_neg (by first | decide | omega)])); try rfl) | (rw [show k = 1 from by omega]; exact rt1 TT nn (by first | decide | omega)) | (unfold qRt pM3 pM2 pM1; (repeat (first | rw [if_pos (by first | decide | omega)] | rw [if_neg (by first | decide | omega)])); try rfl))
                    have hC2451 : (qPl TT nn k ch sr) 1 = (pFl TT nn 5 (pNa TT nn sr)) 1 := congrFun hC245.symm 1
                    refine r_labC hX (tl1 95 rfl (by decide)) hS (fun s246 => ?_)
                    refine r_apeekI hX al_64 s246 (i := c) (by first | decide | omega) (by first | decide | omega) (fun nek247 nek247e nek247a nek247b => ?_)
                    exact r_retV hX hP rfl rfl (by first | decide | omega) (by first | decide | omega) ⟨rfl, ⟨_, (hq_call (hq_up (hq_call (hq_refl _ _ _) rfl) rfl) rfl).symm⟩, rfl, bah240, bah240e, nek247, nek247e, two_c, two_c_e, (by first | decide | omega), (fun i h0 hi hx => ⟨rfl, rfl, rfl, rfl, rfl, rfl⟩), (rm_cast r242 hC245)⟩
                · skip
                  have hC248 : pNa TT nn sr = qPl TT nn k ch sr := by
                    unfold qPl; (repeat (first | rw [if_pos (by first | decide | omega)] | rw [if_neg (by first | decide | omega)])); try (first | rfl | (unfold qFr; (repeat (first | rw [if_pos (by first | decide | omega)] | rw [if_neg (by first | decide | omega)])); try rfl) | (unfold qFa; (repeat (first | rw [if_pos (by first | decide | omega)] | rw [if_neg (by first | decide | omega)])); try rfl) | (unfold qMs qCu; (repeat (first | rw [if_pos (by first | decide | omega)] | rw [if_neg (by first | decide | omega)])); try rfl) | (rw [show k = 1 from by omega]; exact rt1 TT nn (by first | decide | omega)) | (unfold qRt pM3 pM2 pM1; (repeat (first | rw [if_pos (by first | decide | omega)] | rw [if_neg (by first | decide | omega)])); try rfl))
                  have hC2481 : (qPl TT nn k ch sr) 1 = (pNa TT nn sr) 1 := congrFun hC248.symm 1
                  refine r_labC hX (tl1 95 rfl (by decide)) hS (fun s249 => ?_)
                  refine r_apeekI hX al_64 s249 (i := c) (by first | decide | omega) (by first | decide | omega) (fun nek250 nek250e nek250a nek250b => ?_)
                  exact r_retV hX hP rfl rfl (by first | decide | omega) (by first | decide | omega) ⟨rfl, ⟨_, (hq_call (hq_refl _ _ _) rfl).symm⟩, rfl, bah215, bah215e, nek250, nek250e, two_c, two_c_e, (by first | decide | omega), (fun i h0 hi hx => ⟨rfl, rfl, rfl, rfl, rfl, rfl⟩), (rm_cast r217 hC248)⟩
            · skip
              refine r_ex hX hP 7 (pc' := 205) (st' := [(0, 0), (0, 0), (0, 110), (0, 119), (0, 111), (0, 100), (2, (Ad E 1))]) (lo' := [(0, (2, (Ad E 1))), (1, (0, k)), (2, (0, c)), (3, (0, ch))]) rfl ?_
              refine r_callS gd hX hP rfl cs_12_405 (d' := 0) (mc' := 0) (ms' := 0) (as' := [(0, 100), (0, 111), (0, 119), (0, 110), (0, 0), (0, 0)]) (st := [(2, (Ad E 1))]) (by first | decide | omega) (by first | decide | omega) (by first | decide | omega) rfl rfl (Nat.le_of_ble_eq_true rfl) (c_X12_spelledR E S G 100 111 119 110 0 0 (by first | decide | omega) (by first | decide | omega) (by first | decide | omega) (by first | decide | omega) (by first | decide | omega) (by first | decide | omega) (by first | decide | omega) (by first | decide | omega) (by first | decide | omega) (by first | decide | omega) (by first | decide | omega) (by first | decide | omega)) ?_
              rintro _ _ _ ⟨rfl, rfl, z251, rfl, z251a, z251b, f252⟩
              have k253 := (show sp6 100 111 119 110 0 0 = 147182 from by decide)
              refine r_callV gd hX hP rfl cv_12_401 hS (d' := 0) (mc' := 0) (ms' := 0) (as' := [(1, z251)]) (st := []) (by first | decide | omega) (by first | decide | omega) (by first | decide | omega) rfl rfl (Nat.le_of_ble_eq_true rfl) (c_X12_isWordR E S G z251 hS (by first | decide | omega) (by first | decide | omega) TT nn sr rd) ?_
              rintro _ _ _ ⟨rfl, rfl, z254, rfl, z254a, z254b, f255, r256⟩
              have k257 := isw_eq (T := TT) (n := nn) (p := sr 0) (k := 12) (lit := 147182) (by decide) (by decide +kernel) (show z251 = 147182 from by omega) f255
              clear f255
              have k258 := wq_tk TT nn (sr 0) 12
              refine r_if_eq hX hP rfl (tgt := 218) rfl (by first | decide | omega) (by first | decide | omega) (fun c259 => ?_) (fun c259 => ?_)
              · skip
                refine r_ex hX hP 7 (pc' := 227) (st' := [(0, 0), (0, 0), (0, 0), (0, 0), (0, 112), (0, 117), (2, (Ad E 1))]) (lo' := [(0, (2, (Ad E 1))), (1, (0, k)), (2, (0, c)), (3, (0, ch))]) rfl ?_
                refine r_callS gd hX hP rfl cs_12_405 (d' := 0) (mc' := 0) (ms' := 0) (as' := [(0, 117), (0, 112), (0, 0), (0, 0), (0, 0), (0, 0)]) (st := [(2, (Ad E 1))]) (by first | decide | omega) (by first | decide | omega) (by first | decide | omega) rfl rfl (Nat.le_of_ble_eq_true rfl) (c_X12_spelledR E S G 117 112 0 0 0 0 (by first | decide | omega) (by first | decide | omega) (by first | decide | omega) (by first | decide | omega) (by first | decide | omega) (by first | decide | omega) (by first | decide | omega) (by first | decide | omega) (by first | decide | omega) (by first | decide | omega) (by first | decide | omega) (by first | decide | omega)) ?_
                rintro _ _ _ ⟨rfl, rfl, z260, rfl, z260a, z260b, f261⟩
                have k262 := (show sp6 117 112 0 0 0 0 = 688 from by decide)
                refine r_callV gd hX hP rfl cv_12_401 hS (d' := 0) (mc' := 0) (ms' := 0) (as' := [(1, z260)]) (st := []) (by first | decide | omega) (by first | decide | omega) (by first | decide | omega) rfl rfl (Nat.le_of_ble_eq_true rfl) (c_X12_isWordR E S G z260 hS (by first | decide | omega) (by first | decide | omega) TT nn sr r256) ?_
                rintro _ _ _ ⟨rfl, rfl, z263, rfl, z263a, z263b, f264, r265⟩
                have k266 := isw_eq (T := TT) (n := nn) (p := sr 0) (k := 13) (lit := 688) (by decide) (by decide +kernel) (show z260 = 688 from by omega) f264
                clear f264
                have k267 := wq_tk TT nn (sr 0) 13
                refine r_if_eq hX hP rfl (tgt := 241) rfl (by first | decide | omega) (by first | decide | omega) (fun c268 => ?_) (fun c268 => ?_)
                · skip
                  refine r_ex hX hP 7 (pc' := 252) (st' := [(0, 0), (0, 0), (0, 114), (0, 97), (0, 101), (0, 110), (2, (Ad E 1))]) (lo' := [(0, (2, (Ad E 1))), (1, (0, k)), (2, (0, c)), (3, (0, ch))]) rfl ?_
                  refine r_callS gd hX hP rfl cs_12_405 (d' := 0) (mc' := 0) (ms' := 0) (as' := [(0, 110), (0, 101), (0, 97), (0, 114), (0, 0), (0, 0)]) (st := [(2, (Ad E 1))]) (by first | decide | omega) (by first | decide | omega) (by first | decide | omega) rfl rfl (Nat.le_of_ble_eq_true rfl) (c_X12_spelledR E S G 110 101 97 114 0 0 (by first | decide | omega) (by first | decide | omega) (by first | decide | omega) (by first | decide | omega) (by first | decide | omega) (by first | decide | omega) (by first | decide | omega) (by first | decide | omega) (by first | decide | omega) (by first | decide | omega) (by first | decide | omega) (by first | decide | omega)) ?_
                  rintro _ _ _ ⟨rfl, rfl, z269, rfl, z269a, z269b, f270⟩
                  have k271 := (show sp6 110 101 97 114 0 0 = 463922 from by decide)
                  refine r_callV gd hX hP rfl cv_12_401 hS (d' := 0) (mc' := 0) (ms' := 0) (as' := [(1, z269)]) (st := []) (by first | decide | omega) (by first | decide | omega) (by first | decide | omega) rfl rfl (Nat.le_of_ble_eq_true rfl) (c_X12_isWordR E S G z269 hS (by first | decide | omega) (by first | decide | omega) TT nn sr r265) ?_
                  rintro _ _ _ ⟨rfl, rfl, z272, rfl, z272a, z272b, f273, r274⟩
                  have k275 := isw_eq (T := TT) (n := nn) (p := sr 0) (k := 14) (lit := 463922) (by decide) (by decide +kernel) (show z269 = 463922 from by omega) f273
                  clear f273
                  have k276 := wq_tk TT nn (sr 0) 14
                  refine r_if_eq hX hP rfl (tgt := 266) rfl (by first | decide | omega) (by first | decide | omega) (fun c277 => ?_) (fun c277 => ?_)
                  · skip
                    refine r_ex hX hP 3 (pc' := 271) (st' := [(0, 0)]) (lo' := [(0, (2, (Ad E 1))), (1, (0, k)), (2, (0, c)), (3, (0, ch)), (4, (0, 0))]) rfl ?_
                    refine r_if_ne hX hP rfl (tgt := 294) rfl (by first | decide | omega) (by first | decide | omega) (fun c278 => ?_) (fun c278 => ?_)
                    · skip
                      exfalso; omega
                    · skip
                      refine r_ex hX hP 7 (pc' := 285) (st' := [(0, 0), (0, 0), (0, 110), (0, 105), (0, 111), (0, 99), (2, (Ad E 1))]) (lo' := [(0, (2, (Ad E 1))), (1, (0, k)), (2, (0, c)), (3, (0, ch)), (4, (0, 0))]) rfl ?_
                      refine r_callS gd hX hP rfl cs_12_405 (d' := 0) (mc' := 0) (ms' := 0) (as' := [(0, 99), (0, 111), (0, 105), (0, 110), (0, 0), (0, 0)]) (st := [(2, (Ad E 1))]) (by first | decide | omega) (by first | decide | omega) (by first | decide | omega) rfl rfl (Nat.le_of_ble_eq_true rfl) (c_X12_spelledR E S G 99 111 105 110 0 0 (by first | decide | omega) (by first | decide | omega) (by first | decide | omega) (by first | decide | omega) (by first | decide | omega) (by first | decide | omega) (by first | decide | omega) (by first | decide | omega) (by first | decide | omega) (by first | decide | omega) (by first | decide | omega) (by first | decide | omega)) ?_
                      rintro _ _ _ ⟨rfl, rfl, z279, rfl, z279a, z279b, f280⟩
                      have k281 := (show sp6 99 111 105 110 0 0 = 113966 from by decide)
                      refine r_peekI hX (tl1 80 rfl (by decide)) hS (fun bap282 bap282e bap282a bap282b => ?_)
                      have k283 := rm_bad r274
                      have k283 := bap282e.trans k283
                      have k284 : z279 = wW 3 := by have e : wW 3 = 113966 := (by decide +kernel); omega
                      refine r_callV gd hX hP rfl cv_12_466 hS (d' := 2) (mc' := 0) (ms' := 0) (as' := [(1, z279)]) (st := []) (by first | decide | omega) (by first | decide | omega) (by first | decide | omega) rfl rfl (Nat.le_of_ble_eq_true rfl) (c_X12_wordIsR E S G z279 hS bap282 bap282e (by first | decide | omega) (by first | decide | omega) TT nn sr r274 3 k284 (by decide)) ?_
                      rintro _ _ _ ⟨rfl, ⟨G285, rfl⟩, rfl, bah286, bah286e, f287, r288⟩
                      have k289 := rm_bad r288
                      have k289 := bah286e.trans k289
                      refine r_peekI hX (tl1 80 rfl (by decide)) hS (fun o290 o290e o290a o290b => ?_)
                      obtain rfl : bah286 = o290 := bah286e.trans o290e.symm
                      refine r_ex hX hP 2 (pc' := 299) (st' := [(2, (Ad E 1))]) (lo' := [(0, (2, (Ad E 1))), (1, (0, k)), (2, (0, c)), (3, (0, ch)), (4, (0, 0))]) rfl ?_
                      refine r_getC hX hP rfl fl_12_217 hS (fun s291 => ?_)
                      refine r_ex hX hP 2 (pc' := 305) (st' := [(0, 0), (0, c), (2, (Ad E 64))]) (lo' := [(0, (2, (Ad E 1))), (1, (0, k)), (2, (0, c)), (3, (0, ch)), (4, (0, 0))]) rfl ?_
                      refine r_if_ne hX hP rfl (tgt := 319) rfl (by first | decide | omega) (by first | decide | omega) (fun c292 => ?_) (fun c292 => ?_)
                      · skip
                        exfalso; omega
                      · skip
                        refine r_ex hX hP 2 (pc' := 310) (st' := [(0, 0), (2, (Ad E 1)), (0, c), (2, (Ad E 64))]) (lo' := [(0, (2, (Ad E 1))), (1, (0, k)), (2, (0, c)), (3, (0, ch)), (4, (0, 0))]) rfl ?_
                        refine r_ldcw hX hP rfl (v := 9999999) (tbg sg9 186 rfl rfl) ?_
                        refine r_callV gd hX hP rfl cv_12_461 hS (d' := 2) (mc' := 0) (ms' := 0) (as' := [(0, 0), (0, 9999999)]) (st := [(0, c), (2, (Ad E 64))]) (by first | decide | omega) (by first | decide | omega) (by first | decide | omega) rfl rfl (Nat.le_of_ble_eq_true rfl) (c_X12_countR E S (hv [80, 81, 82, 83, 84, 85, 86, 87] [] G G285) 0 9999999 hS bah286 bah286e (by first | decide | omega) (by first | decide | omega) (by first | decide | omega) (by first | decide | omega) TT nn (pKd TT nn 3 sr) r288) ?_
                        rintro _ _ _ ⟨rfl, ⟨G293, rfl⟩, z294, rfl, bah295, bah295e, z294a, z294b, f296, r297⟩
                        have k298 := rm_bad r297
                        have k298 := bah295e.trans k298
                        refine r_peekI hX (tl1 80 rfl (by decide)) hS (fun o299 o299e o299a o299b => ?_)
                        obtain rfl : bah295 = o299 := bah295e.trans o299e.symm
                        refine r_ex hX hP 1 (pc' := 321) (st' := [(0, z294), (0, c), (2, (Ad E 64))]) (lo' := [(0, (2, (Ad E 1))), (1, (0, k)), (2, (0, c)), (3, (0, ch)), (4, (0, 0))]) rfl ?_
                        refine r_iastK hX hP rfl al_64 s291 (by first | decide | omega) (by first | decide | omega) (by first | decide | omega) (by first | decide | omega) (fun h300 => ?_)
                        refine r_ex hX hP 1 (pc' := 453) (st' := []) (lo' := [(0, (2, (Ad E 1))), (1, (0, k)), (2, (0, c)), (3, (0, ch)), (4, (0, 0))]) rfl ?_
                        have hC301 : pNb TT nn 0 9999999 (pKd TT nn 3 sr) = qPl TT nn k ch sr := by
                          unfold qPl; (repeat (first | rw [if_pos (by first | decide | omega)] | rw [if_neg (by first | decide | omega)])); try (first | rfl | (unfold qFr; (repeat (first | rw [if_pos (by first | decide | omega)] | rw [if_neg (by first | decide | omega)])); try rfl) | (unfold qFa; (repeat (first | rw [if_pos (by first | decide | omega)] | rw [if_neg (by first | decide | omega)])); try rfl) | (unfold qMs qCu; (repeat (first | rw [if_pos (by first | decide | omega)] | rw [if_neg (by first | decide | omega)])); try rfl) | (rw [show k = 1 from by omega]; exact rt1 TT nn (by first | decide | omega)) | (unfold qRt pM3 pM2 pM1; (repeat (first | rw [if_pos (by first | decide | omega)] | rw [if_neg (by first | decide | omega)])); try rfl))
                        have hC3011 : (qPl TT nn k ch sr) 1 = (pNb TT nn 0 9999999 (pKd TT nn 3 sr)) 1 := congrFun hC301.symm 1
                        exact r_retV hX hP rfl rfl (by first | decide | omega) (by first | decide | omega) ⟨rfl, ⟨_, (hq_up (hq_call (hq_call (hq_refl _ _ _) rfl) rfl) rfl).symm⟩, rfl, bah295, bah295e, z294, h300, two_c, two_c_e, (by first | decide | omega), (fun i h0 hi hx => ⟨rfl, ((show (up (hv [80, 81, 82, 83, 84, 85, 86, 87] [] (hv [80, 81, 82, 83, 84, 85, 86, 87] [] G G285) G293) 64 (Ad E 64) c z294) 64 (Ad E 64) i = _ from up_ne (fun q => absurd q.2.2 hx)).trans rfl), rfl, rfl, rfl, rfl⟩), (rm_cast r297 hC301)⟩
                  · skip
                    refine r_ex hX hP 4 (pc' := 271) (st' := [(0, (-3))]) (lo' := [(0, (2, (Ad E 1))), (1, (0, k)), (2, (0, c)), (3, (0, ch)), (4, (0, (-3)))]) rfl ?_
                    refine r_if_ne hX hP rfl (tgt := 294) rfl (by first | decide | omega) (by first | decide | omega) (fun c302 => ?_) (fun c302 => ?_)
                    · skip
                      refine r_ex hX hP 1 (pc' := 295) (st' := [(2, (Ad E 1))]) (lo' := [(0, (2, (Ad E 1))), (1, (0, k)), (2, (0, c)), (3, (0, ch)), (4, (0, (-3)))]) rfl ?_
                      refine r_callV gd hX hP rfl cv_12_398 hS (d' := 1) (mc' := 0) (ms' := 0) (as' := []) (st := []) (by first | decide | omega) (by first | decide | omega) (by first | decide | omega) rfl rfl (Nat.le_of_ble_eq_true rfl) (c_X12_nextR E S G  hS TT nn sr r274) ?_
                      rintro _ _ _ ⟨rfl, ⟨G303, rfl⟩, rfl, r304⟩
                      refine r_ex hX hP 1 (pc' := 299) (st' := [(2, (Ad E 1))]) (lo' := [(0, (2, (Ad E 1))), (1, (0, k)), (2, (0, c)), (3, (0, ch)), (4, (0, (-3)))]) rfl ?_
                      refine r_getC hX hP rfl fl_12_217 hS (fun s305 => ?_)
                      refine r_ex hX hP 2 (pc' := 305) (st' := [(0, (-3)), (0, c), (2, (Ad E 64))]) (lo' := [(0, (2, (Ad E 1))), (1, (0, k)), (2, (0, c)), (3, (0, ch)), (4, (0, (-3)))]) rfl ?_
                      refine r_if_ne hX hP rfl (tgt := 319) rfl (by first | decide | omega) (by first | decide | omega) (fun c306 => ?_) (fun c306 => ?_)
                      · skip
                        refine r_ex hX hP 1 (pc' := 321) (st' := [(0, (-3)), (0, c), (2, (Ad E 64))]) (lo' := [(0, (2, (Ad E 1))), (1, (0, k)), (2, (0, c)), (3, (0, ch)), (4, (0, (-3)))]) rfl ?_
                        refine r_iastK hX hP rfl al_64 s305 (by first | decide | omega) (by first | decide | omega) (by first | decide | omega) (by first | decide | omega) (fun h307 => ?_)
                        refine r_ex hX hP 1 (pc' := 453) (st' := []) (lo' := [(0, (2, (Ad E 1))), (1, (0, k)), (2, (0, c)), (3, (0, ch)), (4, (0, (-3)))]) rfl ?_
                        have hC308 : pAv TT nn sr = qPl TT nn k ch sr := by
                          unfold qPl; (repeat (first | rw [if_pos (by first | decide | omega)] | rw [if_neg (by first | decide | omega)])); try (first | rfl | (unfold qFr; (repeat (first | rw [if_pos (by first | decide | omega)] | rw [if_neg (by first | decide | omega)])); try rfl) | (unfold qFa; (repeat (first | rw [if_pos (by first | decide | omega)] | rw [if_neg (by first | decide | omega)])); try rfl) | (unfold qMs qCu; (repeat (first | rw [if_pos (by first | decide | omega)] | rw [if_neg (by first | decide | omega)])); try rfl) | (rw [show k = 1 from by omega]; exact rt1 TT nn (by first | decide | omega)) | (unfold qRt pM3 pM2 pM1; (repeat (first | rw [if_pos (by first | decide | omega)] | rw [if_neg (by first | decide | omega)])); try rfl))
                        have hC3081 : (qPl TT nn k ch sr) 1 = (pAv TT nn sr) 1 := congrFun hC308.symm 1
                        refine r_peekI hX (tl1 80 rfl (by decide)) hS (fun bap309 bap309e bap309a bap309b => ?_)
                        have k310 := rm_bad r304
                        have k310 := bap309e.trans k310
                        exact r_retV hX hP rfl rfl (by first | decide | omega) (by first | decide | omega) ⟨rfl, ⟨_, (hq_up (hq_call (hq_refl _ _ _) rfl) rfl).symm⟩, rfl, bap309, bap309e, (-3), h307, two_c, two_c_e, (by first | decide | omega), (fun i h0 hi hx => ⟨rfl, ((show (up (hv [82, 83, 84, 85, 86, 87] [] G G303) 64 (Ad E 64) c (-3)) 64 (Ad E 64) i = _ from up_ne (fun q => absurd q.2.2 hx)).trans rfl), rfl, rfl, rfl, rfl⟩), (rm_cast r304 hC308)⟩
                      · skip
                        exfalso; omega
                    · skip
                      exfalso; omega
                · skip
                  refine r_ex hX hP 4 (pc' := 271) (st' := [(0, (-2))]) (lo' := [(0, (2, (Ad E 1))), (1, (0, k)), (2, (0, c)), (3, (0, ch)), (4, (0, (-2)))]) rfl ?_
                  refine r_if_ne hX hP rfl (tgt := 294) rfl (by first | decide | omega) (by first | decide | omega) (fun c311 => ?_) (fun c311 => ?_)
                  · skip
                    refine r_ex hX hP 1 (pc' := 295) (st' := [(2, (Ad E 1))]) (lo' := [(0, (2, (Ad E 1))), (1, (0, k)), (2, (0, c)), (3, (0, ch)), (4, (0, (-2)))]) rfl ?_
                    refine r_callV gd hX hP rfl cv_12_398 hS (d' := 1) (mc' := 0) (ms' := 0) (as' := []) (st := []) (by first | decide | omega) (by first | decide | omega) (by first | decide | omega) rfl rfl (Nat.le_of_ble_eq_true rfl) (c_X12_nextR E S G  hS TT nn sr r265) ?_
                    rintro _ _ _ ⟨rfl, ⟨G312, rfl⟩, rfl, r313⟩
                    refine r_ex hX hP 1 (pc' := 299) (st' := [(2, (Ad E 1))]) (lo' := [(0, (2, (Ad E 1))), (1, (0, k)), (2, (0, c)), (3, (0, ch)), (4, (0, (-2)))]) rfl ?_
                    refine r_getC hX hP rfl fl_12_217 hS (fun s314 => ?_)
                    refine r_ex hX hP 2 (pc' := 305) (st' := [(0, (-2)), (0, c), (2, (Ad E 64))]) (lo' := [(0, (2, (Ad E 1))), (1, (0, k)), (2, (0, c)), (3, (0, ch)), (4, (0, (-2)))]) rfl ?_
                    refine r_if_ne hX hP rfl (tgt := 319) rfl (by first | decide | omega) (by first | decide | omega) (fun c315 => ?_) (fun c315 => ?_)
                    · skip
                      refine r_ex hX hP 1 (pc' := 321) (st' := [(0, (-2)), (0, c), (2, (Ad E 64))]) (lo' := [(0, (2, (Ad E 1))), (1, (0, k)), (2, (0, c)), (3, (0, ch)), (4, (0, (-2)))]) rfl ?_
                      refine r_iastK hX hP rfl al_64 s314 (by first | decide | omega) (by first | decide | omega) (by first | decide | omega) (by first | decide | omega) (fun h316 => ?_)
                      refine r_ex hX hP 1 (pc' := 453) (st' := []) (lo' := [(0, (2, (Ad E 1))), (1, (0, k)), (2, (0, c)), (3, (0, ch)), (4, (0, (-2)))]) rfl ?_
                      have hC317 : pAv TT nn sr = qPl TT nn k ch sr := by
                        unfold qPl; (repeat (first | rw [if_pos (by first | decide | omega)] | rw [if_neg (by first | decide | omega)])); try (first | rfl | (unfold qFr; (repeat (first | rw [if_pos (by first | decide | omega)] | rw [if_neg (by first | decide | omega)])); try rfl) | (unfold qFa; (repeat (first | rw [if_pos (by first | decide | omega)] | rw [if_neg (by first | decide | omega)])); try rfl) | (unfold qMs qCu; (repeat (first | rw [if_pos (by first | decide | omega)] | rw [if_neg (by first | decide | omega)])); try rfl) | (rw [show k = 1 from by omega]; exact rt1 TT nn (by first | decide | omega)) | (unfold qRt pM3 pM2 pM1; (repeat (first | rw [if_pos (by first | decide | omega)] | rw [if_neg (by first | decide | omega)])); try rfl))
                      have hC3171 : (qPl TT nn k ch sr) 1 = (pAv TT nn sr) 1 := congrFun hC317.symm 1
                      refine r_peekI hX (tl1 80 rfl (by decide)) hS (fun bap318 bap318e bap318a bap318b => ?_)
                      have k319 := rm_bad r313
                      have k319 := bap318e.trans k319
                      exact r_retV hX hP rfl rfl (by first | decide | omega) (by first | decide | omega) ⟨rfl, ⟨_, (hq_up (hq_call (hq_refl _ _ _) rfl) rfl).symm⟩, rfl, bap318, bap318e, (-2), h316, two_c, two_c_e, (by first | decide | omega), (fun i h0 hi hx => ⟨rfl, ((show (up (hv [82, 83, 84, 85, 86, 87] [] G G312) 64 (Ad E 64) c (-2)) 64 (Ad E 64) i = _ from up_ne (fun q => absurd q.2.2 hx)).trans rfl), rfl, rfl, rfl, rfl⟩), (rm_cast r313 hC317)⟩
                    · skip
                      exfalso; omega
                  · skip
                    exfalso; omega
              · skip
                refine r_ex hX hP 4 (pc' := 271) (st' := [(0, (-1))]) (lo' := [(0, (2, (Ad E 1))), (1, (0, k)), (2, (0, c)), (3, (0, ch)), (4, (0, (-1)))]) rfl ?_
                refine r_if_ne hX hP rfl (tgt := 294) rfl (by first | decide | omega) (by first | decide | omega) (fun c320 => ?_) (fun c320 => ?_)
                · skip
                  refine r_ex hX hP 1 (pc' := 295) (st' := [(2, (Ad E 1))]) (lo' := [(0, (2, (Ad E 1))), (1, (0, k)), (2, (0, c)), (3, (0, ch)), (4, (0, (-1)))]) rfl ?_
                  refine r_callV gd hX hP rfl cv_12_398 hS (d' := 1) (mc' := 0) (ms' := 0) (as' := []) (st := []) (by first | decide | omega) (by first | decide | omega) (by first | decide | omega) rfl rfl (Nat.le_of_ble_eq_true rfl) (c_X12_nextR E S G  hS TT nn sr r256) ?_
                  rintro _ _ _ ⟨rfl, ⟨G321, rfl⟩, rfl, r322⟩
                  refine r_ex hX hP 1 (pc' := 299) (st' := [(2, (Ad E 1))]) (lo' := [(0, (2, (Ad E 1))), (1, (0, k)), (2, (0, c)), (3, (0, ch)), (4, (0, (-1)))]) rfl ?_
                  refine r_getC hX hP rfl fl_12_217 hS (fun s323 => ?_)
                  refine r_ex hX hP 2 (pc' := 305) (st' := [(0, (-1)), (0, c), (2, (Ad E 64))]) (lo' := [(0, (2, (Ad E 1))), (1, (0, k)), (2, (0, c)), (3, (0, ch)), (4, (0, (-1)))]) rfl ?_
                  refine r_if_ne hX hP rfl (tgt := 319) rfl (by first | decide | omega) (by first | decide | omega) (fun c324 => ?_) (fun c324 => ?_)
                  · skip
                    refine r_ex hX hP 1 (pc' := 321) (st' := [(0, (-1)), (0, c), (2, (Ad E 64))]) (lo' := [(0, (2, (Ad E 1))), (1, (0, k)), (2, (0, c)), (3, (0, ch)), (4, (0, (-1)))]) rfl ?_
                    refine r_iastK hX hP rfl al_64 s323 (by first | decide | omega) (by first | decide | omega) (by first | decide | omega) (by first | decide | omega) (fun h325 => ?_)
                    refine r_ex hX hP 1 (pc' := 453) (st' := []) (lo' := [(0, (2, (Ad E 1))), (1, (0, k)), (2, (0, c)), (3, (0, ch)), (4, (0, (-1)))]) rfl ?_
                    have hC326 : pAv TT nn sr = qPl TT nn k ch sr := by
                      unfold qPl; (repeat (first | rw [if_pos (by first | decide | omega)] | rw [if_neg (by first | decide | omega)])); try (first | rfl | (unfold qFr; (repeat (first | rw [if_pos (by first | decide | omega)] | rw [if_neg (by first | decide | omega)])); try rfl) | (unfold qFa; (repeat (first | rw [if_pos (by first | decide | omega)] | rw [if_neg (by first | decide | omega)])); try rfl) | (unfold qMs qCu; (repeat (first | rw [if_pos (by first | decide | omega)] | rw [if_neg (by first | decide | omega)])); try rfl) | (rw [show k = 1 from by omega]; exact rt1 TT nn (by first | decide | omega)) | (unfold qRt pM3 pM2 pM1; (repeat (first | rw [if_pos (by first | decide | omega)] | rw [if_neg (by first | decide | omega)])); try rfl))
                    have hC3261 : (qPl TT nn k ch sr) 1 = (pAv TT nn sr) 1 := congrFun hC326.symm 1
                    refine r_peekI hX (tl1 80 rfl (by decide)) hS (fun bap327 bap327e bap327a bap327b => ?_)
                    have k328 := rm_bad r322
                    have k328 := bap327e.trans k328
                    exact r_retV hX hP rfl rfl (by first | decide | omega) (by first | decide | omega) ⟨rfl, ⟨_, (hq_up (hq_call (hq_refl _ _ _) rfl) rfl).symm⟩, rfl, bap327, bap327e, (-1), h325, two_c, two_c_e, (by first | decide | omega), (fun i h0 hi hx => ⟨rfl, ((show (up (hv [82, 83, 84, 85, 86, 87] [] G G321) 64 (Ad E 64) c (-1)) 64 (Ad E 64) i = _ from up_ne (fun q => absurd q.2.2 hx)).trans rfl), rfl, rfl, rfl, rfl⟩), (rm_cast r322 hC326)⟩
                  · skip
                    exfalso; omega
                · skip
                  exfalso; omega
          · skip
            refine r_ex hX hP 1 (pc' := 145) (st' := [(2, (Ad E 1))]) (lo' := [(0, (2, (Ad E 1))), (1, (0, k)), (2, (0, c)), (3, (0, ch))]) rfl ?_
            refine r_getC hX hP rfl fl_12_217 hS (fun s329 => ?_)
            refine r_ex hX hP 4 (pc' := 154) (st' := [(0, 1000), (0, 0), (2, (Ad E 1)), (0, c), (2, (Ad E 64))]) (lo' := [(0, (2, (Ad E 1))), (1, (0, k)), (2, (0, c)), (3, (0, ch))]) rfl ?_
            refine r_peekI hX (tl1 80 rfl (by decide)) hS (fun bap330 bap330e bap330a bap330b => ?_)
            have k331 := rm_bad rd
            have k331 := bap330e.trans k331
            refine r_callV gd hX hP rfl cv_12_461 hS (d' := 2) (mc' := 0) (ms' := 0) (as' := [(0, 0), (0, 1000)]) (st := [(0, c), (2, (Ad E 64))]) (by first | decide | omega) (by first | decide | omega) (by first | decide | omega) rfl rfl (Nat.le_of_ble_eq_true rfl) (c_X12_countR E S G 0 1000 hS bap330 bap330e (by first | decide | omega) (by first | decide | omega) (by first | decide | omega) (by first | decide | omega) TT nn sr rd) ?_
            rintro _ _ _ ⟨rfl, ⟨G332, rfl⟩, z333, rfl, bah334, bah334e, z333a, z333b, f335, r336⟩
            have k337 := rm_bad r336
            have k337 := bah334e.trans k337
            refine r_peekI hX (tl1 80 rfl (by decide)) hS (fun o338 o338e o338a o338b => ?_)
            obtain rfl : bah334 = o338 := bah334e.trans o338e.symm
            refine r_iastK hX hP rfl al_64 s329 (by first | decide | omega) (by first | decide | omega) (by first | decide | omega) (by first | decide | omega) (fun h339 => ?_)
            refine r_ex hX hP 7 (pc' := 167) (st' := [(0, 0), (0, 0), (0, 0), (0, 0), (0, 111), (0, 116), (2, (Ad E 1))]) (lo' := [(0, (2, (Ad E 1))), (1, (0, k)), (2, (0, c)), (3, (0, ch))]) rfl ?_
            refine r_callS gd hX hP rfl cs_12_405 (d' := 0) (mc' := 0) (ms' := 0) (as' := [(0, 116), (0, 111), (0, 0), (0, 0), (0, 0), (0, 0)]) (st := [(2, (Ad E 1))]) (by first | decide | omega) (by first | decide | omega) (by first | decide | omega) rfl rfl (Nat.le_of_ble_eq_true rfl) (c_X12_spelledR E S (up (hv [80, 81, 82, 83, 84, 85, 86, 87] [] G G332) 64 (Ad E 64) c z333) 116 111 0 0 0 0 (by first | decide | omega) (by first | decide | omega) (by first | decide | omega) (by first | decide | omega) (by first | decide | omega) (by first | decide | omega) (by first | decide | omega) (by first | decide | omega) (by first | decide | omega) (by first | decide | omega) (by first | decide | omega) (by first | decide | omega)) ?_
            rintro _ _ _ ⟨rfl, rfl, z340, rfl, z340a, z340b, f341⟩
            have k342 := (show sp6 116 111 0 0 0 0 = 655 from by decide)
            have k343 : z340 = wW 11 := by have e : wW 11 = 655 := (by decide +kernel); omega
            refine r_callV gd hX hP rfl cv_12_466 hS (d' := 2) (mc' := 0) (ms' := 0) (as' := [(1, z340)]) (st := []) (by first | decide | omega) (by first | decide | omega) (by first | decide | omega) rfl rfl (Nat.le_of_ble_eq_true rfl) (c_X12_wordIsR E S (up (hv [80, 81, 82, 83, 84, 85, 86, 87] [] G G332) 64 (Ad E 64) c z333) z340 hS bah334 bah334e (by first | decide | omega) (by first | decide | omega) TT nn (pNb TT nn 0 1000 sr) r336 11 k343 (by decide)) ?_
            rintro _ _ _ ⟨rfl, ⟨G344, rfl⟩, rfl, bah345, bah345e, f346, r347⟩
            have k348 := rm_bad r347
            have k348 := bah345e.trans k348
            refine r_peekI hX (tl1 80 rfl (by decide)) hS (fun o349 o349e o349a o349b => ?_)
            obtain rfl : bah345 = o349 := bah345e.trans o349e.symm
            refine r_ex hX hP 1 (pc' := 174) (st' := [(2, (Ad E 1))]) (lo' := [(0, (2, (Ad E 1))), (1, (0, k)), (2, (0, c)), (3, (0, ch))]) rfl ?_
            refine r_getC hX hP rfl fl_12_223 hS (fun s350 => ?_)
            refine r_ex hX hP 4 (pc' := 182) (st' := [(0, 19), (0, 0), (2, (Ad E 1)), (0, c), (2, (Ad E 66))]) (lo' := [(0, (2, (Ad E 1))), (1, (0, k)), (2, (0, c)), (3, (0, ch))]) rfl ?_
            refine r_callV gd hX hP rfl cv_12_461 hS (d' := 2) (mc' := 0) (ms' := 0) (as' := [(0, 0), (0, 19)]) (st := [(0, c), (2, (Ad E 66))]) (by first | decide | omega) (by first | decide | omega) (by first | decide | omega) rfl rfl (Nat.le_of_ble_eq_true rfl) (c_X12_countR E S (hv [80, 81, 82, 83, 84, 85, 86, 87] [] (up (hv [80, 81, 82, 83, 84, 85, 86, 87] [] G G332) 64 (Ad E 64) c z333) G344) 0 19 hS bah345 bah345e (by first | decide | omega) (by first | decide | omega) (by first | decide | omega) (by first | decide | omega) TT nn (pKd TT nn 11 (pNb TT nn 0 1000 sr)) r347) ?_
            rintro _ _ _ ⟨rfl, ⟨G351, rfl⟩, z352, rfl, bah353, bah353e, z352a, z352b, f354, r355⟩
            have k356 := rm_bad r355
            have k356 := bah353e.trans k356
            refine r_peekI hX (tl1 80 rfl (by decide)) hS (fun o357 o357e o357a o357b => ?_)
            obtain rfl : bah353 = o357 := bah353e.trans o357e.symm
            refine r_iastK hX hP rfl al_66 s350 (by first | decide | omega) (by first | decide | omega) (by first | decide | omega) (by first | decide | omega) (fun h358 => ?_)
            refine r_ex hX hP 1 (pc' := 453) (st' := []) (lo' := [(0, (2, (Ad E 1))), (1, (0, k)), (2, (0, c)), (3, (0, ch))]) rfl ?_
            have hC359 : pNb TT nn 0 19 (pKd TT nn 11 (pNb TT nn 0 1000 sr)) = qPl TT nn k ch sr := by
              unfold qPl; (repeat (first | rw [if_pos (by first | decide | omega)] | rw [if_neg (by first | decide | omega)])); try (first | rfl | (unfold qFr; (repeat (first | rw [if_pos (by first | decide | omega)] | rw [if_neg (by first | decide | omega)])); try rfl) | (unfold qFa; (repeat (first | rw [if_pos (by first | decide | omega)] | rw [if_neg (by first | decide | omega)])); try rfl) | (unfold qMs qCu; (repeat (first | rw [if_pos (by first | decide | omega)] | rw [if_neg (by first | decide | omega)])); try rfl) | (rw [show k = 1 from by omega]; exact rt1 TT nn (by first | decide | omega)) | (unfold qRt pM3 pM2 pM1; (repeat (first | rw [if_pos (by first | decide | omega)] | rw [if_neg (by first | decide | omega)])); try rfl))
            have hC3591 : (qPl TT nn k ch sr) 1 = (pNb TT nn 0 19 (pKd TT nn 11 (pNb TT nn 0 1000 sr))) 1 := congrFun hC359.symm 1
            exact r_retV hX hP rfl rfl (by first | decide | omega) (by first | decide | omega) ⟨rfl, ⟨_, (hq_up (hq_call (hq_call (hq_up (hq_call (hq_refl _ _ _) rfl) rfl) rfl) rfl) rfl).symm⟩, rfl, bah353, bah353e, z333, h339, two_c, two_c_e, (by first | decide | omega), (fun i h0 hi hx => ⟨rfl, ((show (up (hv [80, 81, 82, 83, 84, 85, 86, 87] [] G G332) 64 (Ad E 64) c z333) 64 (Ad E 64) i = _ from up_ne (fun q => absurd q.2.2 hx)).trans rfl), rfl, ((show (up (hv [80, 81, 82, 83, 84, 85, 86, 87] [] (hv [80, 81, 82, 83, 84, 85, 86, 87] [] (up (hv [80, 81, 82, 83, 84, 85, 86, 87] [] G G332) 64 (Ad E 64) c z333) G344) G351) 66 (Ad E 66) c z352) 66 (Ad E 66) i = _ from up_ne (fun q => absurd q.2.2 hx)).trans rfl), rfl, rfl⟩), (rm_cast r355 hC359)⟩
        · skip
          refine r_ex hX hP 1 (pc' := 20) (st' := [(2, (Ad E 1))]) (lo' := [(0, (2, (Ad E 1))), (1, (0, k)), (2, (0, c)), (3, (0, ch))]) rfl ?_
          refine r_getC hX hP rfl fl_12_217 hS (fun s360 => ?_)
          refine r_ex hX hP 3 (pc' := 26) (st' := [(0, 2), (0, k), (0, c), (2, (Ad E 64))]) (lo' := [(0, (2, (Ad E 1))), (1, (0, k)), (2, (0, c)), (3, (0, ch))]) rfl ?_
          refine r_ic_ge hX hP rfl (tgt := 40) rfl (by first | decide | omega) (by first | decide | omega) (by first | decide | omega) (by first | decide | omega) (fun c361 => ?_) (fun c361 => ?_)
          · skip
            refine r_ex hX hP 2 (pc' := 42) (st' := [(0, 0), (2, (Ad E 1)), (0, c), (2, (Ad E 64))]) (lo' := [(0, (2, (Ad E 1))), (1, (0, k)), (2, (0, c)), (3, (0, ch))]) rfl ?_
            refine r_ldcw hX hP rfl (v := 9999999) (tbg sg9 186 rfl rfl) ?_
            refine r_peekI hX (tl1 80 rfl (by decide)) hS (fun bap362 bap362e bap362a bap362b => ?_)
            have k363 := rm_bad rd
            have k363 := bap362e.trans k363
            refine r_callV gd hX hP rfl cv_12_461 hS (d' := 2) (mc' := 0) (ms' := 0) (as' := [(0, 0), (0, 9999999)]) (st := [(0, c), (2, (Ad E 64))]) (by first | decide | omega) (by first | decide | omega) (by first | decide | omega) rfl rfl (Nat.le_of_ble_eq_true rfl) (c_X12_countR E S G 0 9999999 hS bap362 bap362e (by first | decide | omega) (by first | decide | omega) (by first | decide | omega) (by first | decide | omega) TT nn sr rd) ?_
            rintro _ _ _ ⟨rfl, ⟨G364, rfl⟩, z365, rfl, bah366, bah366e, z365a, z365b, f367, r368⟩
            have k369 := rm_bad r368
            have k369 := bah366e.trans k369
            refine r_peekI hX (tl1 80 rfl (by decide)) hS (fun o370 o370e o370a o370b => ?_)
            obtain rfl : bah366 = o370 := bah366e.trans o370e.symm
            refine r_iastK hX hP rfl al_64 s360 (by first | decide | omega) (by first | decide | omega) (by first | decide | omega) (by first | decide | omega) (fun h371 => ?_)
            refine r_ex hX hP 1 (pc' := 50) (st' := [(0, k)]) (lo' := [(0, (2, (Ad E 1))), (1, (0, k)), (2, (0, c)), (3, (0, ch))]) rfl ?_
            refine r_if_ne hX hP rfl (tgt := 81) rfl (by first | decide | omega) (by first | decide | omega) (fun c372 => ?_) (fun c372 => ?_)
            · skip
              refine r_ex hX hP 7 (pc' := 91) (st' := [(0, 0), (0, 0), (0, 0), (0, 114), (0, 111), (0, 102), (2, (Ad E 1))]) (lo' := [(0, (2, (Ad E 1))), (1, (0, k)), (2, (0, c)), (3, (0, ch))]) rfl ?_
              refine r_callS gd hX hP rfl cs_12_405 (d' := 0) (mc' := 0) (ms' := 0) (as' := [(0, 102), (0, 111), (0, 114), (0, 0), (0, 0), (0, 0)]) (st := [(2, (Ad E 1))]) (by first | decide | omega) (by first | decide | omega) (by first | decide | omega) rfl rfl (Nat.le_of_ble_eq_true rfl) (c_X12_spelledR E S (up (hv [80, 81, 82, 83, 84, 85, 86, 87] [] G G364) 64 (Ad E 64) c z365) 102 111 114 0 0 0 (by first | decide | omega) (by first | decide | omega) (by first | decide | omega) (by first | decide | omega) (by first | decide | omega) (by first | decide | omega) (by first | decide | omega) (by first | decide | omega) (by first | decide | omega) (by first | decide | omega) (by first | decide | omega) (by first | decide | omega)) ?_
              rintro _ _ _ ⟨rfl, rfl, z373, rfl, z373a, z373b, f374⟩
              have k375 := (show sp6 102 111 114 0 0 0 = 6642 from by decide)
              have k376 : z373 = wW 19 := by have e : wW 19 = 6642 := (by decide +kernel); omega
              refine r_callV gd hX hP rfl cv_12_466 hS (d' := 2) (mc' := 0) (ms' := 0) (as' := [(1, z373)]) (st := []) (by first | decide | omega) (by first | decide | omega) (by first | decide | omega) rfl rfl (Nat.le_of_ble_eq_true rfl) (c_X12_wordIsR E S (up (hv [80, 81, 82, 83, 84, 85, 86, 87] [] G G364) 64 (Ad E 64) c z365) z373 hS bah366 bah366e (by first | decide | omega) (by first | decide | omega) TT nn (pNb TT nn 0 9999999 sr) r368 19 k376 (by decide)) ?_
              rintro _ _ _ ⟨rfl, ⟨G377, rfl⟩, rfl, bah378, bah378e, f379, r380⟩
              have k381 := rm_bad r380
              have k381 := bah378e.trans k381
              refine r_peekI hX (tl1 80 rfl (by decide)) hS (fun o382 o382e o382a o382b => ?_)
              obtain rfl : bah378 = o382 := bah378e.trans o382e.symm
              refine r_ex hX hP 1 (pc' := 98) (st' := [(2, (Ad E 1))]) (lo' := [(0, (2, (Ad E 1))), (1, (0, k)), (2, (0, c)), (3, (0, ch))]) rfl ?_
              refine r_getC hX hP rfl fl_12_220 hS (fun _ => ?_)
              refine r_ex hX hP 3 (pc' := 104) (st' := [(0, 1), (0, k), (0, c), (2, (Ad E 65))]) (lo' := [(0, (2, (Ad E 1))), (1, (0, k)), (2, (0, c)), (3, (0, ch))]) rfl ?_
              refine r_ic_ne hX hP rfl (tgt := 127) rfl (by first | decide | omega) (by first | decide | omega) (by first | decide | omega) (by first | decide | omega) (fun c383 => ?_) (fun c383 => ?_)
              · skip
                refine r_ex hX hP 3 (pc' := 132) (st' := [(0, 1000), (0, 1), (2, (Ad E 1)), (0, c), (2, (Ad E 65))]) (lo' := [(0, (2, (Ad E 1))), (1, (0, k)), (2, (0, c)), (3, (0, ch))]) rfl ?_
                refine r_callV gd hX hP rfl cv_12_461 hS (d' := 2) (mc' := 0) (ms' := 0) (as' := [(0, 1), (0, 1000)]) (st := [(0, c), (2, (Ad E 65))]) (by first | decide | omega) (by first | decide | omega) (by first | decide | omega) rfl rfl (Nat.le_of_ble_eq_true rfl) (c_X12_countR E S (hv [80, 81, 82, 83, 84, 85, 86, 87] [] (up (hv [80, 81, 82, 83, 84, 85, 86, 87] [] G G364) 64 (Ad E 64) c z365) G377) 1 1000 hS bah378 bah378e (by first | decide | omega) (by first | decide | omega) (by first | decide | omega) (by first | decide | omega) TT nn (pKd TT nn 19 (pNb TT nn 0 9999999 sr)) r380) ?_
                rintro _ _ _ ⟨rfl, ⟨G384, rfl⟩, z385, rfl, bah386, bah386e, z385a, z385b, f387, r388⟩
                have k389 := rm_bad r388
                have k389 := bah386e.trans k389
                refine r_peekI hX (tl1 80 rfl (by decide)) hS (fun o390 o390e o390a o390b => ?_)
                obtain rfl : bah386 = o390 := bah386e.trans o390e.symm
                refine r_iastK hX hP rfl al_65 s1 (by first | decide | omega) (by first | decide | omega) (by first | decide | omega) (by first | decide | omega) (fun h391 => ?_)
                refine r_ex hX hP 1 (pc' := 453) (st' := []) (lo' := [(0, (2, (Ad E 1))), (1, (0, k)), (2, (0, c)), (3, (0, ch))]) rfl ?_
                have hC392 : pNb TT nn 1 1000 (pKd TT nn 19 (pNb TT nn 0 9999999 sr)) = qPl TT nn k ch sr := by
                  unfold qPl; (repeat (first | rw [if_pos (by first | decide | omega)] | rw [if_neg (by first | decide | omega)])); try (first | rfl | (unfold qFr; (repeat (first | rw [if_pos (by first | decide | omega)] | rw [if_neg (by first | decide | omega)])); try rfl) | (unfold qFa; (repeat (first | rw [if_pos (by first | decide | omega)] | rw [if_neg (by first | decide | omega)])); try rfl) | (unfold qMs qCu; (repeat (first | rw [if_pos (by first | decide | omega)] | rw [if_neg (by first | decide | omega)])); try rfl) | (rw [show k = 1 from by omega]; exact rt1 TT nn (by first | decide | omega)) | (unfold qRt pM3 pM2 pM1; (repeat (first | rw [if_pos (by first | decide | omega)] | rw [if_neg (by first | decide | omega)])); try rfl))
                have hC3921 : (qPl TT nn k ch sr) 1 = (pNb TT nn 1 1000 (pKd TT nn 19 (pNb TT nn 0 9999999 sr))) 1 := congrFun hC392.symm 1
                exact r_retV hX hP rfl rfl (by first | decide | omega) (by first | decide | omega) ⟨rfl, ⟨_, (hq_up (hq_call (hq_call (hq_up (hq_call (hq_refl _ _ _) rfl) rfl) rfl) rfl) rfl).symm⟩, rfl, bah386, bah386e, z365, h371, z385, h391, (by first | decide | omega), (fun i h0 hi hx => ⟨rfl, ((show (up (hv [80, 81, 82, 83, 84, 85, 86, 87] [] G G364) 64 (Ad E 64) c z365) 64 (Ad E 64) i = _ from up_ne (fun q => absurd q.2.2 hx)).trans rfl), ((show (up (hv [80, 81, 82, 83, 84, 85, 86, 87] [] (hv [80, 81, 82, 83, 84, 85, 86, 87] [] (up (hv [80, 81, 82, 83, 84, 85, 86, 87] [] G G364) 64 (Ad E 64) c z365) G377) G384) 65 (Ad E 65) c z385) 65 (Ad E 65) i = _ from up_ne (fun q => absurd q.2.2 hx)).trans rfl), rfl, rfl, rfl⟩), (rm_cast r388 hC392)⟩
              · skip
                exfalso; omega
            · skip
              exfalso; omega
          · skip
            exfalso; omega
