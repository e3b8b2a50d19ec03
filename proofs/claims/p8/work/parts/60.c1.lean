theorem co_X11_within : Co mX11_within 3 := ⟨(tbg sg2 223 rfl rfl), (tbg sg1 1 rfl rfl), by decide, by decide, by decide +kernel, by decide⟩
theorem cs_X11_103 : Cs RX11 103 mX11_within 3 := ⟨co_X11_within, (tbg sg2 221 rfl rfl), (tbg sg2 222 rfl rfl)⟩
theorem fl_X11_82_128 : Fl RX11 82 128 0 (0, (-2147483648), 2147483647) := ⟨11, 20, fs_128, RX11, TX11, rfl, rfl, by decide, rfl, by decide, rfl, cf_X11, (tbg sg2 148 rfl rfl)⟩
theorem fp_X11_82_128 : Fp RX11 82 128 0 (0, (-2147483648), 2147483647) := ⟨fl_X11_82_128, 11, 20, fs_128, RX11, TX11, .int, rfl, rfl, rfl, by decide +kernel, fun E S x h => ⟨rfl, rfl⟩⟩
theorem al_95 : Al 95 1 20 (1, (-9223372036854775808), 9223372036854775807) := ⟨rfl, by decide, by decide⟩
theorem al_96 : Al 96 1 21 (1, (-9223372036854775808), 9223372036854775807) := ⟨rfl, by decide, by decide⟩
theorem al_125 : Al 125 1 4 (1, (-9223372036854775808), 9223372036854775807) := ⟨rfl, by decide, by decide⟩
theorem al_93 : Al 93 0 20 (0, (-1), 19) := ⟨rfl, by decide, by decide⟩
theorem al_115 : Al 115 0 40 (0, (-2147483648), 2147483647) := ⟨rfl, by decide, by decide⟩
theorem al_124 : Al 124 0 3 (0, (-2147483648), 2147483647) := ⟨rfl, by decide, by decide⟩
theorem fl_X10_15_139 : Fl RX10 15 139 0 (0, 0, 40000) := ⟨2, 9, fs_139, RX1, TX1, rfl, rfl, by decide, rfl, by decide, rfl, cf_X1, (tbg sg3 47 rfl rfl)⟩
theorem fl_X10_9_139 : Fl RX10 9 139 1 (0, (-1), 40000) := ⟨2, 9, fs_139, RX1, TX1, rfl, rfl, by decide, rfl, by decide, rfl, cf_X1, (tbg sg3 48 rfl rfl)⟩
theorem fl_X10_15_140 : Fl RX10 15 140 0 (0, 0, 40000) := ⟨2, 9, fs_140, RX1, TX1, rfl, rfl, by decide, rfl, by decide, rfl, cf_X1, (tbg sg3 47 rfl rfl)⟩
theorem fl_X10_9_140 : Fl RX10 9 140 1 (0, (-1), 40000) := ⟨2, 9, fs_140, RX1, TX1, rfl, rfl, by decide, rfl, by decide, rfl, cf_X1, (tbg sg3 48 rfl rfl)⟩
theorem fl_X10_15_137 : Fl RX10 15 137 0 (0, 0, 40000) := ⟨3, 7, fs_137, RX2, TX2, rfl, rfl, by decide, rfl, by decide, rfl, cf_X2, (tbg sg3 47 rfl rfl)⟩
theorem fl_X10_9_137 : Fl RX10 9 137 1 (0, (-1), 40000) := ⟨3, 7, fs_137, RX2, TX2, rfl, rfl, by decide, rfl, by decide, rfl, cf_X2, (tbg sg3 48 rfl rfl)⟩
theorem fl_X10_15_138 : Fl RX10 15 138 0 (0, 0, 40000) := ⟨6, 6, fs_138, RX5, TX5, rfl, rfl, by decide, rfl, by decide, rfl, cf_X5, (tbg sg3 47 rfl rfl)⟩
theorem fl_X10_9_138 : Fl RX10 9 138 1 (0, (-1), 40000) := ⟨6, 6, fs_138, RX5, TX5, rfl, rfl, by decide, rfl, by decide, rfl, cf_X5, (tbg sg3 48 rfl rfl)⟩
theorem fl_X10_15_141 : Fl RX10 15 141 0 (0, 0, 40000) := ⟨2, 9, fs_141, RX1, TX1, rfl, rfl, by decide, rfl, by decide, rfl, cf_X1, (tbg sg3 47 rfl rfl)⟩
theorem fl_X10_9_141 : Fl RX10 9 141 1 (0, (-1), 40000) := ⟨2, 9, fs_141, RX1, TX1, rfl, rfl, by decide, rfl, by decide, rfl, cf_X1, (tbg sg3 48 rfl rfl)⟩
set_option maxRecDepth 100000 in
set_option maxHeartbeats 4000000 in
theorem c_X11_within (E : En) (S : Sg) (G : Gh) (number : Int) (least : Int) (most : Int) (number_a : (-2147483648) ≤ number) (number_b : number ≤ 2147483647) (least_a : (-2147483648) ≤ least) (least_b : least ≤ 2147483647) (most_a : (-2147483648) ≤ most) (most_b : most ≤ 2147483647) : Calls E mX11_within [(0, number), (0, least), (0, most)] S G 0 0 0 (fun r S' G' => S = S' ∧ G = G' ∧ ∃ z : Int, r = some (0, z) ∧ ((z = 1 ∧ least ≤ number ∧ number ≤ most) ∨ (z = 0 ∧ (number < least ∨ most < number)))) := by
  refine calls_by [(0, (0, number)), (1, (0, least)), (2, (0, most))] rfl rfl (Nat.le_of_ble_eq_true rfl) (fun X hX => ?_)
  have hP := hPX11_within
  refine r_ex hX hP 2 (pc' := 2) (st' := [(0, least), (0, number)]) (lo' := [(0, (0, number)), (1, (0, least)), (2, (0, most))]) rfl ?_
  refine r_ic_lt hX hP rfl (tgt := 14) rfl (by first | decide | omega) (by first | decide | omega) (by first | decide | omega) (by first | decide | omega) (fun c1 => ?_) (fun c1 => ?_)
  · skip
    refine r_ex hX hP 1 (pc' := 15) (st' := [(0, 0)]) (lo' := [(0, (0, number)), (1, (0, least)), (2, (0, most))]) rfl ?_
    exact r_retZ hX hP rfl rfl (by first | decide | omega) (by first | decide | omega) (by first | decide | omega) (by first | decide | omega) ⟨rfl, rfl, 0, rfl, (by first | decide | omega)⟩
  · skip
    refine r_ex hX hP 2 (pc' := 7) (st' := [(0, most), (0, number)]) (lo' := [(0, (0, number)), (1, (0, least)), (2, (0, most))]) rfl ?_
    refine r_ic_gt hX hP rfl (tgt := 14) rfl (by first | decide | omega) (by first | decide | omega) (by first | decide | omega) (by first | decide | omega) (fun c2 => ?_) (fun c2 => ?_)
    · skip
      refine r_ex hX hP 1 (pc' := 15) (st' := [(0, 0)]) (lo' := [(0, (0, number)), (1, (0, least)), (2, (0, most))]) rfl ?_
      exact r_retZ hX hP rfl rfl (by first | decide | omega) (by first | decide | omega) (by first | decide | omega) (by first | decide | omega) ⟨rfl, rfl, 0, rfl, (by first | decide | omega)⟩
    · skip
      refine r_ex hX hP 2 (pc' := 15) (st' := [(0, 1)]) (lo' := [(0, (0, number)), (1, (0, least)), (2, (0, most))]) rfl ?_
      exact r_retZ hX hP rfl rfl (by first | decide | omega) (by first | decide | omega) (by first | decide | omega) (by first | decide | omega) ⟨rfl, rfl, 1, rfl, (by first | decide | omega)⟩
set_option maxRecDepth 100000 in
set_option maxHeartbeats 4000000 in
theorem c_X11_isDay (E : En) (S : Sg) (G : Gh) (day : Int) (day_a : (-2147483648) ≤ day) (day_b : day ≤ 2147483647) : Calls E mX11_isDay [(0, day)] S G 1 0 0 (fun r S' G' => S = S' ∧ G = G' ∧ ∃ z : Int, r = some (0, z) ∧ ((z = 1 ∧ 0 ≤ day ∧ day ≤ 40000) ∨ (z = 0 ∧ (day < 0 ∨ 40000 < day)))) := by
  refine calls_by [(0, (0, day))] rfl rfl (Nat.le_of_ble_eq_true rfl) (fun X hX => ?_)
  have hP := hPX11_isDay
  refine r_ex hX hP 2 (pc' := 2) (st' := [(0, 0), (0, day)]) (lo' := [(0, (0, day))]) rfl ?_
  refine r_ldcw hX hP rfl (v := 40000) (tbg sg2 220 rfl rfl) ?_
  refine r_callS gd hX hP rfl cs_X11_103 (d' := 0) (mc' := 0) (ms' := 0) (as' := [(0, day), (0, 0), (0, 40000)]) (st := []) (by first | decide | omega) (by first | decide | omega) (by first | decide | omega) rfl rfl (Nat.le_of_ble_eq_true rfl) (c_X11_within E S G day 0 40000 (by first | decide | omega) (by first | decide | omega) (by first | decide | omega) (by first | decide | omega) (by first | decide | omega) (by first | decide | omega)) ?_
  rintro _ _ _ ⟨rfl, rfl, z1, rfl, (⟨rfl, f2, f3⟩ | ⟨rfl, f4⟩)⟩
  · skip
    exact r_retZ hX hP rfl rfl (by first | decide | omega) (by first | decide | omega) (by first | decide | omega) (by first | decide | omega) ⟨rfl, rfl, 1, rfl, (by first | decide | omega)⟩
  · skip
    exact r_retZ hX hP rfl rfl (by first | decide | omega) (by first | decide | omega) (by first | decide | omega) (by first | decide | omega) ⟨rfl, rfl, 0, rfl, (by first | decide | omega)⟩
set_option maxRecDepth 100000 in
set_option maxHeartbeats 4000000 in
theorem c_X11_isPaper (E : En) (S : Sg) (G : Gh) (paper : Int) (paper_a : (-2147483648) ≤ paper) (paper_b : paper ≤ 2147483647) : Calls E mX11_isPaper [(0, paper)] S G 1 0 0 (fun r S' G' => S = S' ∧ G = G' ∧ ∃ z : Int, r = some (0, z) ∧ ((z = 1 ∧ 0 ≤ paper ∧ paper ≤ 19) ∨ (z = 0))) := by
  refine calls_by [(0, (0, paper))] rfl rfl (Nat.le_of_ble_eq_true rfl) (fun X hX => ?_)
  have hP := hPX11_isPaper
  refine r_ex hX hP 3 (pc' := 4) (st' := [(0, 19), (0, 0), (0, paper)]) (lo' := [(0, (0, paper))]) rfl ?_
  refine r_callS gd hX hP rfl cs_X11_103 (d' := 0) (mc' := 0) (ms' := 0) (as' := [(0, paper), (0, 0), (0, 19)]) (st := []) (by first | decide | omega) (by first | decide | omega) (by first | decide | omega) rfl rfl (Nat.le_of_ble_eq_true rfl) (c_X11_within E S G paper 0 19 (by first | decide | omega) (by first | decide | omega) (by first | decide | omega) (by first | decide | omega) (by first | decide | omega) (by first | decide | omega)) ?_
  rintro _ _ _ ⟨rfl, rfl, z1, rfl, (⟨rfl, f2, f3⟩ | ⟨rfl, f4⟩)⟩
  · skip
    exact r_retZ hX hP rfl rfl (by first | decide | omega) (by first | decide | omega) (by first | decide | omega) (by first | decide | omega) ⟨rfl, rfl, 1, rfl, (by first | decide | omega)⟩
  · skip
    exact r_retZ hX hP rfl rfl (by first | decide | omega) (by first | decide | omega) (by first | decide | omega) (by first | decide | omega) ⟨rfl, rfl, 0, rfl, (by first | decide | omega)⟩
set_option maxRecDepth 100000 in
set_option maxHeartbeats 4000000 in
theorem c_X11_first (E : En) (S : Sg) (G : Gh) (noSuch : Int) (cannotBe : Int) (tooMany : Int) (gone : Int) (noSuch_a : 0 ≤ noSuch) (noSuch_b : noSuch ≤ 1) (cannotBe_a : 0 ≤ cannotBe) (cannotBe_b : cannotBe ≤ 1) (tooMany_a : 0 ≤ tooMany) (tooMany_b : tooMany ≤ 1) (gone_a : 0 ≤ gone) (gone_b : gone ≤ 1) : Calls E mX11_first [(0, noSuch), (0, cannotBe), (0, tooMany), (0, gone)] S G 0 0 0 (fun r S' G' => S = S' ∧ G = G' ∧ ∃ z : Int, r = some (0, z) ∧ ((z = 1 ∧ noSuch = 1) ∨ (z = 2 ∧ noSuch = 0 ∧ cannotBe = 1) ∨ (z = 3 ∧ noSuch = 0 ∧ cannotBe = 0 ∧ tooMany = 1) ∨ (z = 4 ∧ noSuch = 0 ∧ cannotBe = 0 ∧ tooMany = 0 ∧ gone = 1) ∨ (z = 0 ∧ noSuch = 0 ∧ cannotBe = 0 ∧ tooMany = 0 ∧ gone = 0))) := by
  refine calls_by [(0, (0, noSuch)), (1, (0, cannotBe)), (2, (0, tooMany)), (3, (0, gone))] rfl rfl (Nat.le_of_ble_eq_true rfl) (fun X hX => ?_)
  have hP := hPX11_first
  refine r_ex hX hP 1 (pc' := 1) (st' := [(0, noSuch)]) (lo' := [(0, (0, noSuch)), (1, (0, cannotBe)), (2, (0, tooMany)), (3, (0, gone))]) rfl ?_
  refine r_if_eq hX hP rfl (tgt := 6) rfl (by first | decide | omega) (by first | decide | omega) (fun c1 => ?_) (fun c1 => ?_)
  · skip
    refine r_ex hX hP 1 (pc' := 7) (st' := [(0, cannotBe)]) (lo' := [(0, (0, noSuch)), (1, (0, cannotBe)), (2, (0, tooMany)), (3, (0, gone))]) rfl ?_
    refine r_if_eq hX hP rfl (tgt := 12) rfl (by first | decide | omega) (by first | decide | omega) (fun c2 => ?_) (fun c2 => ?_)
    · skip
      refine r_ex hX hP 1 (pc' := 13) (st' := [(0, tooMany)]) (lo' := [(0, (0, noSuch)), (1, (0, cannotBe)), (2, (0, tooMany)), (3, (0, gone))]) rfl ?_
      refine r_if_eq hX hP rfl (tgt := 18) rfl (by first | decide | omega) (by first | decide | omega) (fun c3 => ?_) (fun c3 => ?_)
      · skip
        refine r_ex hX hP 1 (pc' := 19) (st' := [(0, gone)]) (lo' := [(0, (0, noSuch)), (1, (0, cannotBe)), (2, (0, tooMany)), (3, (0, gone))]) rfl ?_
        refine r_if_eq hX hP rfl (tgt := 26) rfl (by first | decide | omega) (by first | decide | omega) (fun c4 => ?_) (fun c4 => ?_)
        · skip
          refine r_ex hX hP 1 (pc' := 27) (st' := [(0, 0)]) (lo' := [(0, (0, noSuch)), (1, (0, cannotBe)), (2, (0, tooMany)), (3, (0, gone))]) rfl ?_
          exact r_retI hX hP rfl rfl (by first | decide | omega) (by first | decide | omega) ⟨rfl, rfl, 0, rfl, (by first | decide | omega)⟩
        · skip
          refine r_ex hX hP 2 (pc' := 27) (st' := [(0, 4)]) (lo' := [(0, (0, noSuch)), (1, (0, cannotBe)), (2, (0, tooMany)), (3, (0, gone))]) rfl ?_
          exact r_retI hX hP rfl rfl (by first | decide | omega) (by first | decide | omega) ⟨rfl, rfl, 4, rfl, (by first | decide | omega)⟩
      · skip
        refine r_ex hX hP 1 (pc' := 17) (st' := [(0, 3)]) (lo' := [(0, (0, noSuch)), (1, (0, cannotBe)), (2, (0, tooMany)), (3, (0, gone))]) rfl ?_
        exact r_retI hX hP rfl rfl (by first | decide | omega) (by first | decide | omega) ⟨rfl, rfl, 3, rfl, (by first | decide | omega)⟩
    · skip
      refine r_ex hX hP 1 (pc' := 11) (st' := [(0, 2)]) (lo' := [(0, (0, noSuch)), (1, (0, cannotBe)), (2, (0, tooMany)), (3, (0, gone))]) rfl ?_
      exact r_retI hX hP rfl rfl (by first | decide | omega) (by first | decide | omega) ⟨rfl, rfl, 2, rfl, (by first | decide | omega)⟩
  · skip
    refine r_ex hX hP 1 (pc' := 5) (st' := [(0, 1)]) (lo' := [(0, (0, noSuch)), (1, (0, cannotBe)), (2, (0, tooMany)), (3, (0, gone))]) rfl ?_
    exact r_retI hX hP rfl rfl (by first | decide | omega) (by first | decide | omega) ⟨rfl, rfl, 1, rfl, (by first | decide | omega)⟩
set_option maxRecDepth 100000 in
set_option maxHeartbeats 4000000 in
theorem c_X11_noneOrUntold (E : En) (S : Sg) (G : Gh) (found : Int) (counts : Int) (found_a : (-2147483648) ≤ found) (found_b : found ≤ 2147483647) (counts_a : 0 ≤ counts) (counts_b : counts ≤ 1) : Calls E mX11_noneOrUntold [(0, found), (0, counts)] S G 0 0 0 (fun r S' G' => S = S' ∧ G = G' ∧ ∃ z : Int, r = some (0, z) ∧ 0 ≤ z ∧ z ≤ 7) := by
  refine calls_by [(0, (0, found)), (1, (0, counts))] rfl rfl (Nat.le_of_ble_eq_true rfl) (fun X hX => ?_)
  have hP := hPX11_noneOrUntold
  refine r_ex hX hP 2 (pc' := 2) (st' := [(0, (-1)), (0, found)]) (lo' := [(0, (0, found)), (1, (0, counts))]) rfl ?_
  refine r_ic_ne hX hP rfl (tgt := 7) rfl (by first | decide | omega) (by first | decide | omega) (by first | decide | omega) (by first | decide | omega) (fun c1 => ?_) (fun c1 => ?_)
  · skip
    refine r_ex hX hP 1 (pc' := 8) (st' := [(0, counts)]) (lo' := [(0, (0, found)), (1, (0, counts))]) rfl ?_
    refine r_if_eq hX hP rfl (tgt := 15) rfl (by first | decide | omega) (by first | decide | omega) (fun c2 => ?_) (fun c2 => ?_)
    · skip
      refine r_ex hX hP 1 (pc' := 17) (st' := [(0, 7)]) (lo' := [(0, (0, found)), (1, (0, counts))]) rfl ?_
      exact r_retI hX hP rfl rfl (by first | decide | omega) (by first | decide | omega) ⟨rfl, rfl, 7, rfl, (by first | decide | omega)⟩
    · skip
      refine r_ex hX hP 2 (pc' := 17) (st' := [(0, 0)]) (lo' := [(0, (0, found)), (1, (0, counts))]) rfl ?_
      exact r_retI hX hP rfl rfl (by first | decide | omega) (by first | decide | omega) ⟨rfl, rfl, 0, rfl, (by first | decide | omega)⟩
  · skip
    refine r_ex hX hP 1 (pc' := 6) (st' := [(0, 5)]) (lo' := [(0, (0, found)), (1, (0, counts))]) rfl ?_
    exact r_retI hX hP rfl rfl (by first | decide | omega) (by first | decide | omega) ⟨rfl, rfl, 5, rfl, (by first | decide | omega)⟩
set_option maxRecDepth 100000 in
set_option maxHeartbeats 4000000 in
theorem c_X11_refused (E : En) (S : Sg) (G : Gh) (this : Int) (found : Int) (hS : S this = 128) (found_a : (-2147483648) ≤ found) (found_b : found ≤ 2147483647) : Calls E mX11_refused [(2, this), (0, found)] S G 0 0 0 (fun r S' G' => S = S' ∧ (∃ G1, hw [(128, 0)] G G1 = G') ∧ ∃ z : Int, r = some (0, z) ∧ ((z = 1 ∧ found ≠ 0) ∨ (z = 0 ∧ found = 0))) := by
  refine calls_by [(0, (2, this)), (1, (0, found))] rfl rfl (Nat.le_of_ble_eq_true rfl) (fun X hX => ?_)
  have hP := hPX11_refused
  refine r_ex hX hP 2 (pc' := 2) (st' := [(0, found), (2, this)]) (lo' := [(0, (2, this)), (1, (0, found))]) rfl ?_
  refine r_putIK hX hP rfl fp_X11_82_128 hS (by first | decide | omega) (by first | decide | omega) (fun h1 => ?_)
  refine r_ex hX hP 1 (pc' := 6) (st' := [(0, found)]) (lo' := [(0, (2, this)), (1, (0, found))]) rfl ?_
  refine r_if_eq hX hP rfl (tgt := 13) rfl (by first | decide | omega) (by first | decide | omega) (fun c2 => ?_) (fun c2 => ?_)
  · skip
    refine r_ex hX hP 1 (pc' := 14) (st' := [(0, 0)]) (lo' := [(0, (2, this)), (1, (0, found))]) rfl ?_
    exact r_retZ hX hP rfl rfl (by first | decide | omega) (by first | decide | omega) (by first | decide | omega) (by first | decide | omega) ⟨rfl, ⟨_, (hw_up (hw_refl _ _) rfl).symm⟩, 0, rfl, (by first | decide | omega)⟩
  · skip
    refine r_ex hX hP 2 (pc' := 14) (st' := [(0, 1)]) (lo' := [(0, (2, this)), (1, (0, found))]) rfl ?_
    exact r_retZ hX hP rfl rfl (by first | decide | omega) (by first | decide | omega) (by first | decide | omega) (by first | decide | omega) ⟨rfl, ⟨_, (hw_up (hw_refl _ _) rfl).symm⟩, 1, rfl, (by first | decide | omega)⟩
set_option maxRecDepth 100000 in
set_option maxHeartbeats 4000000 in
theorem c_fillJ_J20 (E : En) (S : Sg) (G : Gh) (a : Int) (val : Int) (a_s : S a = 95) (val_a : 0 ≤ val) (val_b : val ≤ 0) : Calls E mJ7_fill_d0a16 [(2, a), (1, val)] S G 0 0 0 (fun r S' G' => S = S' ∧ (∃ G1, hw [(95, -1)] G G1 = G') ∧ r = none ∧ True) := by
  refine calls_by [(0, (2, a)), (1, (1, val))] rfl rfl (Nat.le_of_ble_eq_true rfl) (fun X hX => ?_)
  have hP := hPJ7_fill_d0a16
  refine r_ex hX hP 3 (pc' := 3) (st' := [(2, a)]) (lo' := [(0, (2, a)), (1, (1, val)), (3, (0, 0))]) rfl ?_
  refine r_alen hX hP rfl al_95 a_s ?_
  refine r_ex hX hP 1 (pc' := 6) (st' := []) (lo' := [(0, (2, a)), (1, (1, val)), (3, (0, 0)), (4, (0, 20))]) rfl ?_
  have loop6 : ∀ (nF : Nat) (l3_h6 : Int) (Gh6 : Gh), 0 ≤ l3_h6 → l3_h6 ≤ 20 → 20 - l3_h6 < (nF : Int) → X 0 0 6 [] [(0, (2, a)), (1, (1, val)), (3, (0, l3_h6)), (4, (0, 20))] S (hw [(95, -1)] G Gh6) := by
    intro nF
    induction nF with
    | zero => intro l3_h6 Gh6 yh6_0 yh6_1 ym6; exfalso; omega
    | succ nF ih6 =>
      intro l3_h6 Gh6 yh6_0 yh6_1 ym6
      refine r_ex hX hP 2 (pc' := 9) (st' := [(0, 20), (0, l3_h6)]) (lo' := [(0, (2, a)), (1, (1, val)), (3, (0, l3_h6)), (4, (0, 20))]) rfl ?_
      refine r_ic_ge hX hP rfl (tgt := 22) rfl (by first | decide | omega) (by first | decide | omega) (by first | decide | omega) (by first | decide | omega) (fun c1 => ?_) (fun c1 => ?_)
      · skip
        exact r_retV hX hP rfl rfl (by first | decide | omega) (by first | decide | omega) ⟨rfl, ⟨_, (hw_sub (hw_refl _ _) rfl).symm⟩, rfl, trivial⟩
      · skip
        refine r_ex hX hP 3 (pc' := 15) (st' := [(1, val), (0, l3_h6), (2, a)]) (lo' := [(0, (2, a)), (1, (1, val)), (3, (0, l3_h6)), (4, (0, 20))]) rfl ?_
        refine r_lastK hX hP rfl al_95 a_s (by first | decide | omega) (by first | decide | omega) (by first | decide | omega) (by first | decide | omega) (fun h2 => ?_)
        refine r_ex hX hP 2 (pc' := 6) (st' := []) (lo' := [(0, (2, a)), (1, (1, val)), (3, (0, (l3_h6 + 1))), (4, (0, 20))]) rfl ?_
        refine r_eqG (X := X) (hw_up (hw_base _ _ _) rfl) ?_
        exact ih6 (l3_h6 + 1) _ (by first | decide | omega) (by first | decide | omega) (by first | decide | omega)
  refine r_eqG (X := X) (hw_refl [(95, -1)] _) ?_
  exact loop6 ((20 - 0) + 1 : Int).toNat 0 _ (by first | decide | omega) (by first | decide | omega) (by first | decide | omega)
set_option maxRecDepth 100000 in
set_option maxHeartbeats 4000000 in
theorem c_fillJ_J21 (E : En) (S : Sg) (G : Gh) (a : Int) (val : Int) (a_s : S a = 96) (val_a : 0 ≤ val) (val_b : val ≤ 0) : Calls E mJ7_fill_d0a16 [(2, a), (1, val)] S G 0 0 0 (fun r S' G' => S = S' ∧ (∃ G1, hw [(96, -1)] G G1 = G') ∧ r = none ∧ True) := by
  refine calls_by [(0, (2, a)), (1, (1, val))] rfl rfl (Nat.le_of_ble_eq_true rfl) (fun X hX => ?_)
  have hP := hPJ7_fill_d0a16
  refine r_ex hX hP 3 (pc' := 3) (st' := [(2, a)]) (lo' := [(0, (2, a)), (1, (1, val)), (3, (0, 0))]) rfl ?_
  refine r_alen hX hP rfl al_96 a_s ?_
  refine r_ex hX hP 1 (pc' := 6) (st' := []) (lo' := [(0, (2, a)), (1, (1, val)), (3, (0, 0)), (4, (0, 21))]) rfl ?_
  have loop6 : ∀ (nF : Nat) (l3_h6 : Int) (Gh6 : Gh), 0 ≤ l3_h6 → l3_h6 ≤ 21 → 21 - l3_h6 < (nF : Int) → X 0 0 6 [] [(0, (2, a)), (1, (1, val)), (3, (0, l3_h6)), (4, (0, 21))] S (hw [(96, -1)] G Gh6) := by
    intro nF
    induction nF with
    | zero => intro l3_h6 Gh6 yh6_0 yh6_1 ym6; exfalso; omega
    | succ nF ih6 =>
      intro l3_h6 Gh6 yh6_0 yh6_1 ym6
      refine r_ex hX hP 2 (pc' := 9) (st' := [(0, 21), (0, l3_h6)]) (lo' := [(0, (2, a)), (1, (1, val)), (3, (0, l3_h6)), (4, (0, 21))]) rfl ?_
      refine r_ic_ge hX hP rfl (tgt := 22) rfl (by first | decide | omega) (by first | decide | omega) (by first | decide | omega) (by first | decide | omega) (fun c1 => ?_) (fun c1 => ?_)
      · skip
        exact r_retV hX hP rfl rfl (by first | decide | omega) (by first | decide | omega) ⟨rfl, ⟨_, (hw_sub (hw_refl _ _) rfl).symm⟩, rfl, trivial⟩
      · skip
        refine r_ex hX hP 3 (pc' := 15) (st' := [(1, val), (0, l3_h6), (2, a)]) (lo' := [(0, (2, a)), (1, (1, val)), (3, (0, l3_h6)), (4, (0, 21))]) rfl ?_
        refine r_lastK hX hP rfl al_96 a_s (by first | decide | omega) (by first | decide | omega) (by first | decide | omega) (by first | decide | omega) (fun h2 => ?_)
        refine r_ex hX hP 2 (pc' := 6) (st' := []) (lo' := [(0, (2, a)), (1, (1, val)), (3, (0, (l3_h6 + 1))), (4, (0, 21))]) rfl ?_
        refine r_eqG (X := X) (hw_up (hw_base _ _ _) rfl) ?_
        exact ih6 (l3_h6 + 1) _ (by first | decide | omega) (by first | decide | omega) (by first | decide | omega)
  refine r_eqG (X := X) (hw_refl [(96, -1)] _) ?_
  exact loop6 ((21 - 0) + 1 : Int).toNat 0 _ (by first | decide | omega) (by first | decide | omega) (by first | decide | omega)
set_option maxRecDepth 100000 in
set_option maxHeartbeats 4000000 in
theorem c_fillJ_J4 (E : En) (S : Sg) (G : Gh) (a : Int) (val : Int) (a_s : S a = 125) (val_a : 0 ≤ val) (val_b : val ≤ 0) : Calls E mJ7_fill_d0a16 [(2, a), (1, val)] S G 0 0 0 (fun r S' G' => S = S' ∧ (∃ G1, hw [(125, -1)] G G1 = G') ∧ r = none ∧ True) := by
  refine calls_by [(0, (2, a)), (1, (1, val))] rfl rfl (Nat.le_of_ble_eq_true rfl) (fun X hX => ?_)
  have hP := hPJ7_fill_d0a16
  refine r_ex hX hP 3 (pc' := 3) (st' := [(2, a)]) (lo' := [(0, (2, a)), (1, (1, val)), (3, (0, 0))]) rfl ?_
  refine r_alen hX hP rfl al_125 a_s ?_
  refine r_ex hX hP 1 (pc' := 6) (st' := []) (lo' := [(0, (2, a)), (1, (1, val)), (3, (0, 0)), (4, (0, 4))]) rfl ?_
  have loop6 : ∀ (nF : Nat) (l3_h6 : Int) (Gh6 : Gh), 0 ≤ l3_h6 → l3_h6 ≤ 4 → 4 - l3_h6 < (nF : Int) → X 0 0 6 [] [(0, (2, a)), (1, (1, val)), (3, (0, l3_h6)), (4, (0, 4))] S (hw [(125, -1)] G Gh6) := by
    intro nF
    induction nF with
    | zero => intro l3_h6 Gh6 yh6_0 yh6_1 ym6; exfalso; omega
    | succ nF ih6 =>
      intro l3_h6 Gh6 yh6_0 yh6_1 ym6
      refine r_ex hX hP 2 (pc' := 9) (st' := [(0, 4), (0, l3_h6)]) (lo' := [(0, (2, a)), (1, (1, val)), (3, (0, l3_h6)), (4, (0, 4))]) rfl ?_
      refine r_ic_ge hX hP rfl (tgt := 22) rfl (by first | decide | omega) (by first | decide | omega) (by first | decide | omega) (by first | decide | omega) (fun c1 => ?_) (fun c1 => ?_)
      · skip
        exact r_retV hX hP rfl rfl (by first | decide | omega) (by first | decide | omega) ⟨rfl, ⟨_, (hw_sub (hw_refl _ _) rfl).symm⟩, rfl, trivial⟩
      · skip
        refine r_ex hX hP 3 (pc' := 15) (st' := [(1, val), (0, l3_h6), (2, a)]) (lo' := [(0, (2, a)), (1, (1, val)), (3, (0, l3_h6)), (4, (0, 4))]) rfl ?_
        refine r_lastK hX hP rfl al_125 a_s (by first | decide | omega) (by first | decide | omega) (by first | decide | omega) (by first | decide | omega) (fun h2 => ?_)
        refine r_ex hX hP 2 (pc' := 6) (st' := []) (lo' := [(0, (2, a)), (1, (1, val)), (3, (0, (l3_h6 + 1))), (4, (0, 4))]) rfl ?_
        refine r_eqG (X := X) (hw_up (hw_base _ _ _) rfl) ?_
        exact ih6 (l3_h6 + 1) _ (by first | decide | omega) (by first | decide | omega) (by first | decide | omega)
  refine r_eqG (X := X) (hw_refl [(125, -1)] _) ?_
  exact loop6 ((4 - 0) + 1 : Int).toNat 0 _ (by first | decide | omega) (by first | decide | omega) (by first | decide | omega)
set_option maxRecDepth 100000 in
set_option maxHeartbeats 4000000 in
theorem c_fillI_I20k (E : En) (S : Sg) (G : Gh) (a : Int) (val : Int) (a_s : S a = 93) (val_a : (-1) ≤ val) (val_b : val ≤ (-1)) : Calls E mJ7_fill_53178 [(2, a), (0, val)] S G 0 0 0 (fun r S' G' => S = S' ∧ (∃ G1, hw [(93, -1)] G G1 = G') ∧ r = none ∧ True) := by
  refine calls_by [(0, (2, a)), (1, (0, val))] rfl rfl (Nat.le_of_ble_eq_true rfl) (fun X hX => ?_)
  have hP := hPJ7_fill_53178
  refine r_ex hX hP 3 (pc' := 3) (st' := [(2, a)]) (lo' := [(0, (2, a)), (1, (0, val)), (2, (0, 0))]) rfl ?_
  refine r_alen hX hP rfl al_93 a_s ?_
  refine r_ex hX hP 1 (pc' := 5) (st' := []) (lo' := [(0, (2, a)), (1, (0, val)), (2, (0, 0)), (3, (0, 20))]) rfl ?_
  have loop5 : ∀ (nF : Nat) (l2_h5 : Int) (Gh5 : Gh), 0 ≤ l2_h5 → l2_h5 ≤ 20 → 20 - l2_h5 < (nF : Int) → X 0 0 5 [] [(0, (2, a)), (1, (0, val)), (2, (0, l2_h5)), (3, (0, 20))] S (hw [(93, -1)] G Gh5) := by
    intro nF
    induction nF with
    | zero => intro l2_h5 Gh5 yh5_0 yh5_1 ym5; exfalso; omega
    | succ nF ih5 =>
      intro l2_h5 Gh5 yh5_0 yh5_1 ym5
      refine r_ex hX hP 2 (pc' := 7) (st' := [(0, 20), (0, l2_h5)]) (lo' := [(0, (2, a)), (1, (0, val)), (2, (0, l2_h5)), (3, (0, 20))]) rfl ?_
      refine r_ic_ge hX hP rfl (tgt := 20) rfl (by first | decide | omega) (by first | decide | omega) (by first | decide | omega) (by first | decide | omega) (fun c1 => ?_) (fun c1 => ?_)
      · skip
        exact r_retV hX hP rfl rfl (by first | decide | omega) (by first | decide | omega) ⟨rfl, ⟨_, (hw_sub (hw_refl _ _) rfl).symm⟩, rfl, trivial⟩
      · skip
        refine r_ex hX hP 3 (pc' := 13) (st' := [(0, val), (0, l2_h5), (2, a)]) (lo' := [(0, (2, a)), (1, (0, val)), (2, (0, l2_h5)), (3, (0, 20))]) rfl ?_
        refine r_iastK hX hP rfl al_93 a_s (by first | decide | omega) (by first | decide | omega) (by first | decide | omega) (by first | decide | omega) (fun h2 => ?_)
        refine r_ex hX hP 2 (pc' := 5) (st' := []) (lo' := [(0, (2, a)), (1, (0, val)), (2, (0, (l2_h5 + 1))), (3, (0, 20))]) rfl ?_
        refine r_eqG (X := X) (hw_up (hw_base _ _ _) rfl) ?_
        exact ih5 (l2_h5 + 1) _ (by first | decide | omega) (by first | decide | omega) (by first | decide | omega)
  refine r_eqG (X := X) (hw_refl [(93, -1)] _) ?_
  exact loop5 ((20 - 0) + 1 : Int).toNat 0 _ (by first | decide | omega) (by first | decide | omega) (by first | decide | omega)
set_option maxRecDepth 100000 in
set_option maxHeartbeats 4000000 in
theorem c_fillI_I40 (E : En) (S : Sg) (G : Gh) (a : Int) (val : Int) (a_s : S a = 115) (val_a : (-1) ≤ val) (val_b : val ≤ (-1)) : Calls E mJ7_fill_53178 [(2, a), (0, val)] S G 0 0 0 (fun r S' G' => S = S' ∧ (∃ G1, hw [(115, -1)] G G1 = G') ∧ r = none ∧ True) := by
  refine calls_by [(0, (2, a)), (1, (0, val))] rfl rfl (Nat.le_of_ble_eq_true rfl) (fun X hX => ?_)
  have hP := hPJ7_fill_53178
  refine r_ex hX hP 3 (pc' := 3) (st' := [(2, a)]) (lo' := [(0, (2, a)), (1, (0, val)), (2, (0, 0))]) rfl ?_
  refine r_alen hX hP rfl al_115 a_s ?_
  refine r_ex hX hP 1 (pc' := 5) (st' := []) (lo' := [(0, (2, a)), (1, (0, val)), (2, (0, 0)), (3, (0, 40))]) rfl ?_
  have loop5 : ∀ (nF : Nat) (l2_h5 : Int) (Gh5 : Gh), 0 ≤ l2_h5 → l2_h5 ≤ 40 → 40 - l2_h5 < (nF : Int) → X 0 0 5 [] [(0, (2, a)), (1, (0, val)), (2, (0, l2_h5)), (3, (0, 40))] S (hw [(115, -1)] G Gh5) := by
    intro nF
    induction nF with
    | zero => intro l2_h5 Gh5 yh5_0 yh5_1 ym5; exfalso; omega
    | succ nF ih5 =>
      intro l2_h5 Gh5 yh5_0 yh5_1 ym5
      refine r_ex hX hP 2 (pc' := 7) (st' := [(0, 40), (0, l2_h5)]) (lo' := [(0, (2, a)), (1, (0, val)), (2, (0, l2_h5)), (3, (0, 40))]) rfl ?_
      refine r_ic_ge hX hP rfl (tgt := 20) rfl (by first | decide | omega) (by first | decide | omega) (by first | decide | omega) (by first | decide | omega) (fun c1 => ?_) (fun c1 => ?_)
      · skip
        exact r_retV hX hP rfl rfl (by first | decide | omega) (by first | decide | omega) ⟨rfl, ⟨_, (hw_sub (hw_refl _ _) rfl).symm⟩, rfl, trivial⟩
      · skip
        refine r_ex hX hP 3 (pc' := 13) (st' := [(0, val), (0, l2_h5), (2, a)]) (lo' := [(0, (2, a)), (1, (0, val)), (2, (0, l2_h5)), (3, (0, 40))]) rfl ?_
        refine r_iastK hX hP rfl al_115 a_s (by first | decide | omega) (by first | decide | omega) (by first | decide | omega) (by first | decide | omega) (fun h2 => ?_)
        refine r_ex hX hP 2 (pc' := 5) (st' := []) (lo' := [(0, (2, a)), (1, (0, val)), (2, (0, (l2_h5 + 1))), (3, (0, 40))]) rfl ?_
        refine r_eqG (X := X) (hw_up (hw_base _ _ _) rfl) ?_
        exact ih5 (l2_h5 + 1) _ (by first | decide | omega) (by first | decide | omega) (by first | decide | omega)
  refine r_eqG (X := X) (hw_refl [(115, -1)] _) ?_
  exact loop5 ((40 - 0) + 1 : Int).toNat 0 _ (by first | decide | omega) (by first | decide | omega) (by first | decide | omega)
set_option maxRecDepth 100000 in
set_option maxHeartbeats 4000000 in
theorem c_bitC (E : En) (S : Sg) (G : Gh) (i : Int) (i_a : (-2147483648) ≤ i) (i_b : i ≤ 2147483647) : Calls E mJ6_bitCount_0f7a4 [(0, i)] S G 0 0 0 (fun r S' G' => S = S' ∧ G = G' ∧ ∃ z : Int, r = some (0, z) ∧ 0 ≤ z ∧ z ≤ 63) := by
  refine calls_by [(0, (0, i))] rfl rfl (Nat.le_of_ble_eq_true rfl) (fun X hX => ?_)
  have hP := hPJ6_bitCount_0f7a4
  refine r_ex hX hP 3 (pc' := 3) (st' := [(0, 1), (0, i), (0, i)]) (lo' := [(0, (0, i))]) rfl ?_
  refine r_iushr hX hP rfl (fun b1 b1a b1b b1e => ?_)
  refine r_ldcw hX hP rfl (v := 1431655765) (tbg sg7 104 rfl rfl) ?_
  refine r_iand hX hP rfl (fun b2 b2a b2b b2e => ?_)
  have b2d := iand_bd b2a b2b b2e (by first | decide | omega) (by first | decide | omega)
  refine r_ex hX hP 1 (pc' := 9) (st' := [(0, (i - b2))]) (lo' := [(0, (0, i))]) rfl ?_
  refine r_hvI hX (fun w3 w3a w3b w3e => ?_)
  refine r_ex hX hP 2 (pc' := 11) (st' := [(0, w3)]) (lo' := [(0, (0, w3))]) rfl ?_
  refine r_ldcw hX hP rfl (v := 858993459) (tbg sg7 105 rfl rfl) ?_
  refine r_iand hX hP rfl (fun b4 b4a b4b b4e => ?_)
  have b4d := iand_bd b4a b4b b4e (by first | decide | omega) (by first | decide | omega)
  refine r_ex hX hP 2 (pc' := 17) (st' := [(0, 2), (0, w3), (0, b4)]) (lo' := [(0, (0, w3))]) rfl ?_
  refine r_iushr hX hP rfl (fun b5 b5a b5b b5e => ?_)
  refine r_ldcw hX hP rfl (v := 858993459) (tbg sg7 105 rfl rfl) ?_
  refine r_iand hX hP rfl (fun b6 b6a b6b b6e => ?_)
  have b6d := iand_bd b6a b6b b6e (by first | decide | omega) (by first | decide | omega)
  refine r_ex hX hP 5 (pc' := 27) (st' := [(0, 4), (0, (b4 + b6)), (0, (b4 + b6))]) (lo' := [(0, (0, (b4 + b6)))]) rfl ?_
  refine r_iushr hX hP rfl (fun b7 b7a b7b b7e => ?_)
  refine r_ex hX hP 1 (pc' := 29) (st' := [(0, ((b4 + b6) + b7))]) (lo' := [(0, (0, (b4 + b6)))]) rfl ?_
  refine r_hvI hX (fun w8 w8a w8b w8e => ?_)
  refine r_ldcw hX hP rfl (v := 252645135) (tbg sg7 106 rfl rfl) ?_
  refine r_iand hX hP rfl (fun b9 b9a b9b b9e => ?_)
  have b9d := iand_bd b9a b9b b9e (by first | decide | omega) (by first | decide | omega)
  refine r_ex hX hP 4 (pc' := 38) (st' := [(0, 8), (0, b9), (0, b9)]) (lo' := [(0, (0, b9))]) rfl ?_
  refine r_iushr hX hP rfl (fun b10 b10a b10b b10e => ?_)
  refine r_ex hX hP 1 (pc' := 40) (st' := [(0, (b9 + b10))]) (lo' := [(0, (0, b9))]) rfl ?_
  refine r_hvI hX (fun w11 w11a w11b w11e => ?_)
  refine r_ex hX hP 4 (pc' := 45) (st' := [(0, 16), (0, w11), (0, w11)]) (lo' := [(0, (0, w11))]) rfl ?_
  refine r_iushr hX hP rfl (fun b12 b12a b12b b12e => ?_)
  refine r_ex hX hP 1 (pc' := 47) (st' := [(0, (w11 + b12))]) (lo' := [(0, (0, w11))]) rfl ?_
  refine r_hvI hX (fun w13 w13a w13b w13e => ?_)
  refine r_ex hX hP 3 (pc' := 51) (st' := [(0, 63), (0, w13)]) (lo' := [(0, (0, w13))]) rfl ?_
  refine r_iand hX hP rfl (fun b14 b14a b14b b14e => ?_)
  have b14d := iand_bd b14a b14b b14e (by first | decide | omega) (by first | decide | omega)
  exact r_retI hX hP rfl rfl (by first | decide | omega) (by first | decide | omega) ⟨rfl, rfl, b14, rfl, (by first | decide | omega)⟩
set_option maxRecDepth 100000 in
set_option maxHeartbeats 4000000 in
theorem c_counts_Iss (E : En) (S : Sg) (G : Gh) (this : Int) (asof : Int) (hS : S this = 139) (asof_a : (-2147483648) ≤ asof) (asof_b : asof ≤ 2147483647) : Calls E mX10_counts [(2, this), (0, asof)] S G 0 0 0 (fun r S' G' => S = S' ∧ G = G' ∧ ∃ z : Int, r = some (0, z) ∧ 0 ≤ z ∧ z ≤ 1) := by
  refine calls_by [(0, (2, this)), (1, (0, asof))] rfl rfl (Nat.le_of_ble_eq_true rfl) (fun X hX => ?_)
  have hP := hPX10_counts
  refine r_ex hX hP 1 (pc' := 1) (st' := [(2, this)]) (lo' := [(0, (2, this)), (1, (0, asof))]) rfl ?_
  refine r_getI hX hP rfl fl_X10_15_139 hS (fun kf1 kf1e kf1a kf1b => ?_)
  refine r_ex hX hP 1 (pc' := 5) (st' := [(0, asof), (0, kf1)]) (lo' := [(0, (2, this)), (1, (0, asof))]) rfl ?_
  refine r_ic_gt hX hP rfl (tgt := 28) rfl (by first | decide | omega) (by first | decide | omega) (by first | decide | omega) (by first | decide | omega) (fun c2 => ?_) (fun c2 => ?_)
  · skip
    refine r_ex hX hP 1 (pc' := 29) (st' := [(0, 0)]) (lo' := [(0, (2, this)), (1, (0, asof))]) rfl ?_
    exact r_retZ hX hP rfl rfl (by first | decide | omega) (by first | decide | omega) (by first | decide | omega) (by first | decide | omega) ⟨rfl, rfl, 0, rfl, (by first | decide | omega)⟩
  · skip
    refine r_ex hX hP 1 (pc' := 9) (st' := [(2, this)]) (lo' := [(0, (2, this)), (1, (0, asof))]) rfl ?_
    refine r_getI hX hP rfl fl_X10_9_139 hS (fun sf3 sf3e sf3a sf3b => ?_)
    refine r_ex hX hP 1 (pc' := 13) (st' := [(0, (-1)), (0, sf3)]) (lo' := [(0, (2, this)), (1, (0, asof))]) rfl ?_
    refine r_ic_eq hX hP rfl (tgt := 24) rfl (by first | decide | omega) (by first | decide | omega) (by first | decide | omega) (by first | decide | omega) (fun c4 => ?_) (fun c4 => ?_)
    · skip
      refine r_ex hX hP 2 (pc' := 29) (st' := [(0, 1)]) (lo' := [(0, (2, this)), (1, (0, asof))]) rfl ?_
      exact r_retZ hX hP rfl rfl (by first | decide | omega) (by first | decide | omega) (by first | decide | omega) (by first | decide | omega) ⟨rfl, rfl, 1, rfl, (by first | decide | omega)⟩
    · skip
      refine r_ex hX hP 1 (pc' := 17) (st' := [(2, this)]) (lo' := [(0, (2, this)), (1, (0, asof))]) rfl ?_
      refine r_getKI hX hP rfl fl_X10_9_139 hS (x := sf3) sf3e ?_
      refine r_ex hX hP 1 (pc' := 21) (st' := [(0, asof), (0, sf3)]) (lo' := [(0, (2, this)), (1, (0, asof))]) rfl ?_
      refine r_ic_le hX hP rfl (tgt := 28) rfl (by first | decide | omega) (by first | decide | omega) (by first | decide | omega) (by first | decide | omega) (fun c5 => ?_) (fun c5 => ?_)
      · skip
        refine r_ex hX hP 1 (pc' := 29) (st' := [(0, 0)]) (lo' := [(0, (2, this)), (1, (0, asof))]) rfl ?_
        exact r_retZ hX hP rfl rfl (by first | decide | omega) (by first | decide | omega) (by first | decide | omega) (by first | decide | omega) ⟨rfl, rfl, 0, rfl, (by first | decide | omega)⟩
      · skip
        refine r_ex hX hP 2 (pc' := 29) (st' := [(0, 1)]) (lo' := [(0, (2, this)), (1, (0, asof))]) rfl ?_
        exact r_retZ hX hP rfl rfl (by first | decide | omega) (by first | decide | omega) (by first | decide | omega) (by first | decide | omega) ⟨rfl, rfl, 1, rfl, (by first | decide | omega)⟩
set_option maxRecDepth 100000 in
set_option maxHeartbeats 4000000 in
theorem c_counts_Trd (E : En) (S : Sg) (G : Gh) (this : Int) (asof : Int) (hS : S this = 140) (asof_a : (-2147483648) ≤ asof) (asof_b : asof ≤ 2147483647) : Calls E mX10_counts [(2, this), (0, asof)] S G 0 0 0 (fun r S' G' => S = S' ∧ G = G' ∧ ∃ z : Int, r = some (0, z) ∧ 0 ≤ z ∧ z ≤ 1) := by
  refine calls_by [(0, (2, this)), (1, (0, asof))] rfl rfl (Nat.le_of_ble_eq_true rfl) (fun X hX => ?_)
  have hP := hPX10_counts
  refine r_ex hX hP 1 (pc' := 1) (st' := [(2, this)]) (lo' := [(0, (2, this)), (1, (0, asof))]) rfl ?_
  refine r_getI hX hP rfl fl_X10_15_140 hS (fun kf1 kf1e kf1a kf1b => ?_)
  refine r_ex hX hP 1 (pc' := 5) (st' := [(0, asof), (0, kf1)]) (lo' := [(0, (2, this)), (1, (0, asof))]) rfl ?_
  refine r_ic_gt hX hP rfl (tgt := 28) rfl (by first | decide | omega) (by first | decide | omega) (by first | decide | omega) (by first | decide | omega) (fun c2 => ?_) (fun c2 => ?_)
  · skip
    refine r_ex hX hP 1 (pc' := 29) (st' := [(0, 0)]) (lo' := [(0, (2, this)), (1, (0, asof))]) rfl ?_
    exact r_retZ hX hP rfl rfl (by first | decide | omega) (by first | decide | omega) (by first | decide | omega) (by first | decide | omega) ⟨rfl, rfl, 0, rfl, (by first | decide | omega)⟩
  · skip
    refine r_ex hX hP 1 (pc' := 9) (st' := [(2, this)]) (lo' := [(0, (2, this)), (1, (0, asof))]) rfl ?_
    refine r_getI hX hP rfl fl_X10_9_140 hS (fun sf3 sf3e sf3a sf3b => ?_)
    refine r_ex hX hP 1 (pc' := 13) (st' := [(0, (-1)), (0, sf3)]) (lo' := [(0, (2, this)), (1, (0, asof))]) rfl ?_
    refine r_ic_eq hX hP rfl (tgt := 24) rfl (by first | decide | omega) (by first | decide | omega) (by first | decide | omega) (by first | decide | omega) (fun c4 => ?_) (fun c4 => ?_)
    · skip
      refine r_ex hX hP 2 (pc' := 29) (st' := [(0, 1)]) (lo' := [(0, (2, this)), (1, (0, asof))]) rfl ?_
      exact r_retZ hX hP rfl rfl (by first | decide | omega) (by first | decide | omega) (by first | decide | omega) (by first | decide | omega) ⟨rfl, rfl, 1, rfl, (by first | decide | omega)⟩
    · skip
      refine r_ex hX hP 1 (pc' := 17) (st' := [(2, this)]) (lo' := [(0, (2, this)), (1, (0, asof))]) rfl ?_
      refine r_getKI hX hP rfl fl_X10_9_140 hS (x := sf3) sf3e ?_
      refine r_ex hX hP 1 (pc' := 21) (st' := [(0, asof), (0, sf3)]) (lo' := [(0, (2, this)), (1, (0, asof))]) rfl ?_
      refine r_ic_le hX hP rfl (tgt := 28) rfl (by first | decide | omega) (by first | decide | omega) (by first | decide | omega) (by first | decide | omega) (fun c5 => ?_) (fun c5 => ?_)
      · skip
        refine r_ex hX hP 1 (pc' := 29) (st' := [(0, 0)]) (lo' := [(0, (2, this)), (1, (0, asof))]) rfl ?_
        exact r_retZ hX hP rfl rfl (by first | decide | omega) (by first | decide | omega) (by first | decide | omega) (by first | decide | omega) ⟨rfl, rfl, 0, rfl, (by first | decide | omega)⟩
      · skip
        refine r_ex hX hP 2 (pc' := 29) (st' := [(0, 1)]) (lo' := [(0, (2, this)), (1, (0, asof))]) rfl ?_
        exact r_retZ hX hP rfl rfl (by first | decide | omega) (by first | decide | omega) (by first | decide | omega) (by first | decide | omega) ⟨rfl, rfl, 1, rfl, (by first | decide | omega)⟩
set_option maxRecDepth 100000 in
set_option maxHeartbeats 4000000 in
theorem c_counts_Evt (E : En) (S : Sg) (G : Gh) (this : Int) (asof : Int) (hS : S this = 137) (asof_a : (-2147483648) ≤ asof) (asof_b : asof ≤ 2147483647) : Calls E mX10_counts [(2, this), (0, asof)] S G 0 0 0 (fun r S' G' => S = S' ∧ G = G' ∧ ∃ z : Int, r = some (0, z) ∧ 0 ≤ z ∧ z ≤ 1) := by
  refine calls_by [(0, (2, this)), (1, (0, asof))] rfl rfl (Nat.le_of_ble_eq_true rfl) (fun X hX => ?_)
  have hP := hPX10_counts
  refine r_ex hX hP 1 (pc' := 1) (st' := [(2, this)]) (lo' := [(0, (2, this)), (1, (0, asof))]) rfl ?_
  refine r_getI hX hP rfl fl_X10_15_137 hS (fun kf1 kf1e kf1a kf1b => ?_)
  refine r_ex hX hP 1 (pc' := 5) (st' := [(0, asof), (0, kf1)]) (lo' := [(0, (2, this)), (1, (0, asof))]) rfl ?_
  refine r_ic_gt hX hP rfl (tgt := 28) rfl (by first | decide | omega) (by first | decide | omega) (by first | decide | omega) (by first | decide | omega) (fun c2 => ?_) (fun c2 => ?_)
  · skip
    refine r_ex hX hP 1 (pc' := 29) (st' := [(0, 0)]) (lo' := [(0, (2, this)), (1, (0, asof))]) rfl ?_
    exact r_retZ hX hP rfl rfl (by first | decide | omega) (by first | decide | omega) (by first | decide | omega) (by first | decide | omega) ⟨rfl, rfl, 0, rfl, (by first | decide | omega)⟩
  · skip
    refine r_ex hX hP 1 (pc' := 9) (st' := [(2, this)]) (lo' := [(0, (2, this)), (1, (0, asof))]) rfl ?_
    refine r_getI hX hP rfl fl_X10_9_137 hS (fun sf3 sf3e sf3a sf3b => ?_)
    refine r_ex hX hP 1 (pc' := 13) (st' := [(0, (-1)), (0, sf3)]) (lo' := [(0, (2, this)), (1, (0, asof))]) rfl ?_
    refine r_ic_eq hX hP rfl (tgt := 24) rfl (by first | decide | omega) (by first | decide | omega) (by first | decide | omega) (by first | decide | omega) (fun c4 => ?_) (fun c4 => ?_)
    · skip
      refine r_ex hX hP 2 (pc' := 29) (st' := [(0, 1)]) (lo' := [(0, (2, this)), (1, (0, asof))]) rfl ?_
      exact r_retZ hX hP rfl rfl (by first | decide | omega) (by first | decide | omega) (by first | decide | omega) (by first | decide | omega) ⟨rfl, rfl, 1, rfl, (by first | decide | omega)⟩
    · skip
      refine r_ex hX hP 1 (pc' := 17) (st' := [(2, this)]) (lo' := [(0, (2, this)), (1, (0, asof))]) rfl ?_
      refine r_getKI hX hP rfl fl_X10_9_137 hS (x := sf3) sf3e ?_
      refine r_ex hX hP 1 (pc' := 21) (st' := [(0, asof), (0, sf3)]) (lo' := [(0, (2, this)), (1, (0, asof))]) rfl ?_
      refine r_ic_le hX hP rfl (tgt := 28) rfl (by first | decide | omega) (by first | decide | omega) (by first | decide | omega) (by first | decide | omega) (fun c5 => ?_) (fun c5 => ?_)
      · skip
        refine r_ex hX hP 1 (pc' := 29) (st' := [(0, 0)]) (lo' := [(0, (2, this)), (1, (0, asof))]) rfl ?_
        exact r_retZ hX hP rfl rfl (by first | decide | omega) (by first | decide | omega) (by first | decide | omega) (by first | decide | omega) ⟨rfl, rfl, 0, rfl, (by first | decide | omega)⟩
      · skip
        refine r_ex hX hP 2 (pc' := 29) (st' := [(0, 1)]) (lo' := [(0, (2, this)), (1, (0, asof))]) rfl ?_
        exact r_retZ hX hP rfl rfl (by first | decide | omega) (by first | decide | omega) (by first | decide | omega) (by first | decide | omega) ⟨rfl, rfl, 1, rfl, (by first | decide | omega)⟩
set_option maxRecDepth 100000 in
set_option maxHeartbeats 4000000 in
theorem c_counts_Pck (E : En) (S : Sg) (G : Gh) (this : Int) (asof : Int) (hS : S this = 138) (asof_a : (-2147483648) ≤ asof) (asof_b : asof ≤ 2147483647) : Calls E mX10_counts [(2, this), (0, asof)] S G 0 0 0 (fun r S' G' => S = S' ∧ G = G' ∧ ∃ z : Int, r = some (0, z) ∧ 0 ≤ z ∧ z ≤ 1) := by
  refine calls_by [(0, (2, this)), (1, (0, asof))] rfl rfl (Nat.le_of_ble_eq_true rfl) (fun X hX => ?_)
  have hP := hPX10_counts
  refine r_ex hX hP 1 (pc' := 1) (st' := [(2, this)]) (lo' := [(0, (2, this)), (1, (0, asof))]) rfl ?_
  refine r_getI hX hP rfl fl_X10_15_138 hS (fun kf1 kf1e kf1a kf1b => ?_)
  refine r_ex hX hP 1 (pc' := 5) (st' := [(0, asof), (0, kf1)]) (lo' := [(0, (2, this)), (1, (0, asof))]) rfl ?_
  refine r_ic_gt hX hP rfl (tgt := 28) rfl (by first | decide | omega) (by first | decide | omega) (by first | decide | omega) (by first | decide | omega) (fun c2 => ?_) (fun c2 => ?_)
  · skip
    refine r_ex hX hP 1 (pc' := 29) (st' := [(0, 0)]) (lo' := [(0, (2, this)), (1, (0, asof))]) rfl ?_
    exact r_retZ hX hP rfl rfl (by first | decide | omega) (by first | decide | omega) (by first | decide | omega) (by first | decide | omega) ⟨rfl, rfl, 0, rfl, (by first | decide | omega)⟩
  · skip
    refine r_ex hX hP 1 (pc' := 9) (st' := [(2, this)]) (lo' := [(0, (2, this)), (1, (0, asof))]) rfl ?_
    refine r_getI hX hP rfl fl_X10_9_138 hS (fun sf3 sf3e sf3a sf3b => ?_)
    refine r_ex hX hP 1 (pc' := 13) (st' := [(0, (-1)), (0, sf3)]) (lo' := [(0, (2, this)), (1, (0, asof))]) rfl ?_
    refine r_ic_eq hX hP rfl (tgt := 24) rfl (by first | decide | omega) (by first | decide | omega) (by first | decide | omega) (by first | decide | omega) (fun c4 => ?_) (fun c4 => ?_)
    · skip
      refine r_ex hX hP 2 (pc' := 29) (st' := [(0, 1)]) (lo' := [(0, (2, this)), (1, (0, asof))]) rfl ?_
      exact r_retZ hX hP rfl rfl (by first | decide | omega) (by first | decide | omega) (by first | decide | omega) (by first | decide | omega) ⟨rfl, rfl, 1, rfl, (by first | decide | omega)⟩
    · skip
      refine r_ex hX hP 1 (pc' := 17) (st' := [(2, this)]) (lo' := [(0, (2, this)), (1, (0, asof))]) rfl ?_
      refine r_getKI hX hP rfl fl_X10_9_138 hS (x := sf3) sf3e ?_
      refine r_ex hX hP 1 (pc' := 21) (st' := [(0, asof), (0, sf3)]) (lo' := [(0, (2, this)), (1, (0, asof))]) rfl ?_
      refine r_ic_le hX hP rfl (tgt := 28) rfl (by first | decide | omega) (by first | decide | omega) (by first | decide | omega) (by first | decide | omega) (fun c5 => ?_) (fun c5 => ?_)
      · skip
        refine r_ex hX hP 1 (pc' := 29) (st' := [(0, 0)]) (lo' := [(0, (2, this)), (1, (0, asof))]) rfl ?_
        exact r_retZ hX hP rfl rfl (by first | decide | omega) (by first | decide | omega) (by first | decide | omega) (by first | decide | omega) ⟨rfl, rfl, 0, rfl, (by first | decide | omega)⟩
      · skip
        refine r_ex hX hP 2 (pc' := 29) (st' := [(0, 1)]) (lo' := [(0, (2, this)), (1, (0, asof))]) rfl ?_
        exact r_retZ hX hP rfl rfl (by first | decide | omega) (by first | decide | omega) (by first | decide | omega) (by first | decide | omega) ⟨rfl, rfl, 1, rfl, (by first | decide | omega)⟩
set_option maxRecDepth 100000 in
set_option maxHeartbeats 4000000 in
theorem c_counts_Ent (E : En) (S : Sg) (G : Gh) (this : Int) (asof : Int) (hS : S this = 141) (asof_a : (-2147483648) ≤ asof) (asof_b : asof ≤ 2147483647) : Calls E mX10_counts [(2, this), (0, asof)] S G 0 0 0 (fun r S' G' => S = S' ∧ G = G' ∧ ∃ z : Int, r = some (0, z) ∧ 0 ≤ z ∧ z ≤ 1) := by
  refine calls_by [(0, (2, this)), (1, (0, asof))] rfl rfl (Nat.le_of_ble_eq_true rfl) (fun X hX => ?_)
  have hP := hPX10_counts
  refine r_ex hX hP 1 (pc' := 1) (st' := [(2, this)]) (lo' := [(0, (2, this)), (1, (0, asof))]) rfl ?_
  refine r_getI hX hP rfl fl_X10_15_141 hS (fun kf1 kf1e kf1a kf1b => ?_)
  refine r_ex hX hP 1 (pc' := 5) (st' := [(0, asof), (0, kf1)]) (lo' := [(0, (2, this)), (1, (0, asof))]) rfl ?_
  refine r_ic_gt hX hP rfl (tgt := 28) rfl (by first | decide | omega) (by first | decide | omega) (by first | decide | omega) (by first | decide | omega) (fun c2 => ?_) (fun c2 => ?_)
  · skip
    refine r_ex hX hP 1 (pc' := 29) (st' := [(0, 0)]) (lo' := [(0, (2, this)), (1, (0, asof))]) rfl ?_
    exact r_retZ hX hP rfl rfl (by first | decide | omega) (by first | decide | omega) (by first | decide | omega) (by first | decide | omega) ⟨rfl, rfl, 0, rfl, (by first | decide | omega)⟩
  · skip
    refine r_ex hX hP 1 (pc' := 9) (st' := [(2, this)]) (lo' := [(0, (2, this)), (1, (0, asof))]) rfl ?_
    refine r_getI hX hP rfl fl_X10_9_141 hS (fun sf3 sf3e sf3a sf3b => ?_)
    refine r_ex hX hP 1 (pc' := 13) (st' := [(0, (-1)), (0, sf3)]) (lo' := [(0, (2, this)), (1, (0, asof))]) rfl ?_
    refine r_ic_eq hX hP rfl (tgt := 24) rfl (by first | decide | omega) (by first | decide | omega) (by first | decide | omega) (by first | decide | omega) (fun c4 => ?_) (fun c4 => ?_)
    · skip
      refine r_ex hX hP 2 (pc' := 29) (st' := [(0, 1)]) (lo' := [(0, (2, this)), (1, (0, asof))]) rfl ?_
      exact r_retZ hX hP rfl rfl (by first | decide | omega) (by first | decide | omega) (by first | decide | omega) (by first | decide | omega) ⟨rfl, rfl, 1, rfl, (by first | decide | omega)⟩
    · skip
      refine r_ex hX hP 1 (pc' := 17) (st' := [(2, this)]) (lo' := [(0, (2, this)), (1, (0, asof))]) rfl ?_
      refine r_getKI hX hP rfl fl_X10_9_141 hS (x := sf3) sf3e ?_
      refine r_ex hX hP 1 (pc' := 21) (st' := [(0, asof), (0, sf3)]) (lo' := [(0, (2, this)), (1, (0, asof))]) rfl ?_
      refine r_ic_le hX hP rfl (tgt := 28) rfl (by first | decide | omega) (by first | decide | omega) (by first | decide | omega) (by first | decide | omega) (fun c5 => ?_) (fun c5 => ?_)
      · skip
        refine r_ex hX hP 1 (pc' := 29) (st' := [(0, 0)]) (lo' := [(0, (2, this)), (1, (0, asof))]) rfl ?_
        exact r_retZ hX hP rfl rfl (by first | decide | omega) (by first | decide | omega) (by first | decide | omega) (by first | decide | omega) ⟨rfl, rfl, 0, rfl, (by first | decide | omega)⟩
      · skip
        refine r_ex hX hP 2 (pc' := 29) (st' := [(0, 1)]) (lo' := [(0, (2, this)), (1, (0, asof))]) rfl ?_
        exact r_retZ hX hP rfl rfl (by first | decide | omega) (by first | decide | omega) (by first | decide | omega) (by first | decide | omega) ⟨rfl, rfl, 1, rfl, (by first | decide | omega)⟩
