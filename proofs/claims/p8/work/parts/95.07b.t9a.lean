set_option maxRecDepth 100000 in
set_option maxHeartbeats 4000000 in
theorem c_X12_next0 (E : En) (S : Sg) (G : Gh) (hS : S (Ad E 1) = 1) (TT : Tp) (nn a0 : Int) (sr : Rg) (rd : RdM0 E TT nn a0 sr G) : Calls E mX12_next [(2, (Ad E 1))] S G 1 0 0 (fun r S' G' => S = S' ∧ (∃ G1, hv [82, 83, 84, 85, 86, 87] [] G G1 = G') ∧ r = none ∧ RdM E TT nn (ud sr 0 a0) G') := by
  refine calls_by [(0, (2, (Ad E 1)))] rfl rfl (Nat.le_of_ble_eq_true rfl) (fun X hX => ?_)
  have hP := hPX12_next
  have k1 := rn_n4 rd
  have k2 := rn_a0 rd
  have k3 := rn_a1 rd
  refine r_ex hX hP 2 (pc' := 2) (st' := [(2, (Ad E 1)), (2, (Ad E 1))]) (lo' := [(0, (2, (Ad E 1)))]) rfl ?_
  refine r_getI hX hP rfl fl_12_349 hS (fun bf4 bf4e bf4a bf4b => ?_)
  have k5 := rn_beh rd
  have k5 := bf4e.trans k5
  refine r_putIK hX hP rfl fp_12_352 hS (by first | decide | omega) (by first | decide | omega) (fun h6 => ?_)
  have x58 : ∀ (at_x58 : Int) (Gx58 : Gh), at_x58 = (hv [83] [] (up G 1 (Ad E 1) 83 bf4) Gx58) 1 (Ad E 1) 83 → 0 ≤ at_x58 → at_x58 ≤ 400 → scn cB TT nn a0 = at_x58 → at_x58 ≤ nn → X 0 0 58 [] [(0, (2, (Ad E 1)))] S (hv [83] [] (up G 1 (Ad E 1) 83 bf4) Gx58) := by
    intro at_x58 Gx58 at_x58_e yx58_0 yx58_1 yx58_2 yx58_3
    refine r_ex hX hP 2 (pc' := 60) (st' := [(2, (Ad E 1)), (2, (Ad E 1))]) (lo' := [(0, (2, (Ad E 1)))]) rfl ?_
    refine r_getKI hX hP rfl fl_12_352 hS (x := at_x58) at_x58_e ?_
    refine r_putIK hX hP rfl fp_12_349 hS (by first | decide | omega) (by first | decide | omega) (fun h7 => ?_)
    refine r_ex hX hP 1 (pc' := 67) (st' := [(2, (Ad E 1))]) (lo' := [(0, (2, (Ad E 1)))]) rfl ?_
    refine r_getKI hX hP rfl fl_12_352 hS (x := at_x58) at_x58_e ?_
    refine r_ex hX hP 1 (pc' := 71) (st' := [(2, (Ad E 1)), (0, at_x58)]) (lo' := [(0, (2, (Ad E 1)))]) rfl ?_
    refine r_getI hX hP rfl fl_12_346 hS (fun tf8 tf8e tf8a tf8b => ?_)
    have k9 := rn_end rd
    have k9 := tf8e.trans k9
    refine r_ic_lt hX hP rfl (tgt := 83) rfl (by first | decide | omega) (by first | decide | omega) (by first | decide | omega) (by first | decide | omega) (fun c10 => ?_) (fun c10 => ?_)
    · skip
      refine r_ex hX hP 2 (pc' := 85) (st' := [(2, (Ad E 1)), (2, (Ad E 1))]) (lo' := [(0, (2, (Ad E 1)))]) rfl ?_
      refine r_getKI hX hP rfl fl_12_352 hS (x := at_x58) at_x58_e ?_
      refine r_callV gd hX hP rfl cv_12_355 hS (d' := 0) (mc' := 0) (ms' := 0) (as' := [(0, at_x58)]) (st := []) (by first | decide | omega) (by first | decide | omega) (by first | decide | omega) rfl rfl (Nat.le_of_ble_eq_true rfl) (c_X12_lookR E S (up (hv [83] [] (up G 1 (Ad E 1) 83 bf4) Gx58) 1 (Ad E 1) 84 at_x58) at_x58 hS tf8 tf8e (by first | decide | omega) (by first | decide | omega) TT nn (rn_tape rd : _) (by first | decide | omega)) ?_
      rintro _ _ _ ⟨rfl, rfl, z11, rfl, (⟨z11a, z11b, f12, f13⟩ | ⟨rfl, f14⟩)⟩
      · skip
        refine r_ex hX hP 2 (pc' := 93) (st' := [(0, z11)]) (lo' := [(0, (2, (Ad E 1))), (1, (0, z11))]) rfl ?_
        refine r_callS gd hX hP rfl cs_12_361 (d' := 0) (mc' := 0) (ms' := 0) (as' := [(0, z11)]) (st := []) (by first | decide | omega) (by first | decide | omega) (by first | decide | omega) rfl rfl (Nat.le_of_ble_eq_true rfl) (c_X12_isLetter E S (up (hv [83] [] (up G 1 (Ad E 1) 83 bf4) Gx58) 1 (Ad E 1) 84 at_x58) z11 (by first | decide | omega) (by first | decide | omega)) ?_
        rintro _ _ _ ⟨rfl, rfl, z15, rfl, (⟨rfl, f16, f17⟩ | ⟨rfl, f18⟩)⟩
        · skip
          refine r_if_eq hX hP rfl (tgt := 198) rfl (by first | decide | omega) (by first | decide | omega) (fun c19 => ?_) (fun c19 => ?_)
          · skip
            exfalso; omega
          · skip
            have k20 := wd_zero (T := TT) (s := at_x58)
            refine r_ex hX hP 2 (pc' := 101) (st' := [(0, 1), (2, (Ad E 1))]) (lo' := [(0, (2, (Ad E 1))), (1, (0, z11))]) rfl ?_
            refine r_putIK hX hP rfl fp_12_358 hS (by first | decide | omega) (by first | decide | omega) (fun h21 => ?_)
            refine r_ex hX hP 2 (pc' := 106) (st' := [(1, 0), (2, (Ad E 1))]) (lo' := [(0, (2, (Ad E 1))), (1, (0, z11))]) rfl ?_
            refine r_putLK hX hP rfl fp_12_364 hS (by first | decide | omega) (by first | decide | omega) (fun h22 => ?_)
            have x182 : ∀ (behind_x182 word_x182 : Int) (Gx182 : Gh), behind_x182 = (hv [84, 87] [] (up (up (up (hv [83] [] (up G 1 (Ad E 1) 83 bf4) Gx58) 1 (Ad E 1) 84 at_x58) 1 (Ad E 1) 82 1) 1 (Ad E 1) 87 0) Gx182) 1 (Ad E 1) 84 → word_x182 = (hv [84, 87] [] (up (up (up (hv [83] [] (up G 1 (Ad E 1) 83 bf4) Gx58) 1 (Ad E 1) 84 at_x58) 1 (Ad E 1) 82 1) 1 (Ad E 1) 87 0) Gx182) 1 (Ad E 1) 87 → 0 ≤ behind_x182 → behind_x182 ≤ 400 → (-9223372036854775808) ≤ word_x182 → word_x182 ≤ 9223372036854775807 → scn cL TT nn at_x58 = behind_x182 → behind_x182 ≤ nn → at_x58 ≤ behind_x182 → word_x182 = wd TT at_x58 behind_x182 → X 0 0 182 [] [(0, (2, (Ad E 1))), (1, (0, z11))] S (hv [84, 87] [] (up (up (up (hv [83] [] (up G 1 (Ad E 1) 83 bf4) Gx58) 1 (Ad E 1) 84 at_x58) 1 (Ad E 1) 82 1) 1 (Ad E 1) 87 0) Gx182) := by
              intro behind_x182 word_x182 Gx182 behind_x182_e word_x182_e yx182_0 yx182_1 yx182_2 yx182_3 yx182_4 yx182_5 yx182_6 yx182_7
              refine r_ex hX hP 2 (pc' := 184) (st' := [(2, (Ad E 1)), (2, (Ad E 1))]) (lo' := [(0, (2, (Ad E 1))), (1, (0, z11))]) rfl ?_
              refine r_getKI hX hP rfl fl_12_349 hS (x := behind_x182) behind_x182_e ?_
              refine r_ex hX hP 1 (pc' := 188) (st' := [(2, (Ad E 1)), (0, behind_x182), (2, (Ad E 1))]) (lo' := [(0, (2, (Ad E 1))), (1, (0, z11))]) rfl ?_
              refine r_getKI hX hP rfl fl_12_352 hS (x := at_x58) at_x58_e ?_
              refine r_ex hX hP 1 (pc' := 192) (st' := [(0, (behind_x182 - at_x58)), (2, (Ad E 1))]) (lo' := [(0, (2, (Ad E 1))), (1, (0, z11))]) rfl ?_
              refine r_putIK hX hP rfl fp_12_373 hS (by first | decide | omega) (by first | decide | omega) (fun h23 => ?_)
              refine r_ex hX hP 1 (pc' := 354) (st' := []) (lo' := [(0, (2, (Ad E 1))), (1, (0, z11))]) rfl ?_
              have h24S : tkS TT nn a0 = at_x58 := (show scn cB TT nn a0 = at_x58 from by omega)
              obtain ⟨h24K, h24E⟩ := tk_wd (e := behind_x182) h24S (by first | decide | omega) (by first | decide | omega) (by first | decide | omega) (by first | decide | omega)
              have h24O := srt_or (tkK TT nn a0)
              have h24W : word_x182 = wd TT (tkS TT nn a0) (tkE TT nn a0) := by rw [h24S, h24E]; omega
              have rd25 : RdM E TT nn (ud sr 0 a0) (up (hv [84, 87] [] (up (up (up (hv [83] [] (up G 1 (Ad E 1) 83 bf4) Gx58) 1 (Ad E 1) 84 at_x58) 1 (Ad E 1) 82 1) 1 (Ad E 1) 87 0) Gx182) 1 (Ad E 1) 86 (behind_x182 - at_x58)) := rm_mk (rn_tape rd : _) (rn_end rd : _) (at_x58_e.symm.trans h24S.symm) (behind_x182_e.symm.trans (show behind_x182 = tkE TT nn a0 from by omega)) (h21.symm.trans (show 1 = srt (tkK TT nn a0) from by omega)) (Or.inl (show tkK TT nn a0 ≠ 2 from by omega)) (Or.inl (show tkK TT nn a0 ≤ 3 from by omega)) (Or.inr (word_x182_e.symm.trans h24W)) (Or.inr (h23.symm.trans (show (behind_x182 - at_x58) = tkE TT nn a0 - tkS TT nn a0 from by omega))) (rn_bad rd : _) (rn_bat rd : _) (rn_nm rd : _) (rn_nc rd : _) (rn_nd rd : _) (rn_ti rd : _) (rn_to rd : _) (rn_w0 rd : _) (rn_w1 rd : _) (rn_w2 rd : _) (rn_q0 rd : _) (rn_q1 rd : _) (rn_q2 rd : _) (rn_z0 rd : _) (rn_z1 rd : _) (rn_z2 rd : _) (rn_nv rd : _) (show 0 ≤ a0 from by omega) (show a0 ≤ nn from by omega) (rn_n4 rd : _) (rn_c3 rd : _)
              exact r_retV hX hP rfl rfl (by first | decide | omega) (by first | decide | omega) ⟨rfl, ⟨_, (hq_up (hq_loop (hq_up (hq_up (hq_up (hq_loop (hq_up (hq_refl _ _ _) rfl) rfl) rfl) rfl) rfl) rfl) rfl).symm⟩, rfl, rd25⟩
            have loop109 : ∀ (nF : Nat) (behind_h109 word_h109 : Int) (Gh109 : Gh), behind_h109 = (hv [84, 87] [] (up (up (up (hv [83] [] (up G 1 (Ad E 1) 83 bf4) Gx58) 1 (Ad E 1) 84 at_x58) 1 (Ad E 1) 82 1) 1 (Ad E 1) 87 0) Gh109) 1 (Ad E 1) 84 → word_h109 = (hv [84, 87] [] (up (up (up (hv [83] [] (up G 1 (Ad E 1) 83 bf4) Gx58) 1 (Ad E 1) 84 at_x58) 1 (Ad E 1) 82 1) 1 (Ad E 1) 87 0) Gh109) 1 (Ad E 1) 87 → 0 ≤ behind_h109 → behind_h109 ≤ 400 → (-9223372036854775808) ≤ word_h109 → word_h109 ≤ 9223372036854775807 → scn cL TT nn behind_h109 = scn cL TT nn at_x58 → behind_h109 ≤ nn → at_x58 ≤ behind_h109 → word_h109 = wd TT at_x58 behind_h109 → 400 - behind_h109 < (nF : Int) → X 0 0 109 [] [(0, (2, (Ad E 1))), (1, (0, z11))] S (hv [84, 87] [] (up (up (up (hv [83] [] (up G 1 (Ad E 1) 83 bf4) Gx58) 1 (Ad E 1) 84 at_x58) 1 (Ad E 1) 82 1) 1 (Ad E 1) 87 0) Gh109) := by
              intro nF
              induction nF with
              | zero => intro behind_h109 word_h109 Gh109 behind_h109_e word_h109_e yh109_0 yh109_1 yh109_2 yh109_3 yh109_4 yh109_5 yh109_6 yh109_7 ym109; exfalso; omega
              | succ nF ih109 =>
                intro behind_h109 word_h109 Gh109 behind_h109_e word_h109_e yh109_0 yh109_1 yh109_2 yh109_3 yh109_4 yh109_5 yh109_6 yh109_7 ym109
                have k26 := scn_orL (T := TT) (n := nn) (p := behind_h109)
                have k27 := scn_ge cL TT nn behind_h109
                have k28 := wd_bdo (T := TT) (n := nn) (s := at_x58) (e := behind_h109) (by first | decide | omega) (by first | decide | omega)
                have k29 := wd_or (T := TT) (s := at_x58) (e := behind_h109) (by first | decide | omega)
                refine r_ex hX hP 2 (pc' := 111) (st' := [(2, (Ad E 1)), (2, (Ad E 1))]) (lo' := [(0, (2, (Ad E 1))), (1, (0, z11))]) rfl ?_
                refine r_getKI hX hP rfl fl_12_349 hS (x := behind_h109) behind_h109_e ?_
                refine r_callV gd hX hP rfl cv_12_355 hS (d' := 0) (mc' := 0) (ms' := 0) (as' := [(0, behind_h109)]) (st := []) (by first | decide | omega) (by first | decide | omega) (by first | decide | omega) rfl rfl (Nat.le_of_ble_eq_true rfl) (c_X12_lookR E S (hv [84, 87] [] (up (up (up (hv [83] [] (up G 1 (Ad E 1) 83 bf4) Gx58) 1 (Ad E 1) 84 at_x58) 1 (Ad E 1) 82 1) 1 (Ad E 1) 87 0) Gh109) behind_h109 hS tf8 tf8e (by first | decide | omega) (by first | decide | omega) TT nn (rn_tape rd : _) (by first | decide | omega)) ?_
                rintro _ _ _ ⟨rfl, rfl, z30, rfl, (⟨z30a, z30b, f31, f32⟩ | ⟨rfl, f33⟩)⟩
                · skip
                  refine r_callS gd hX hP rfl cs_12_361 (d' := 0) (mc' := 0) (ms' := 0) (as' := [(0, z30)]) (st := []) (by first | decide | omega) (by first | decide | omega) (by first | decide | omega) rfl rfl (Nat.le_of_ble_eq_true rfl) (c_X12_isLetter E S (hv [84, 87] [] (up (up (up (hv [83] [] (up G 1 (Ad E 1) 83 bf4) Gx58) 1 (Ad E 1) 84 at_x58) 1 (Ad E 1) 82 1) 1 (Ad E 1) 87 0) Gh109) z30 (by first | decide | omega) (by first | decide | omega)) ?_
                  rintro _ _ _ ⟨rfl, rfl, z34, rfl, (⟨rfl, f35, f36⟩ | ⟨rfl, f37⟩)⟩
                  · skip
                    refine r_if_eq hX hP rfl (tgt := 182) rfl (by first | decide | omega) (by first | decide | omega) (fun c38 => ?_) (fun c38 => ?_)
                    · skip
                      exfalso; omega
                    · skip
                      refine r_ex hX hP 2 (pc' := 125) (st' := [(2, (Ad E 1)), (2, (Ad E 1))]) (lo' := [(0, (2, (Ad E 1))), (1, (0, z11))]) rfl ?_
                      refine r_getKI hX hP rfl fl_12_349 hS (x := behind_h109) behind_h109_e ?_
                      refine r_ex hX hP 1 (pc' := 129) (st' := [(2, (Ad E 1)), (0, behind_h109), (2, (Ad E 1))]) (lo' := [(0, (2, (Ad E 1))), (1, (0, z11))]) rfl ?_
                      refine r_getKI hX hP rfl fl_12_352 hS (x := at_x58) at_x58_e ?_
                      refine r_ex hX hP 2 (pc' := 135) (st' := [(0, 12), (0, (behind_h109 - at_x58)), (2, (Ad E 1))]) (lo' := [(0, (2, (Ad E 1))), (1, (0, z11))]) rfl ?_
                      refine r_ic_ge hX hP rfl (tgt := 163) rfl (by first | decide | omega) (by first | decide | omega) (by first | decide | omega) (by first | decide | omega) (fun c39 => ?_) (fun c39 => ?_)
                      · skip
                        refine r_ldc2 hX hP rfl (v := (-1)) (tbg sg9 135 rfl rfl) ?_
                        refine r_putLK hX hP rfl fp_12_364 hS (by first | decide | omega) (by first | decide | omega) (fun h40 => ?_)
                        refine r_ex hX hP 2 (pc' := 171) (st' := [(2, (Ad E 1)), (2, (Ad E 1))]) (lo' := [(0, (2, (Ad E 1))), (1, (0, z11))]) rfl ?_
                        refine r_getKI hX hP rfl fl_12_349 hS (x := behind_h109) behind_h109_e ?_
                        refine r_ex hX hP 2 (pc' := 176) (st' := [(0, (behind_h109 + 1)), (2, (Ad E 1))]) (lo' := [(0, (2, (Ad E 1))), (1, (0, z11))]) rfl ?_
                        refine r_putIK hX hP rfl fp_12_349 hS (by first | decide | omega) (by first | decide | omega) (fun h41 => ?_)
                        refine r_ex hX hP 1 (pc' := 109) (st' := []) (lo' := [(0, (2, (Ad E 1))), (1, (0, z11))]) rfl ?_
                        refine r_eqG (X := X) (hq_up (hq_up (hq_base _ _ _ _) rfl) rfl) ?_
                        exact ih109 (behind_h109 + 1) (-1) _ h41 h40 (by first | decide | omega) (by first | decide | omega) (by first | decide | omega) (by first | decide | omega) (by first | decide | omega) (by first | decide | omega) (by first | decide | omega) (by first | decide | omega) (by first | decide | omega)
                      · skip
                        refine r_ex hX hP 1 (pc' := 139) (st' := [(2, (Ad E 1)), (2, (Ad E 1))]) (lo' := [(0, (2, (Ad E 1))), (1, (0, z11))]) rfl ?_
                        refine r_getKL hX hP rfl fl_12_364 hS (x := word_h109) word_h109_e ?_
                        refine r_ldc2 hX hP rfl (v := 32) (tbg sg9 133 rfl rfl) ?_
                        refine r_ex hX hP 3 (pc' := 148) (st' := [(2, (Ad E 1)), (2, (Ad E 1)), (1, (word_h109 * 32)), (2, (Ad E 1))]) (lo' := [(0, (2, (Ad E 1))), (1, (0, z11))]) rfl ?_
                        refine r_getKI hX hP rfl fl_12_349 hS (x := behind_h109) behind_h109_e ?_
                        refine r_callV gd hX hP rfl cv_12_355 hS (d' := 0) (mc' := 0) (ms' := 0) (as' := [(0, behind_h109)]) (st := [(1, (word_h109 * 32)), (2, (Ad E 1))]) (by first | decide | omega) (by first | decide | omega) (by first | decide | omega) rfl rfl (Nat.le_of_ble_eq_true rfl) (c_X12_lookR E S (hv [84, 87] [] (up (up (up (hv [83] [] (up G 1 (Ad E 1) 83 bf4) Gx58) 1 (Ad E 1) 84 at_x58) 1 (Ad E 1) 82 1) 1 (Ad E 1) 87 0) Gh109) behind_h109 hS tf8 tf8e (by first | decide | omega) (by first | decide | omega) TT nn (rn_tape rd : _) (by first | decide | omega)) ?_
                        rintro _ _ _ ⟨rfl, rfl, z42, rfl, (⟨z42a, z42b, f43, f44⟩ | ⟨rfl, f45⟩)⟩
                        · skip
                          refine r_i2l hX hP rfl (by first | decide | omega) (by first | decide | omega) ?_
                          refine r_ex hX hP 1 (pc' := 156) (st' := [(1, ((word_h109 * 32) + z42)), (2, (Ad E 1))]) (lo' := [(0, (2, (Ad E 1))), (1, (0, z11))]) rfl ?_
                          refine r_ldc2 hX hP rfl (v := 96) (tbg sg9 134 rfl rfl) ?_
                          refine r_ex hX hP 2 (pc' := 166) (st' := [(1, (((word_h109 * 32) + z42) - 96)), (2, (Ad E 1))]) (lo' := [(0, (2, (Ad E 1))), (1, (0, z11))]) rfl ?_
                          refine r_putLK hX hP rfl fp_12_364 hS (by first | decide | omega) (by first | decide | omega) (fun h46 => ?_)
                          refine r_ex hX hP 2 (pc' := 171) (st' := [(2, (Ad E 1)), (2, (Ad E 1))]) (lo' := [(0, (2, (Ad E 1))), (1, (0, z11))]) rfl ?_
                          refine r_getKI hX hP rfl fl_12_349 hS (x := behind_h109) behind_h109_e ?_
                          refine r_ex hX hP 2 (pc' := 176) (st' := [(0, (behind_h109 + 1)), (2, (Ad E 1))]) (lo' := [(0, (2, (Ad E 1))), (1, (0, z11))]) rfl ?_
                          refine r_putIK hX hP rfl fp_12_349 hS (by first | decide | omega) (by first | decide | omega) (fun h47 => ?_)
                          refine r_ex hX hP 1 (pc' := 109) (st' := []) (lo' := [(0, (2, (Ad E 1))), (1, (0, z11))]) rfl ?_
                          refine r_eqG (X := X) (hq_up (hq_up (hq_base _ _ _ _) rfl) rfl) ?_
                          exact ih109 (behind_h109 + 1) (((word_h109 * 32) + z42) - 96) _ h47 h46 (by first | decide | omega) (by first | decide | omega) (by first | decide | omega) (by first | decide | omega) (by first | decide | omega) (by first | decide | omega) (by first | decide | omega) (by first | decide | omega) (by first | decide | omega)
                        · skip
                          refine r_i2l hX hP rfl (by first | decide | omega) (by first | decide | omega) ?_
                          refine r_ex hX hP 1 (pc' := 156) (st' := [(1, ((word_h109 * 32) + 0)), (2, (Ad E 1))]) (lo' := [(0, (2, (Ad E 1))), (1, (0, z11))]) rfl ?_
                          refine r_ldc2 hX hP rfl (v := 96) (tbg sg9 134 rfl rfl) ?_
                          refine r_ex hX hP 2 (pc' := 166) (st' := [(1, (((word_h109 * 32) + 0) - 96)), (2, (Ad E 1))]) (lo' := [(0, (2, (Ad E 1))), (1, (0, z11))]) rfl ?_
                          refine r_putLK hX hP rfl fp_12_364 hS (by first | decide | omega) (by first | decide | omega) (fun h48 => ?_)
                          refine r_ex hX hP 2 (pc' := 171) (st' := [(2, (Ad E 1)), (2, (Ad E 1))]) (lo' := [(0, (2, (Ad E 1))), (1, (0, z11))]) rfl ?_
                          refine r_getKI hX hP rfl fl_12_349 hS (x := behind_h109) behind_h109_e ?_
                          refine r_ex hX hP 2 (pc' := 176) (st' := [(0, (behind_h109 + 1)), (2, (Ad E 1))]) (lo' := [(0, (2, (Ad E 1))), (1, (0, z11))]) rfl ?_
                          refine r_putIK hX hP rfl fp_12_349 hS (by first | decide | omega) (by first | decide | omega) (fun h49 => ?_)
                          refine r_ex hX hP 1 (pc' := 109) (st' := []) (lo' := [(0, (2, (Ad E 1))), (1, (0, z11))]) rfl ?_
                          refine r_eqG (X := X) (hq_up (hq_up (hq_base _ _ _ _) rfl) rfl) ?_
                          exact ih109 (behind_h109 + 1) (((word_h109 * 32) + 0) - 96) _ h49 h48 (by first | decide | omega) (by first | decide | omega) (by first | decide | omega) (by first | decide | omega) (by first | decide | omega) (by first | decide | omega) (by first | decide | omega) (by first | decide | omega) (by first | decide | omega)
                  · skip
                    refine r_if_eq hX hP rfl (tgt := 182) rfl (by first | decide | omega) (by first | decide | omega) (fun c50 => ?_) (fun c50 => ?_)
                    · skip
                      refine r_eqG (X := X) (hq_loop (hq_refl [84, 87] [] _) rfl) ?_
                      exact x182 behind_h109 word_h109 _ behind_h109_e word_h109_e (by first | decide | omega) (by first | decide | omega) (by first | decide | omega) (by first | decide | omega) (by first | decide | omega) (by first | decide | omega) (by first | decide | omega) (by first | decide | omega)
                    · skip
                      exfalso; omega
                · skip
                  refine r_callS gd hX hP rfl cs_12_361 (d' := 0) (mc' := 0) (ms' := 0) (as' := [(0, 0)]) (st := []) (by first | decide | omega) (by first | decide | omega) (by first | decide | omega) rfl rfl (Nat.le_of_ble_eq_true rfl) (c_X12_isLetter E S (hv [84, 87] [] (up (up (up (hv [83] [] (up G 1 (Ad E 1) 83 bf4) Gx58) 1 (Ad E 1) 84 at_x58) 1 (Ad E 1) 82 1) 1 (Ad E 1) 87 0) Gh109) 0 (by first | decide | omega) (by first | decide | omega)) ?_
                  rintro _ _ _ ⟨rfl, rfl, z51, rfl, (⟨rfl, f52, f53⟩ | ⟨rfl, f54⟩)⟩
                  · skip
                    refine r_if_eq hX hP rfl (tgt := 182) rfl (by first | decide | omega) (by first | decide | omega) (fun c55 => ?_) (fun c55 => ?_)
                    · skip
                      exfalso; omega
                    · skip
                      refine r_ex hX hP 2 (pc' := 125) (st' := [(2, (Ad E 1)), (2, (Ad E 1))]) (lo' := [(0, (2, (Ad E 1))), (1, (0, z11))]) rfl ?_
                      refine r_getKI hX hP rfl fl_12_349 hS (x := behind_h109) behind_h109_e ?_
                      refine r_ex hX hP 1 (pc' := 129) (st' := [(2, (Ad E 1)), (0, behind_h109), (2, (Ad E 1))]) (lo' := [(0, (2, (Ad E 1))), (1, (0, z11))]) rfl ?_
                      refine r_getKI hX hP rfl fl_12_352 hS (x := at_x58) at_x58_e ?_
                      refine r_ex hX hP 2 (pc' := 135) (st' := [(0, 12), (0, (behind_h109 - at_x58)), (2, (Ad E 1))]) (lo' := [(0, (2, (Ad E 1))), (1, (0, z11))]) rfl ?_
                      refine r_ic_ge hX hP rfl (tgt := 163) rfl (by first | decide | omega) (by first | decide | omega) (by first | decide | omega) (by first | decide | omega) (fun c56 => ?_) (fun c56 => ?_)
                      · skip
                        refine r_ldc2 hX hP rfl (v := (-1)) (tbg sg9 135 rfl rfl) ?_
                        refine r_putLK hX hP rfl fp_12_364 hS (by first | decide | omega) (by first | decide | omega) (fun h57 => ?_)
                        refine r_ex hX hP 2 (pc' := 171) (st' := [(2, (Ad E 1)), (2, (Ad E 1))]) (lo' := [(0, (2, (Ad E 1))), (1, (0, z11))]) rfl ?_
                        refine r_getKI hX hP rfl fl_12_349 hS (x := behind_h109) behind_h109_e ?_
                        refine r_ex hX hP 2 (pc' := 176) (st' := [(0, (behind_h109 + 1)), (2, (Ad E 1))]) (lo' := [(0, (2, (Ad E 1))), (1, (0, z11))]) rfl ?_
                        refine r_putIK hX hP rfl fp_12_349 hS (by first | decide | omega) (by first | decide | omega) (fun h58 => ?_)
                        refine r_ex hX hP 1 (pc' := 109) (st' := []) (lo' := [(0, (2, (Ad E 1))), (1, (0, z11))]) rfl ?_
                        refine r_eqG (X := X) (hq_up (hq_up (hq_base _ _ _ _) rfl) rfl) ?_
                        exact ih109 (behind_h109 + 1) (-1) _ h58 h57 (by first | decide | omega) (by first | decide | omega) (by first | decide | omega) (by first | decide | omega) (by first | decide | omega) (by first | decide | omega) (by first | decide | omega) (by first | decide | omega) (by first | decide | omega)
                      · skip
                        refine r_ex hX hP 1 (pc' := 139) (st' := [(2, (Ad E 1)), (2, (Ad E 1))]) (lo' := [(0, (2, (Ad E 1))), (1, (0, z11))]) rfl ?_
                        refine r_getKL hX hP rfl fl_12_364 hS (x := word_h109) word_h109_e ?_
                        refine r_ldc2 hX hP rfl (v := 32) (tbg sg9 133 rfl rfl) ?_
                        refine r_ex hX hP 3 (pc' := 148) (st' := [(2, (Ad E 1)), (2, (Ad E 1)), (1, (word_h109 * 32)), (2, (Ad E 1))]) (lo' := [(0, (2, (Ad E 1))), (1, (0, z11))]) rfl ?_
                        refine r_getKI hX hP rfl fl_12_349 hS (x := behind_h109) behind_h109_e ?_
                        refine r_callV gd hX hP rfl cv_12_355 hS (d' := 0) (mc' := 0) (ms' := 0) (as' := [(0, behind_h109)]) (st := [(1, (word_h109 * 32)), (2, (Ad E 1))]) (by first | decide | omega) (by first | decide | omega) (by first | decide | omega) rfl rfl (Nat.le_of_ble_eq_true rfl) (c_X12_lookR E S (hv [84, 87] [] (up (up (up (hv [83] [] (up G 1 (Ad E 1) 83 bf4) Gx58) 1 (Ad E 1) 84 at_x58) 1 (Ad E 1) 82 1) 1 (Ad E 1) 87 0) Gh109) behind_h109 hS tf8 tf8e (by first | decide | omega) (by first | decide | omega) TT nn (rn_tape rd : _) (by first | decide | omega)) ?_
                        rintro _ _ _ ⟨rfl, rfl, z59, rfl, (⟨z59a, z59b, f60, f61⟩ | ⟨rfl, f62⟩)⟩
                        · skip
                          refine r_i2l hX hP rfl (by first | decide | omega) (by first | decide | omega) ?_
                          refine r_ex hX hP 1 (pc' := 156) (st' := [(1, ((word_h109 * 32) + z59)), (2, (Ad E 1))]) (lo' := [(0, (2, (Ad E 1))), (1, (0, z11))]) rfl ?_
                          refine r_ldc2 hX hP rfl (v := 96) (tbg sg9 134 rfl rfl) ?_
                          refine r_ex hX hP 2 (pc' := 166) (st' := [(1, (((word_h109 * 32) + z59) - 96)), (2, (Ad E 1))]) (lo' := [(0, (2, (Ad E 1))), (1, (0, z11))]) rfl ?_
                          refine r_putLK hX hP rfl fp_12_364 hS (by first | decide | omega) (by first | decide | omega) (fun h63 => ?_)
                          refine r_ex hX hP 2 (pc' := 171) (st' := [(2, (Ad E 1)), (2, (Ad E 1))]) (lo' := [(0, (2, (Ad E 1))), (1, (0, z11))]) rfl ?_
                          refine r_getKI hX hP rfl fl_12_349 hS (x := behind_h109) behind_h109_e ?_
                          refine r_ex hX hP 2 (pc' := 176) (st' := [(0, (behind_h109 + 1)), (2, (Ad E 1))]) (lo' := [(0, (2, (Ad E 1))), (1, (0, z11))]) rfl ?_
                          refine r_putIK hX hP rfl fp_12_349 hS (by first | decide | omega) (by first | decide | omega) (fun h64 => ?_)
                          refine r_ex hX hP 1 (pc' := 109) (st' := []) (lo' := [(0, (2, (Ad E 1))), (1, (0, z11))]) rfl ?_
                          refine r_eqG (X := X) (hq_up (hq_up (hq_base _ _ _ _) rfl) rfl) ?_
                          exact ih109 (behind_h109 + 1) (((word_h109 * 32) + z59) - 96) _ h64 h63 (by first | decide | omega) (by first | decide | omega) (by first | decide | omega) (by first | decide | omega) (by first | decide | omega) (by first | decide | omega) (by first | decide | omega) (by first | decide | omega) (by first | decide | omega)
                        · skip
                          refine r_i2l hX hP rfl (by first | decide | omega) (by first | decide | omega) ?_
                          refine r_ex hX hP 1 (pc' := 156) (st' := [(1, ((word_h109 * 32) + 0)), (2, (Ad E 1))]) (lo' := [(0, (2, (Ad E 1))), (1, (0, z11))]) rfl ?_
                          refine r_ldc2 hX hP rfl (v := 96) (tbg sg9 134 rfl rfl) ?_
                          refine r_ex hX hP 2 (pc' := 166) (st' := [(1, (((word_h109 * 32) + 0) - 96)), (2, (Ad E 1))]) (lo' := [(0, (2, (Ad E 1))), (1, (0, z11))]) rfl ?_
                          refine r_putLK hX hP rfl fp_12_364 hS (by first | decide | omega) (by first | decide | omega) (fun h65 => ?_)
                          refine r_ex hX hP 2 (pc' := 171) (st' := [(2, (Ad E 1)), (2, (Ad E 1))]) (lo' := [(0, (2, (Ad E 1))), (1, (0, z11))]) rfl ?_
                          refine r_getKI hX hP rfl fl_12_349 hS (x := behind_h109) behind_h109_e ?_
                          refine r_ex hX hP 2 (pc' := 176) (st' := [(0, (behind_h109 + 1)), (2, (Ad E 1))]) (lo' := [(0, (2, (Ad E 1))), (1, (0, z11))]) rfl ?_
                          refine r_putIK hX hP rfl fp_12_349 hS (by first | decide | omega) (by first | decide | omega) (fun h66 => ?_)
                          refine r_ex hX hP 1 (pc' := 109) (st' := []) (lo' := [(0, (2, (Ad E 1))), (1, (0, z11))]) rfl ?_
                          refine r_eqG (X := X) (hq_up (hq_up (hq_base _ _ _ _) rfl) rfl) ?_
                          exact ih109 (behind_h109 + 1) (((word_h109 * 32) + 0) - 96) _ h66 h65 (by first | decide | omega) (by first | decide | omega) (by first | decide | omega) (by first | decide | omega) (by first | decide | omega) (by first | decide | omega) (by first | decide | omega) (by first | decide | omega) (by first | decide | omega)
                  · skip
                    refine r_if_eq hX hP rfl (tgt := 182) rfl (by first | decide | omega) (by first | decide | omega) (fun c67 => ?_) (fun c67 => ?_)
                    · skip
                      refine r_eqG (X := X) (hq_loop (hq_refl [84, 87] [] _) rfl) ?_
                      exact x182 behind_h109 word_h109 _ behind_h109_e word_h109_e (by first | decide | omega) (by first | decide | omega) (by first | decide | omega) (by first | decide | omega) (by first | decide | omega) (by first | decide | omega) (by first | decide | omega) (by first | decide | omega)
                    · skip
                      exfalso; omega
            refine r_eqG (X := X) (hq_refl [84, 87] [] _) ?_
            exact loop109 ((400 - at_x58) + 1 : Int).toNat at_x58 0 _ h7 h22 (by first | decide | omega) (by first | decide | omega) (by first | decide | omega) (by first | decide | omega) (by first | decide | omega) (by first | decide | omega) (by first | decide | omega) (by first | decide | omega) (by first | decide | omega)
        · skip
          refine r_if_eq hX hP rfl (tgt := 198) rfl (by first | decide | omega) (by first | decide | omega) (fun c68 => ?_) (fun c68 => ?_)
          · skip
            refine r_ex hX hP 1 (pc' := 199) (st' := [(0, z11)]) (lo' := [(0, (2, (Ad E 1))), (1, (0, z11))]) rfl ?_
            refine r_callS gd hX hP rfl cs_12_376 (d' := 0) (mc' := 0) (ms' := 0) (as' := [(0, z11)]) (st := []) (by first | decide | omega) (by first | decide | omega) (by first | decide | omega) rfl rfl (Nat.le_of_ble_eq_true rfl) (c_X12_isDigit E S (up (hv [83] [] (up G 1 (Ad E 1) 83 bf4) Gx58) 1 (Ad E 1) 84 at_x58) z11 (by first | decide | omega) (by first | decide | omega)) ?_
            rintro _ _ _ ⟨rfl, rfl, z69, rfl, (⟨rfl, f70, f71⟩ | ⟨rfl, f72⟩)⟩
            · skip
              refine r_if_eq hX hP rfl (tgt := 300) rfl (by first | decide | omega) (by first | decide | omega) (fun c73 => ?_) (fun c73 => ?_)
              · skip
                exfalso; omega
              · skip
                have k74 := dv_zero (T := TT) (s := at_x58)
                refine r_ex hX hP 2 (pc' := 207) (st' := [(0, 0), (2, (Ad E 1))]) (lo' := [(0, (2, (Ad E 1))), (1, (0, z11))]) rfl ?_
                refine r_putIK hX hP rfl fp_12_379 hS (by first | decide | omega) (by first | decide | omega) (fun h75 => ?_)
                have x274 : ∀ (behind_x274 number_x274 : Int) (Gx274 : Gh), behind_x274 = (hv [84, 85] [] (up (up (hv [83] [] (up G 1 (Ad E 1) 83 bf4) Gx58) 1 (Ad E 1) 84 at_x58) 1 (Ad E 1) 85 0) Gx274) 1 (Ad E 1) 84 → number_x274 = (hv [84, 85] [] (up (up (hv [83] [] (up G 1 (Ad E 1) 83 bf4) Gx58) 1 (Ad E 1) 84 at_x58) 1 (Ad E 1) 85 0) Gx274) 1 (Ad E 1) 85 → 0 ≤ behind_x274 → behind_x274 ≤ 400 → 0 ≤ number_x274 → number_x274 ≤ 9999999 → scn cD TT nn at_x58 = behind_x274 → behind_x274 ≤ nn → at_x58 ≤ behind_x274 → number_x274 = dgv TT at_x58 behind_x274 → X 0 0 274 [] [(0, (2, (Ad E 1))), (1, (0, z11))] S (hv [84, 85] [] (up (up (hv [83] [] (up G 1 (Ad E 1) 83 bf4) Gx58) 1 (Ad E 1) 84 at_x58) 1 (Ad E 1) 85 0) Gx274) := by
                  intro behind_x274 number_x274 Gx274 behind_x274_e number_x274_e yx274_0 yx274_1 yx274_2 yx274_3 yx274_4 yx274_5 yx274_6 yx274_7
                  refine r_ex hX hP 2 (pc' := 276) (st' := [(2, (Ad E 1)), (2, (Ad E 1))]) (lo' := [(0, (2, (Ad E 1))), (1, (0, z11))]) rfl ?_
                  refine r_getKI hX hP rfl fl_12_349 hS (x := behind_x274) behind_x274_e ?_
                  refine r_ex hX hP 1 (pc' := 280) (st' := [(2, (Ad E 1)), (0, behind_x274), (2, (Ad E 1))]) (lo' := [(0, (2, (Ad E 1))), (1, (0, z11))]) rfl ?_
                  refine r_getKI hX hP rfl fl_12_352 hS (x := at_x58) at_x58_e ?_
                  refine r_ex hX hP 2 (pc' := 286) (st' := [(0, 7), (0, (behind_x274 - at_x58)), (2, (Ad E 1))]) (lo' := [(0, (2, (Ad E 1))), (1, (0, z11))]) rfl ?_
                  refine r_ic_le hX hP rfl (tgt := 293) rfl (by first | decide | omega) (by first | decide | omega) (by first | decide | omega) (by first | decide | omega) (fun c76 => ?_) (fun c76 => ?_)
                  · skip
                    refine r_ex hX hP 1 (pc' := 294) (st' := [(0, 2), (2, (Ad E 1))]) (lo' := [(0, (2, (Ad E 1))), (1, (0, z11))]) rfl ?_
                    refine r_putIK hX hP rfl fp_12_358 hS (by first | decide | omega) (by first | decide | omega) (fun h77 => ?_)
                    refine r_ex hX hP 1 (pc' := 354) (st' := []) (lo' := [(0, (2, (Ad E 1))), (1, (0, z11))]) rfl ?_
                    have h78S : tkS TT nn a0 = at_x58 := (show scn cB TT nn a0 = at_x58 from by omega)
                    obtain ⟨h78K, h78E, h78V⟩ := tk_nm (e := behind_x274) h78S (by first | decide | omega) (by first | decide | omega) (by first | decide | omega) (by first | decide | omega)
                    have h78O := srt_or (tkK TT nn a0)
                    have rd79 : RdM E TT nn (ud sr 0 a0) (up (hv [84, 85] [] (up (up (hv [83] [] (up G 1 (Ad E 1) 83 bf4) Gx58) 1 (Ad E 1) 84 at_x58) 1 (Ad E 1) 85 0) Gx274) 1 (Ad E 1) 82 2) := rm_mk (rn_tape rd : _) (rn_end rd : _) (at_x58_e.symm.trans h78S.symm) (behind_x274_e.symm.trans (show behind_x274 = tkE TT nn a0 from by omega)) (h77.symm.trans (show 2 = srt (tkK TT nn a0) from by omega)) (Or.inr (number_x274_e.symm.trans (show number_x274 = tkV TT nn a0 from by omega))) (Or.inl (show tkK TT nn a0 ≤ 3 from by omega)) (Or.inl (show tkK TT nn a0 ≠ 1 from by omega)) (Or.inl (show tkK TT nn a0 ≠ 1 from by omega)) (rn_bad rd : _) (rn_bat rd : _) (rn_nm rd : _) (rn_nc rd : _) (rn_nd rd : _) (rn_ti rd : _) (rn_to rd : _) (rn_w0 rd : _) (rn_w1 rd : _) (rn_w2 rd : _) (rn_q0 rd : _) (rn_q1 rd : _) (rn_q2 rd : _) (rn_z0 rd : _) (rn_z1 rd : _) (rn_z2 rd : _) (rn_nv rd : _) (show 0 ≤ a0 from by omega) (show a0 ≤ nn from by omega) (rn_n4 rd : _) (rn_c3 rd : _)
                    exact r_retV hX hP rfl rfl (by first | decide | omega) (by first | decide | omega) ⟨rfl, ⟨_, (hq_up (hq_loop (hq_up (hq_up (hq_loop (hq_up (hq_refl _ _ _) rfl) rfl) rfl) rfl) rfl) rfl).symm⟩, rfl, rd79⟩
                  · skip
                    refine r_ex hX hP 2 (pc' := 294) (st' := [(0, 4), (2, (Ad E 1))]) (lo' := [(0, (2, (Ad E 1))), (1, (0, z11))]) rfl ?_
                    refine r_putIK hX hP rfl fp_12_358 hS (by first | decide | omega) (by first | decide | omega) (fun h80 => ?_)
                    refine r_ex hX hP 1 (pc' := 354) (st' := []) (lo' := [(0, (2, (Ad E 1))), (1, (0, z11))]) rfl ?_
                    have h81S : tkS TT nn a0 = at_x58 := (show scn cB TT nn a0 = at_x58 from by omega)
                    obtain ⟨h81K, h81E, h81V⟩ := tk_nm (e := behind_x274) h81S (by first | decide | omega) (by first | decide | omega) (by first | decide | omega) (by first | decide | omega)
                    have h81O := srt_or (tkK TT nn a0)
                    have rd82 : RdM E TT nn (ud sr 0 a0) (up (hv [84, 85] [] (up (up (hv [83] [] (up G 1 (Ad E 1) 83 bf4) Gx58) 1 (Ad E 1) 84 at_x58) 1 (Ad E 1) 85 0) Gx274) 1 (Ad E 1) 82 4) := rm_mk (rn_tape rd : _) (rn_end rd : _) (at_x58_e.symm.trans h81S.symm) (behind_x274_e.symm.trans (show behind_x274 = tkE TT nn a0 from by omega)) (h80.symm.trans (show 4 = srt (tkK TT nn a0) from by omega)) (Or.inr (number_x274_e.symm.trans (show number_x274 = tkV TT nn a0 from by omega))) (Or.inl (show tkK TT nn a0 ≤ 3 from by omega)) (Or.inl (show tkK TT nn a0 ≠ 1 from by omega)) (Or.inl (show tkK TT nn a0 ≠ 1 from by omega)) (rn_bad rd : _) (rn_bat rd : _) (rn_nm rd : _) (rn_nc rd : _) (rn_nd rd : _) (rn_ti rd : _) (rn_to rd : _) (rn_w0 rd : _) (rn_w1 rd : _) (rn_w2 rd : _) (rn_q0 rd : _) (rn_q1 rd : _) (rn_q2 rd : _) (rn_z0 rd : _) (rn_z1 rd : _) (rn_z2 rd : _) (rn_nv rd : _) (show 0 ≤ a0 from by omega) (show a0 ≤ nn from by omega) (rn_n4 rd : _) (rn_c3 rd : _)
                    exact r_retV hX hP rfl rfl (by first | decide | omega) (by first | decide | omega) ⟨rfl, ⟨_, (hq_up (hq_loop (hq_up (hq_up (hq_loop (hq_up (hq_refl _ _ _) rfl) rfl) rfl) rfl) rfl) rfl).symm⟩, rfl, rd82⟩
                have loop210 : ∀ (nF : Nat) (behind_h210 number_h210 : Int) (Gh210 : Gh), behind_h210 = (hv [84, 85] [] (up (up (hv [83] [] (up G 1 (Ad E 1) 83 bf4) Gx58) 1 (Ad E 1) 84 at_x58) 1 (Ad E 1) 85 0) Gh210) 1 (Ad E 1) 84 → number_h210 = (hv [84, 85] [] (up (up (hv [83] [] (up G 1 (Ad E 1) 83 bf4) Gx58) 1 (Ad E 1) 84 at_x58) 1 (Ad E 1) 85 0) Gh210) 1 (Ad E 1) 85 → 0 ≤ behind_h210 → behind_h210 ≤ 400 → 0 ≤ number_h210 → number_h210 ≤ 9999999 → scn cD TT nn behind_h210 = scn cD TT nn at_x58 → behind_h210 ≤ nn → at_x58 ≤ behind_h210 → number_h210 = dgv TT at_x58 behind_h210 → 400 - behind_h210 < (nF : Int) → X 0 0 210 [] [(0, (2, (Ad E 1))), (1, (0, z11))] S (hv [84, 85] [] (up (up (hv [83] [] (up G 1 (Ad E 1) 83 bf4) Gx58) 1 (Ad E 1) 84 at_x58) 1 (Ad E 1) 85 0) Gh210) := by
                  intro nF
                  induction nF with
                  | zero => intro behind_h210 number_h210 Gh210 behind_h210_e number_h210_e yh210_0 yh210_1 yh210_2 yh210_3 yh210_4 yh210_5 yh210_6 yh210_7 ym210; exfalso; omega
                  | succ nF ih210 =>
                    intro behind_h210 number_h210 Gh210 behind_h210_e number_h210_e yh210_0 yh210_1 yh210_2 yh210_3 yh210_4 yh210_5 yh210_6 yh210_7 ym210
                    have k83 := scn_orD (T := TT) (n := nn) (p := behind_h210)
                    have k84 := scn_ge cD TT nn behind_h210
                    have k85 := dv_bdo (T := TT) (n := nn) (s := at_x58) (e := behind_h210) (by first | decide | omega) (by first | decide | omega)
                    have k86 := dv_or (T := TT) (s := at_x58) (e := behind_h210) (by first | decide | omega)
                    refine r_ex hX hP 2 (pc' := 212) (st' := [(2, (Ad E 1)), (2, (Ad E 1))]) (lo' := [(0, (2, (Ad E 1))), (1, (0, z11))]) rfl ?_
                    refine r_getKI hX hP rfl fl_12_349 hS (x := behind_h210) behind_h210_e ?_
                    refine r_callV gd hX hP rfl cv_12_355 hS (d' := 0) (mc' := 0) (ms' := 0) (as' := [(0, behind_h210)]) (st := []) (by first | decide | omega) (by first | decide | omega) (by first | decide | omega) rfl rfl (Nat.le_of_ble_eq_true rfl) (c_X12_lookR E S (hv [84, 85] [] (up (up (hv [83] [] (up G 1 (Ad E 1) 83 bf4) Gx58) 1 (Ad E 1) 84 at_x58) 1 (Ad E 1) 85 0) Gh210) behind_h210 hS tf8 tf8e (by first | decide | omega) (by first | decide | omega) TT nn (rn_tape rd : _) (by first | decide | omega)) ?_
                    rintro _ _ _ ⟨rfl, rfl, z87, rfl, (⟨z87a, z87b, f88, f89⟩ | ⟨rfl, f90⟩)⟩
                    · skip
                      refine r_callS gd hX hP rfl cs_12_376 (d' := 0) (mc' := 0) (ms' := 0) (as' := [(0, z87)]) (st := []) (by first | decide | omega) (by first | decide | omega) (by first | decide | omega) rfl rfl (Nat.le_of_ble_eq_true rfl) (c_X12_isDigit E S (hv [84, 85] [] (up (up (hv [83] [] (up G 1 (Ad E 1) 83 bf4) Gx58) 1 (Ad E 1) 84 at_x58) 1 (Ad E 1) 85 0) Gh210) z87 (by first | decide | omega) (by first | decide | omega)) ?_
                      rintro _ _ _ ⟨rfl, rfl, z91, rfl, (⟨rfl, f92, f93⟩ | ⟨rfl, f94⟩)⟩
                      · skip
                        refine r_if_eq hX hP rfl (tgt := 274) rfl (by first | decide | omega) (by first | decide | omega) (fun c95 => ?_) (fun c95 => ?_)
                        · skip
                          exfalso; omega
                        · skip
                          refine r_ex hX hP 1 (pc' := 225) (st' := [(2, (Ad E 1))]) (lo' := [(0, (2, (Ad E 1))), (1, (0, z11))]) rfl ?_
                          refine r_getKI hX hP rfl fl_12_349 hS (x := behind_h210) behind_h210_e ?_
                          refine r_ex hX hP 1 (pc' := 229) (st' := [(2, (Ad E 1)), (0, behind_h210)]) (lo' := [(0, (2, (Ad E 1))), (1, (0, z11))]) rfl ?_
                          refine r_getKI hX hP rfl fl_12_352 hS (x := at_x58) at_x58_e ?_
                          refine r_ex hX hP 2 (pc' := 235) (st' := [(0, 7), (0, (behind_h210 - at_x58))]) (lo' := [(0, (2, (Ad E 1))), (1, (0, z11))]) rfl ?_
                          refine r_ic_ge hX hP rfl (tgt := 261) rfl (by first | decide | omega) (by first | decide | omega) (by first | decide | omega) (by first | decide | omega) (fun c96 => ?_) (fun c96 => ?_)
                          · skip
                            refine r_ex hX hP 2 (pc' := 263) (st' := [(2, (Ad E 1)), (2, (Ad E 1))]) (lo' := [(0, (2, (Ad E 1))), (1, (0, z11))]) rfl ?_
                            refine r_getKI hX hP rfl fl_12_349 hS (x := behind_h210) behind_h210_e ?_
                            refine r_ex hX hP 2 (pc' := 268) (st' := [(0, (behind_h210 + 1)), (2, (Ad E 1))]) (lo' := [(0, (2, (Ad E 1))), (1, (0, z11))]) rfl ?_
                            refine r_putIK hX hP rfl fp_12_349 hS (by first | decide | omega) (by first | decide | omega) (fun h97 => ?_)
                            refine r_ex hX hP 1 (pc' := 210) (st' := []) (lo' := [(0, (2, (Ad E 1))), (1, (0, z11))]) rfl ?_
                            refine r_eqG (X := X) (hq_up (hq_base _ _ _ _) rfl) ?_
                            exact ih210 (behind_h210 + 1) number_h210 _ h97 number_h210_e (by first | decide | omega) (by first | decide | omega) (by first | decide | omega) (by first | decide | omega) (by first | decide | omega) (by first | decide | omega) (by first | decide | omega) (by first | decide | omega) (by first | decide | omega)
                          · skip
                            refine r_ex hX hP 3 (pc' := 242) (st' := [(2, (Ad E 1)), (0, 10), (2, (Ad E 1))]) (lo' := [(0, (2, (Ad E 1))), (1, (0, z11))]) rfl ?_
                            refine r_getKI hX hP rfl fl_12_379 hS (x := number_h210) number_h210_e ?_
                            refine r_ex hX hP 3 (pc' := 248) (st' := [(2, (Ad E 1)), (2, (Ad E 1)), (0, (10 * number_h210)), (2, (Ad E 1))]) (lo' := [(0, (2, (Ad E 1))), (1, (0, z11))]) rfl ?_
                            refine r_getKI hX hP rfl fl_12_349 hS (x := behind_h210) behind_h210_e ?_
                            refine r_callV gd hX hP rfl cv_12_355 hS (d' := 0) (mc' := 0) (ms' := 0) (as' := [(0, behind_h210)]) (st := [(0, (10 * number_h210)), (2, (Ad E 1))]) (by first | decide | omega) (by first | decide | omega) (by first | decide | omega) rfl rfl (Nat.le_of_ble_eq_true rfl) (c_X12_lookR E S (hv [84, 85] [] (up (up (hv [83] [] (up G 1 (Ad E 1) 83 bf4) Gx58) 1 (Ad E 1) 84 at_x58) 1 (Ad E 1) 85 0) Gh210) behind_h210 hS tf8 tf8e (by first | decide | omega) (by first | decide | omega) TT nn (rn_tape rd : _) (by first | decide | omega)) ?_
                            rintro _ _ _ ⟨rfl, rfl, z98, rfl, (⟨z98a, z98b, f99, f100⟩ | ⟨rfl, f101⟩)⟩
                            · skip
                              refine r_ex hX hP 3 (pc' := 258) (st' := [(0, (((10 * number_h210) + z98) - 48)), (2, (Ad E 1))]) (lo' := [(0, (2, (Ad E 1))), (1, (0, z11))]) rfl ?_
                              refine r_putIK hX hP rfl fp_12_379 hS (by first | decide | omega) (by first | decide | omega) (fun h102 => ?_)
                              refine r_ex hX hP 2 (pc' := 263) (st' := [(2, (Ad E 1)), (2, (Ad E 1))]) (lo' := [(0, (2, (Ad E 1))), (1, (0, z11))]) rfl ?_
                              refine r_getKI hX hP rfl fl_12_349 hS (x := behind_h210) behind_h210_e ?_
                              refine r_ex hX hP 2 (pc' := 268) (st' := [(0, (behind_h210 + 1)), (2, (Ad E 1))]) (lo' := [(0, (2, (Ad E 1))), (1, (0, z11))]) rfl ?_
                              refine r_putIK hX hP rfl fp_12_349 hS (by first | decide | omega) (by first | decide | omega) (fun h103 => ?_)
                              refine r_ex hX hP 1 (pc' := 210) (st' := []) (lo' := [(0, (2, (Ad E 1))), (1, (0, z11))]) rfl ?_
                              refine r_eqG (X := X) (hq_up (hq_up (hq_base _ _ _ _) rfl) rfl) ?_
                              exact ih210 (behind_h210 + 1) (((10 * number_h210) + z98) - 48) _ h103 h102 (by first | decide | omega) (by first | decide | omega) (by first | decide | omega) (by first | decide | omega) (by first | decide | omega) (by first | decide | omega) (by first | decide | omega) (by first | decide | omega) (by first | decide | omega)
                            · skip
                              refine r_ex hX hP 3 (pc' := 258) (st' := [(0, (((10 * number_h210) + 0) - 48)), (2, (Ad E 1))]) (lo' := [(0, (2, (Ad E 1))), (1, (0, z11))]) rfl ?_
                              refine r_putIK hX hP rfl fp_12_379 hS (by first | decide | omega) (by first | decide | omega) (fun h104 => ?_)
                              refine r_ex hX hP 2 (pc' := 263) (st' := [(2, (Ad E 1)), (2, (Ad E 1))]) (lo' := [(0, (2, (Ad E 1))), (1, (0, z11))]) rfl ?_
                              refine r_getKI hX hP rfl fl_12_349 hS (x := behind_h210) behind_h210_e ?_
                              refine r_ex hX hP 2 (pc' := 268) (st' := [(0, (behind_h210 + 1)), (2, (Ad E 1))]) (lo' := [(0, (2, (Ad E 1))), (1, (0, z11))]) rfl ?_
                              refine r_putIK hX hP rfl fp_12_349 hS (by first | decide | omega) (by first | decide | omega) (fun h105 => ?_)
                              refine r_ex hX hP 1 (pc' := 210) (st' := []) (lo' := [(0, (2, (Ad E 1))), (1, (0, z11))]) rfl ?_
                              refine r_eqG (X := X) (hq_up (hq_up (hq_base _ _ _ _) rfl) rfl) ?_
                              exact ih210 (behind_h210 + 1) (((10 * number_h210) + 0) - 48) _ h105 h104 (by first | decide | omega) (by first | decide | omega) (by first | decide | omega) (by first | decide | omega) (by first | decide | omega) (by first | decide | omega) (by first | decide | omega) (by first | decide | omega) (by first | decide | omega)
                      · skip
                        refine r_if_eq hX hP rfl (tgt := 274) rfl (by first | decide | omega) (by first | decide | omega) (fun c106 => ?_) (fun c106 => ?_)
                        · skip
                          refine r_eqG (X := X) (hq_loop (hq_refl [84, 85] [] _) rfl) ?_
                          exact x274 behind_h210 number_h210 _ behind_h210_e number_h210_e (by first | decide | omega) (by first | decide | omega) (by first | decide | omega) (by first | decide | omega) (by first | decide | omega) (by first | decide | omega) (by first | decide | omega) (by first | decide | omega)
                        · skip
                          exfalso; omega
                    · skip
                      refine r_callS gd hX hP rfl cs_12_376 (d' := 0) (mc' := 0) (ms' := 0) (as' := [(0, 0)]) (st := []) (by first | decide | omega) (by first | decide | omega) (by first | decide | omega) rfl rfl (Nat.le_of_ble_eq_true rfl) (c_X12_isDigit E S (hv [84, 85] [] (up (up (hv [83] [] (up G 1 (Ad E 1) 83 bf4) Gx58) 1 (Ad E 1) 84 at_x58) 1 (Ad E 1) 85 0) Gh210) 0 (by first | decide | omega) (by first | decide | omega)) ?_
                      rintro _ _ _ ⟨rfl, rfl, z107, rfl, (⟨rfl, f108, f109⟩ | ⟨rfl, f110⟩)⟩
                      · skip
                        refine r_if_eq hX hP rfl (tgt := 274) rfl (by first | decide | omega) (by first | decide | omega) (fun c111 => ?_) (fun c111 => ?_)
                        · skip
                          exfalso; omega
                        · skip
                          refine r_ex hX hP 1 (pc' := 225) (st' := [(2, (Ad E 1))]) (lo' := [(0, (2, (Ad E 1))), (1, (0, z11))]) rfl ?_
                          refine r_getKI hX hP rfl fl_12_349 hS (x := behind_h210) behind_h210_e ?_
                          refine r_ex hX hP 1 (pc' := 229) (st' := [(2, (Ad E 1)), (0, behind_h210)]) (lo' := [(0, (2, (Ad E 1))), (1, (0, z11))]) rfl ?_
                          refine r_getKI hX hP rfl fl_12_352 hS (x := at_x58) at_x58_e ?_
                          refine r_ex hX hP 2 (pc' := 235) (st' := [(0, 7), (0, (behind_h210 - at_x58))]) (lo' := [(0, (2, (Ad E 1))), (1, (0, z11))]) rfl ?_
                          refine r_ic_ge hX hP rfl (tgt := 261) rfl (by first | decide | omega) (by first | decide | omega) (by first | decide | omega) (by first | decide | omega) (fun c112 => ?_) (fun c112 => ?_)
                          · skip
                            refine r_ex hX hP 2 (pc' := 263) (st' := [(2, (Ad E 1)), (2, (Ad E 1))]) (lo' := [(0, (2, (Ad E 1))), (1, (0, z11))]) rfl ?_
                            refine r_getKI hX hP rfl fl_12_349 hS (x := behind_h210) behind_h210_e ?_
                            refine r_ex hX hP 2 (pc' := 268) (st' := [(0, (behind_h210 + 1)), (2, (Ad E 1))]) (lo' := [(0, (2, (Ad E 1))), (1, (0, z11))]) rfl ?_
                            refine r_putIK hX hP rfl fp_12_349 hS (by first | decide | omega) (by first | decide | omega) (fun h113 => ?_)
                            refine r_ex hX hP 1 (pc' := 210) (st' := []) (lo' := [(0, (2, (Ad E 1))), (1, (0, z11))]) rfl ?_
                            refine r_eqG (X := X) (hq_up (hq_base _ _ _ _) rfl) ?_
                            exact ih210 (behind_h210 + 1) number_h210 _ h113 number_h210_e (by first | decide | omega) (by first | decide | omega) (by first | decide | omega) (by first | decide | omega) (by first | decide | omega) (by first | decide | omega) (by first | decide | omega) (by first | decide | omega) (by first | decide | omega)
                          · skip
                            refine r_ex hX hP 3 (pc' := 242) (st' := [(2, (Ad E 1)), (0, 10), (2, (Ad E 1))]) (lo' := [(0, (2, (Ad E 1))), (1, (0, z11))]) rfl ?_
                            refine r_getKI hX hP rfl fl_12_379 hS (x := number_h210) number_h210_e ?_
                            refine r_ex hX hP 3 (pc' := 248) (st' := [(2, (Ad E 1)), (2, (Ad E 1)), (0, (10 * number_h210)), (2, (Ad E 1))]) (lo' := [(0, (2, (Ad E 1))), (1, (0, z11))]) rfl ?_
                            refine r_getKI hX hP rfl fl_12_349 hS (x := behind_h210) behind_h210_e ?_
                            refine r_callV gd hX hP rfl cv_12_355 hS (d' := 0) (mc' := 0) (ms' := 0) (as' := [(0, behind_h210)]) (st := [(0, (10 * number_h210)), (2, (Ad E 1))]) (by first | decide | omega) (by first | decide | omega) (by first | decide | omega) rfl rfl (Nat.le_of_ble_eq_true rfl) (c_X12_lookR E S (hv [84, 85] [] (up (up (hv [83] [] (up G 1 (Ad E 1) 83 bf4) Gx58) 1 (Ad E 1) 84 at_x58) 1 (Ad E 1) 85 0) Gh210) behind_h210 hS tf8 tf8e (by first | decide | omega) (by first | decide | omega) TT nn (rn_tape rd : _) (by first | decide | omega)) ?_
                            rintro _ _ _ ⟨rfl, rfl, z114, rfl, (⟨z114a, z114b, f115, f116⟩ | ⟨rfl, f117⟩)⟩
                            · skip
                              refine r_ex hX hP 3 (pc' := 258) (st' := [(0, (((10 * number_h210) + z114) - 48)), (2, (Ad E 1))]) (lo' := [(0, (2, (Ad E 1))), (1, (0, z11))]) rfl ?_
                              refine r_putIK hX hP rfl fp_12_379 hS (by first | decide | omega) (by first | decide | omega) (fun h118 => ?_)
                              refine r_ex hX hP 2 (pc' := 263) (st' := [(2, (Ad E 1)), (2, (Ad E 1))]) (lo' := [(0, (2, (Ad E 1))), (1, (0, z11))]) rfl ?_
                              refine r_getKI hX hP rfl fl_12_349 hS (x := behind_h210) behind_h210_e ?_
                              refine r_ex hX hP 2 (pc' := 268) (st' := [(0, (behind_h210 + 1)), (2, (Ad E 1))]) (lo' := [(0, (2, (Ad E 1))), (1, (0, z11))]) rfl ?_
                              refine r_putIK hX hP rfl fp_12_349 hS (by first | decide | omega) (by first | decide | omega) (fun h119 => ?_)
                              refine r_ex hX hP 1 (pc' := 210) (st' := []) (lo' := [(0, (2, (Ad E 1))), (1, (0, z11))]) rfl ?_
                              refine r_eqG (X := X) (hq_up (hq_up (hq_base _ _ _ _) rfl) rfl) ?_
                              exact ih210 (behind_h210 + 1) (((10 * number_h210) + z114) - 48) _ h119 h118 (by first | decide | omega) (by first | decide | omega) (by first | decide | omega) (by first | decide | omega) (by first | decide | omega) (by first | decide | omega) (by first | decide | omega) (by first | decide | omega) (by first | decide | omega)
                            · skip
                              refine r_ex hX hP 3 (pc' := 258) (st' := [(0, (((10 * number_h210) + 0) - 48)), (2, (Ad E 1))]) (lo' := [(0, (2, (Ad E 1))), (1, (0, z11))]) rfl ?_
                              refine r_putIK hX hP rfl fp_12_379 hS (by first | decide | omega) (by first | decide | omega) (fun h120 => ?_)
                              refine r_ex hX hP 2 (pc' := 263) (st' := [(2, (Ad E 1)), (2, (Ad E 1))]) (lo' := [(0, (2, (Ad E 1))), (1, (0, z11))]) rfl ?_
                              refine r_getKI hX hP rfl fl_12_349 hS (x := behind_h210) behind_h210_e ?_
                              refine r_ex hX hP 2 (pc' := 268) (st' := [(0, (behind_h210 + 1)), (2, (Ad E 1))]) (lo' := [(0, (2, (Ad E 1))), (1, (0, z11))]) rfl ?_
                              refine r_putIK hX hP rfl fp_12_349 hS (by first | decide | omega) (by first | decide | omega) (fun h121 => ?_)
                              refine r_ex hX hP 1 (pc' := 210) (st' := []) (lo' := [(0, (2, (Ad E 1))), (1, (0, z11))]) rfl ?_
                              refine r_eqG (X := X) (hq_up (hq_up (hq_base _ _ _ _) rfl) rfl) ?_
                              exact ih210 (behind_h210 + 1) (((10 * number_h210) + 0) - 48) _ h121 h120 (by first | decide | omega) (by first | decide | omega) (by first | decide | omega) (by first | decide | omega) (by first | decide | omega) (by first | decide | omega) (by first | decide | omega) (by first | decide | omega) (by first | decide | omega)
                      · skip
                        refine r_if_eq hX hP rfl (tgt := 274) rfl (by first | decide | omega) (by first | decide | omega) (fun c122 => ?_) (fun c122 => ?_)
                        · skip
                          refine r_eqG (X := X) (hq_loop (hq_refl [84, 85] [] _) rfl) ?_
                          exact x274 behind_h210 number_h210 _ behind_h210_e number_h210_e (by first | decide | omega) (by first | decide | omega) (by first | decide | omega) (by first | decide | omega) (by first | decide | omega) (by first | decide | omega) (by first | decide | omega) (by first | decide | omega)
                        · skip
                          exfalso; omega
                refine r_eqG (X := X) (hq_refl [84, 85] [] _) ?_
                exact loop210 ((400 - at_x58) + 1 : Int).toNat at_x58 0 _ h7 h75 (by first | decide | omega) (by first | decide | omega) (by first | decide | omega) (by first | decide | omega) (by first | decide | omega) (by first | decide | omega) (by first | decide | omega) (by first | decide | omega) (by first | decide | omega)
            · skip
              refine r_if_eq hX hP rfl (tgt := 300) rfl (by first | decide | omega) (by first | decide | omega) (fun c123 => ?_) (fun c123 => ?_)
              · skip
                refine r_ex hX hP 2 (pc' := 302) (st' := [(2, (Ad E 1)), (2, (Ad E 1))]) (lo' := [(0, (2, (Ad E 1))), (1, (0, z11))]) rfl ?_
                refine r_getKI hX hP rfl fl_12_352 hS (x := at_x58) at_x58_e ?_
                refine r_ex hX hP 2 (pc' := 307) (st' := [(0, (at_x58 + 1)), (2, (Ad E 1))]) (lo' := [(0, (2, (Ad E 1))), (1, (0, z11))]) rfl ?_
                refine r_putIK hX hP rfl fp_12_349 hS (by first | decide | omega) (by first | decide | omega) (fun h124 => ?_)
                refine r_ex hX hP 2 (pc' := 312) (st' := [(0, z11), (2, (Ad E 1))]) (lo' := [(0, (2, (Ad E 1))), (1, (0, z11))]) rfl ?_
                refine r_putIK hX hP rfl fp_12_379 hS (by first | decide | omega) (by first | decide | omega) (fun h125 => ?_)
                refine r_ex hX hP 3 (pc' := 319) (st' := [(0, 59), (0, z11), (2, (Ad E 1))]) (lo' := [(0, (2, (Ad E 1))), (1, (0, z11))]) rfl ?_
                refine r_ic_eq hX hP rfl (tgt := 346) rfl (by first | decide | omega) (by first | decide | omega) (by first | decide | omega) (by first | decide | omega) (fun c126 => ?_) (fun c126 => ?_)
                · skip
                  refine r_ex hX hP 2 (pc' := 351) (st' := [(0, 3), (2, (Ad E 1))]) (lo' := [(0, (2, (Ad E 1))), (1, (0, z11))]) rfl ?_
                  refine r_putIK hX hP rfl fp_12_358 hS (by first | decide | omega) (by first | decide | omega) (fun h127 => ?_)
                  have h128S : tkS TT nn a0 = at_x58 := (show scn cB TT nn a0 = at_x58 from by omega)
                  obtain ⟨h128K, h128E⟩ := tk_sgY h128S (by first | decide | omega) (by first | decide | omega) (by first | decide | omega) (by first | decide | omega)
                  have h128O := srt_or (tkK TT nn a0)
                  have rd129 : RdM E TT nn (ud sr 0 a0) (up (up (up (up (hv [83] [] (up G 1 (Ad E 1) 83 bf4) Gx58) 1 (Ad E 1) 84 at_x58) 1 (Ad E 1) 84 (at_x58 + 1)) 1 (Ad E 1) 85 z11) 1 (Ad E 1) 82 3) := rm_mk (rn_tape rd : _) (rn_end rd : _) (at_x58_e.symm.trans h128S.symm) (h124.symm.trans (show (at_x58 + 1) = tkE TT nn a0 from by omega)) (h127.symm.trans (show 3 = srt (tkK TT nn a0) from by omega)) (Or.inl (show tkK TT nn a0 ≠ 2 from by omega)) (Or.inr (h125.symm.trans (show z11 = tkK TT nn a0 from by omega))) (Or.inl (show tkK TT nn a0 ≠ 1 from by omega)) (Or.inl (show tkK TT nn a0 ≠ 1 from by omega)) (rn_bad rd : _) (rn_bat rd : _) (rn_nm rd : _) (rn_nc rd : _) (rn_nd rd : _) (rn_ti rd : _) (rn_to rd : _) (rn_w0 rd : _) (rn_w1 rd : _) (rn_w2 rd : _) (rn_q0 rd : _) (rn_q1 rd : _) (rn_q2 rd : _) (rn_z0 rd : _) (rn_z1 rd : _) (rn_z2 rd : _) (rn_nv rd : _) (show 0 ≤ a0 from by omega) (show a0 ≤ nn from by omega) (rn_n4 rd : _) (rn_c3 rd : _)
                  exact r_retV hX hP rfl rfl (by first | decide | omega) (by first | decide | omega) ⟨rfl, ⟨_, (hq_up (hq_up (hq_up (hq_up (hq_loop (hq_up (hq_refl _ _ _) rfl) rfl) rfl) rfl) rfl) rfl).symm⟩, rfl, rd129⟩
                · skip
                  refine r_ex hX hP 2 (pc' := 325) (st' := [(0, 123), (0, z11), (2, (Ad E 1))]) (lo' := [(0, (2, (Ad E 1))), (1, (0, z11))]) rfl ?_
                  refine r_ic_eq hX hP rfl (tgt := 346) rfl (by first | decide | omega) (by first | decide | omega) (by first | decide | omega) (by first | decide | omega) (fun c130 => ?_) (fun c130 => ?_)
                  · skip
                    refine r_ex hX hP 2 (pc' := 351) (st' := [(0, 3), (2, (Ad E 1))]) (lo' := [(0, (2, (Ad E 1))), (1, (0, z11))]) rfl ?_
                    refine r_putIK hX hP rfl fp_12_358 hS (by first | decide | omega) (by first | decide | omega) (fun h131 => ?_)
                    have h132S : tkS TT nn a0 = at_x58 := (show scn cB TT nn a0 = at_x58 from by omega)
                    obtain ⟨h132K, h132E⟩ := tk_sgY h132S (by first | decide | omega) (by first | decide | omega) (by first | decide | omega) (by first | decide | omega)
                    have h132O := srt_or (tkK TT nn a0)
                    have rd133 : RdM E TT nn (ud sr 0 a0) (up (up (up (up (hv [83] [] (up G 1 (Ad E 1) 83 bf4) Gx58) 1 (Ad E 1) 84 at_x58) 1 (Ad E 1) 84 (at_x58 + 1)) 1 (Ad E 1) 85 z11) 1 (Ad E 1) 82 3) := rm_mk (rn_tape rd : _) (rn_end rd : _) (at_x58_e.symm.trans h132S.symm) (h124.symm.trans (show (at_x58 + 1) = tkE TT nn a0 from by omega)) (h131.symm.trans (show 3 = srt (tkK TT nn a0) from by omega)) (Or.inl (show tkK TT nn a0 ≠ 2 from by omega)) (Or.inr (h125.symm.trans (show z11 = tkK TT nn a0 from by omega))) (Or.inl (show tkK TT nn a0 ≠ 1 from by omega)) (Or.inl (show tkK TT nn a0 ≠ 1 from by omega)) (rn_bad rd : _) (rn_bat rd : _) (rn_nm rd : _) (rn_nc rd : _) (rn_nd rd : _) (rn_ti rd : _) (rn_to rd : _) (rn_w0 rd : _) (rn_w1 rd : _) (rn_w2 rd : _) (rn_q0 rd : _) (rn_q1 rd : _) (rn_q2 rd : _) (rn_z0 rd : _) (rn_z1 rd : _) (rn_z2 rd : _) (rn_nv rd : _) (show 0 ≤ a0 from by omega) (show a0 ≤ nn from by omega) (rn_n4 rd : _) (rn_c3 rd : _)
                    exact r_retV hX hP rfl rfl (by first | decide | omega) (by first | decide | omega) ⟨rfl, ⟨_, (hq_up (hq_up (hq_up (hq_up (hq_loop (hq_up (hq_refl _ _ _) rfl) rfl) rfl) rfl) rfl) rfl).symm⟩, rfl, rd133⟩
                  · skip
                    refine r_ex hX hP 2 (pc' := 331) (st' := [(0, 125), (0, z11), (2, (Ad E 1))]) (lo' := [(0, (2, (Ad E 1))), (1, (0, z11))]) rfl ?_
                    refine r_ic_eq hX hP rfl (tgt := 346) rfl (by first | decide | omega) (by first | decide | omega) (by first | decide | omega) (by first | decide | omega) (fun c134 => ?_) (fun c134 => ?_)
                    · skip
                      refine r_ex hX hP 2 (pc' := 351) (st' := [(0, 3), (2, (Ad E 1))]) (lo' := [(0, (2, (Ad E 1))), (1, (0, z11))]) rfl ?_
                      refine r_putIK hX hP rfl fp_12_358 hS (by first | decide | omega) (by first | decide | omega) (fun h135 => ?_)
                      have h136S : tkS TT nn a0 = at_x58 := (show scn cB TT nn a0 = at_x58 from by omega)
                      obtain ⟨h136K, h136E⟩ := tk_sgY h136S (by first | decide | omega) (by first | decide | omega) (by first | decide | omega) (by first | decide | omega)
                      have h136O := srt_or (tkK TT nn a0)
                      have rd137 : RdM E TT nn (ud sr 0 a0) (up (up (up (up (hv [83] [] (up G 1 (Ad E 1) 83 bf4) Gx58) 1 (Ad E 1) 84 at_x58) 1 (Ad E 1) 84 (at_x58 + 1)) 1 (Ad E 1) 85 z11) 1 (Ad E 1) 82 3) := rm_mk (rn_tape rd : _) (rn_end rd : _) (at_x58_e.symm.trans h136S.symm) (h124.symm.trans (show (at_x58 + 1) = tkE TT nn a0 from by omega)) (h135.symm.trans (show 3 = srt (tkK TT nn a0) from by omega)) (Or.inl (show tkK TT nn a0 ≠ 2 from by omega)) (Or.inr (h125.symm.trans (show z11 = tkK TT nn a0 from by omega))) (Or.inl (show tkK TT nn a0 ≠ 1 from by omega)) (Or.inl (show tkK TT nn a0 ≠ 1 from by omega)) (rn_bad rd : _) (rn_bat rd : _) (rn_nm rd : _) (rn_nc rd : _) (rn_nd rd : _) (rn_ti rd : _) (rn_to rd : _) (rn_w0 rd : _) (rn_w1 rd : _) (rn_w2 rd : _) (rn_q0 rd : _) (rn_q1 rd : _) (rn_q2 rd : _) (rn_z0 rd : _) (rn_z1 rd : _) (rn_z2 rd : _) (rn_nv rd : _) (show 0 ≤ a0 from by omega) (show a0 ≤ nn from by omega) (rn_n4 rd : _) (rn_c3 rd : _)
                      exact r_retV hX hP rfl rfl (by first | decide | omega) (by first | decide | omega) ⟨rfl, ⟨_, (hq_up (hq_up (hq_up (hq_up (hq_loop (hq_up (hq_refl _ _ _) rfl) rfl) rfl) rfl) rfl) rfl).symm⟩, rfl, rd137⟩
                    · skip
                      refine r_ex hX hP 2 (pc' := 337) (st' := [(0, 60), (0, z11), (2, (Ad E 1))]) (lo' := [(0, (2, (Ad E 1))), (1, (0, z11))]) rfl ?_
                      refine r_ic_eq hX hP rfl (tgt := 346) rfl (by first | decide | omega) (by first | decide | omega) (by first | decide | omega) (by first | decide | omega) (fun c138 => ?_) (fun c138 => ?_)
                      · skip
                        refine r_ex hX hP 2 (pc' := 351) (st' := [(0, 3), (2, (Ad E 1))]) (lo' := [(0, (2, (Ad E 1))), (1, (0, z11))]) rfl ?_
                        refine r_putIK hX hP rfl fp_12_358 hS (by first | decide | omega) (by first | decide | omega) (fun h139 => ?_)
                        have h140S : tkS TT nn a0 = at_x58 := (show scn cB TT nn a0 = at_x58 from by omega)
                        obtain ⟨h140K, h140E⟩ := tk_sgY h140S (by first | decide | omega) (by first | decide | omega) (by first | decide | omega) (by first | decide | omega)
                        have h140O := srt_or (tkK TT nn a0)
                        have rd141 : RdM E TT nn (ud sr 0 a0) (up (up (up (up (hv [83] [] (up G 1 (Ad E 1) 83 bf4) Gx58) 1 (Ad E 1) 84 at_x58) 1 (Ad E 1) 84 (at_x58 + 1)) 1 (Ad E 1) 85 z11) 1 (Ad E 1) 82 3) := rm_mk (rn_tape rd : _) (rn_end rd : _) (at_x58_e.symm.trans h140S.symm) (h124.symm.trans (show (at_x58 + 1) = tkE TT nn a0 from by omega)) (h139.symm.trans (show 3 = srt (tkK TT nn a0) from by omega)) (Or.inl (show tkK TT nn a0 ≠ 2 from by omega)) (Or.inr (h125.symm.trans (show z11 = tkK TT nn a0 from by omega))) (Or.inl (show tkK TT nn a0 ≠ 1 from by omega)) (Or.inl (show tkK TT nn a0 ≠ 1 from by omega)) (rn_bad rd : _) (rn_bat rd : _) (rn_nm rd : _) (rn_nc rd : _) (rn_nd rd : _) (rn_ti rd : _) (rn_to rd : _) (rn_w0 rd : _) (rn_w1 rd : _) (rn_w2 rd : _) (rn_q0 rd : _) (rn_q1 rd : _) (rn_q2 rd : _) (rn_z0 rd : _) (rn_z1 rd : _) (rn_z2 rd : _) (rn_nv rd : _) (show 0 ≤ a0 from by omega) (show a0 ≤ nn from by omega) (rn_n4 rd : _) (rn_c3 rd : _)
                        exact r_retV hX hP rfl rfl (by first | decide | omega) (by first | decide | omega) ⟨rfl, ⟨_, (hq_up (hq_up (hq_up (hq_up (hq_loop (hq_up (hq_refl _ _ _) rfl) rfl) rfl) rfl) rfl) rfl).symm⟩, rfl, rd141⟩
                      · skip
                        refine r_ex hX hP 2 (pc' := 343) (st' := [(0, 62), (0, z11), (2, (Ad E 1))]) (lo' := [(0, (2, (Ad E 1))), (1, (0, z11))]) rfl ?_
                        refine r_ic_ne hX hP rfl (tgt := 350) rfl (by first | decide | omega) (by first | decide | omega) (by first | decide | omega) (by first | decide | omega) (fun c142 => ?_) (fun c142 => ?_)
                        · skip
                          refine r_ex hX hP 1 (pc' := 351) (st' := [(0, 4), (2, (Ad E 1))]) (lo' := [(0, (2, (Ad E 1))), (1, (0, z11))]) rfl ?_
                          refine r_putIK hX hP rfl fp_12_358 hS (by first | decide | omega) (by first | decide | omega) (fun h143 => ?_)
                          have h144S : tkS TT nn a0 = at_x58 := (show scn cB TT nn a0 = at_x58 from by omega)
                          obtain ⟨h144K, h144E⟩ := tk_sgN h144S (by first | decide | omega) (by first | decide | omega) (by first | decide | omega) (by first | decide | omega)
                          have h144O := srt_or (tkK TT nn a0)
                          have rd145 : RdM E TT nn (ud sr 0 a0) (up (up (up (up (hv [83] [] (up G 1 (Ad E 1) 83 bf4) Gx58) 1 (Ad E 1) 84 at_x58) 1 (Ad E 1) 84 (at_x58 + 1)) 1 (Ad E 1) 85 z11) 1 (Ad E 1) 82 4) := rm_mk (rn_tape rd : _) (rn_end rd : _) (at_x58_e.symm.trans h144S.symm) (h124.symm.trans (show (at_x58 + 1) = tkE TT nn a0 from by omega)) (h143.symm.trans (show 4 = srt (tkK TT nn a0) from by omega)) (Or.inl (show tkK TT nn a0 ≠ 2 from by omega)) (Or.inl (show tkK TT nn a0 ≤ 3 from by omega)) (Or.inl (show tkK TT nn a0 ≠ 1 from by omega)) (Or.inl (show tkK TT nn a0 ≠ 1 from by omega)) (rn_bad rd : _) (rn_bat rd : _) (rn_nm rd : _) (rn_nc rd : _) (rn_nd rd : _) (rn_ti rd : _) (rn_to rd : _) (rn_w0 rd : _) (rn_w1 rd : _) (rn_w2 rd : _) (rn_q0 rd : _) (rn_q1 rd : _) (rn_q2 rd : _) (rn_z0 rd : _) (rn_z1 rd : _) (rn_z2 rd : _) (rn_nv rd : _) (show 0 ≤ a0 from by omega) (show a0 ≤ nn from by omega) (rn_n4 rd : _) (rn_c3 rd : _)
                          exact r_retV hX hP rfl rfl (by first | decide | omega) (by first | decide | omega) ⟨rfl, ⟨_, (hq_up (hq_up (hq_up (hq_up (hq_loop (hq_up (hq_refl _ _ _) rfl) rfl) rfl) rfl) rfl) rfl).symm⟩, rfl, rd145⟩
                        · skip
                          refine r_ex hX hP 2 (pc' := 351) (st' := [(0, 3), (2, (Ad E 1))]) (lo' := [(0, (2, (Ad E 1))), (1, (0, z11))]) rfl ?_
                          refine r_putIK hX hP rfl fp_12_358 hS (by first | decide | omega) (by first | decide | omega) (fun h146 => ?_)
                          have h147S : tkS TT nn a0 = at_x58 := (show scn cB TT nn a0 = at_x58 from by omega)
                          obtain ⟨h147K, h147E⟩ := tk_sgY h147S (by first | decide | omega) (by first | decide | omega) (by first | decide | omega) (by first | decide | omega)
                          have h147O := srt_or (tkK TT nn a0)
                          have rd148 : RdM E TT nn (ud sr 0 a0) (up (up (up (up (hv [83] [] (up G 1 (Ad E 1) 83 bf4) Gx58) 1 (Ad E 1) 84 at_x58) 1 (Ad E 1) 84 (at_x58 + 1)) 1 (Ad E 1) 85 z11) 1 (Ad E 1) 82 3) := rm_mk (rn_tape rd : _) (rn_end rd : _) (at_x58_e.symm.trans h147S.symm) (h124.symm.trans (show (at_x58 + 1) = tkE TT nn a0 from by omega)) (h146.symm.trans (show 3 = srt (tkK TT nn a0) from by omega)) (Or.inl (show tkK TT nn a0 ≠ 2 from by omega)) (Or.inr (h125.symm.trans (show z11 = tkK TT nn a0 from by omega))) (Or.inl (show tkK TT nn a0 ≠ 1 from by omega)) (Or.inl (show tkK TT nn a0 ≠ 1 from by omega)) (rn_bad rd : _) (rn_bat rd : _) (rn_nm rd : _) (rn_nc rd : _) (rn_nd rd : _) (rn_ti rd : _) (rn_to rd : _) (rn_w0 rd : _) (rn_w1 rd : _) (rn_w2 rd : _) (rn_q0 rd : _) (rn_q1 rd : _) (rn_q2 rd : _) (rn_z0 rd : _) (rn_z1 rd : _) (rn_z2 rd : _) (rn_nv rd : _) (show 0 ≤ a0 from by omega) (show a0 ≤ nn from by omega) (rn_n4 rd : _) (rn_c3 rd : _)
                          exact r_retV hX hP rfl rfl (by first | decide | omega) (by first | decide | omega) ⟨rfl, ⟨_, (hq_up (hq_up (hq_up (hq_up (hq_loop (hq_up (hq_refl _ _ _) rfl) rfl) rfl) rfl) rfl) rfl).symm⟩, rfl, rd148⟩
              · skip
                exfalso; omega
          · skip
            exfalso; omega
      · skip
        refine r_ex hX hP 2 (pc' := 93) (st' := [(0, 0)]) (lo' := [(0, (2, (Ad E 1))), (1, (0, 0))]) rfl ?_
        refine r_callS gd hX hP rfl cs_12_361 (d' := 0) (mc' := 0) (ms' := 0) (as' := [(0, 0)]) (st := []) (by first | decide | omega) (by first | decide | omega) (by first | decide | omega) rfl rfl (Nat.le_of_ble_eq_true rfl) (c_X12_isLetter E S (up (hv [83] [] (up G 1 (Ad E 1) 83 bf4) Gx58) 1 (Ad E 1) 84 at_x58) 0 (by first | decide | omega) (by first | decide | omega)) ?_
        rintro _ _ _ ⟨rfl, rfl, z149, rfl, (⟨rfl, f150, f151⟩ | ⟨rfl, f152⟩)⟩
        · skip
          refine r_if_eq hX hP rfl (tgt := 198) rfl (by first | decide | omega) (by first | decide | omega) (fun c153 => ?_) (fun c153 => ?_)
          · skip
            exfalso; omega
          · skip
            have k154 := wd_zero (T := TT) (s := at_x58)
            refine r_ex hX hP 2 (pc' := 101) (st' := [(0, 1), (2, (Ad E 1))]) (lo' := [(0, (2, (Ad E 1))), (1, (0, 0))]) rfl ?_
            refine r_putIK hX hP rfl fp_12_358 hS (by first | decide | omega) (by first | decide | omega) (fun h155 => ?_)
            refine r_ex hX hP 2 (pc' := 106) (st' := [(1, 0), (2, (Ad E 1))]) (lo' := [(0, (2, (Ad E 1))), (1, (0, 0))]) rfl ?_
            refine r_putLK hX hP rfl fp_12_364 hS (by first | decide | omega) (by first | decide | omega) (fun h156 => ?_)
            have x182 : ∀ (behind_x182 word_x182 : Int) (Gx182 : Gh), behind_x182 = (hv [84, 87] [] (up (up (up (hv [83] [] (up G 1 (Ad E 1) 83 bf4) Gx58) 1 (Ad E 1) 84 at_x58) 1 (Ad E 1) 82 1) 1 (Ad E 1) 87 0) Gx182) 1 (Ad E 1) 84 → word_x182 = (hv [84, 87] [] (up (up (up (hv [83] [] (up G 1 (Ad E 1) 83 bf4) Gx58) 1 (Ad E 1) 84 at_x58) 1 (Ad E 1) 82 1) 1 (Ad E 1) 87 0) Gx182) 1 (Ad E 1) 87 → 0 ≤ behind_x182 → behind_x182 ≤ 400 → (-9223372036854775808) ≤ word_x182 → word_x182 ≤ 9223372036854775807 → scn cL TT nn at_x58 = behind_x182 → behind_x182 ≤ nn → at_x58 ≤ behind_x182 → word_x182 = wd TT at_x58 behind_x182 → X 0 0 182 [] [(0, (2, (Ad E 1))), (1, (0, 0))] S (hv [84, 87] [] (up (up (up (hv [83] [] (up G 1 (Ad E 1) 83 bf4) Gx58) 1 (Ad E 1) 84 at_x58) 1 (Ad E 1) 82 1) 1 (Ad E 1) 87 0) Gx182) := by
              intro behind_x182 word_x182 Gx182 behind_x182_e word_x182_e yx182_0 yx182_1 yx182_2 yx182_3 yx182_4 yx182_5 yx182_6 yx182_7
              refine r_ex hX hP 2 (pc' := 184) (st' := [(2, (Ad E 1)), (2, (Ad E 1))]) (lo' := [(0, (2, (Ad E 1))), (1, (0, 0))]) rfl ?_
              refine r_getKI hX hP rfl fl_12_349 hS (x := behind_x182) behind_x182_e ?_
              refine r_ex hX hP 1 (pc' := 188) (st' := [(2, (Ad E 1)), (0, behind_x182), (2, (Ad E 1))]) (lo' := [(0, (2, (Ad E 1))), (1, (0, 0))]) rfl ?_
              refine r_getKI hX hP rfl fl_12_352 hS (x := at_x58) at_x58_e ?_
              refine r_ex hX hP 1 (pc' := 192) (st' := [(0, (behind_x182 - at_x58)), (2, (Ad E 1))]) (lo' := [(0, (2, (Ad E 1))), (1, (0, 0))]) rfl ?_
              refine r_putIK hX hP rfl fp_12_373 hS (by first | decide | omega) (by first | decide | omega) (fun h157 => ?_)
              refine r_ex hX hP 1 (pc' := 354) (st' := []) (lo' := [(0, (2, (Ad E 1))), (1, (0, 0))]) rfl ?_
              have h158S : tkS TT nn a0 = at_x58 := (show scn cB TT nn a0 = at_x58 from by omega)
              obtain ⟨h158K, h158E⟩ := tk_wd (e := behind_x182) h158S (by first | decide | omega) (by first | decide | omega) (by first | decide | omega) (by first | decide | omega)
              have h158O := srt_or (tkK TT nn a0)
              have h158W : word_x182 = wd TT (tkS TT nn a0) (tkE TT nn a0) := by rw [h158S, h158E]; omega
              have rd159 : RdM E TT nn (ud sr 0 a0) (up (hv [84, 87] [] (up (up (up (hv [83] [] (up G 1 (Ad E 1) 83 bf4) Gx58) 1 (Ad E 1) 84 at_x58) 1 (Ad E 1) 82 1) 1 (Ad E 1) 87 0) Gx182) 1 (Ad E 1) 86 (behind_x182 - at_x58)) := rm_mk (rn_tape rd : _) (rn_end rd : _) (at_x58_e.symm.trans h158S.symm) (behind_x182_e.symm.trans (show behind_x182 = tkE TT nn a0 from by omega)) (h155.symm.trans (show 1 = srt (tkK TT nn a0) from by omega)) (Or.inl (show tkK TT nn a0 ≠ 2 from by omega)) (Or.inl (show tkK TT nn a0 ≤ 3 from by omega)) (Or.inr (word_x182_e.symm.trans h158W)) (Or.inr (h157.symm.trans (show (behind_x182 - at_x58) = tkE TT nn a0 - tkS TT nn a0 from by omega))) (rn_bad rd : _) (rn_bat rd : _) (rn_nm rd : _) (rn_nc rd : _) (rn_nd rd : _) (rn_ti rd : _) (rn_to rd : _) (rn_w0 rd : _) (rn_w1 rd : _) (rn_w2 rd : _) (rn_q0 rd : _) (rn_q1 rd : _) (rn_q2 rd : _) (rn_z0 rd : _) (rn_z1 rd : _) (rn_z2 rd : _) (rn_nv rd : _) (show 0 ≤ a0 from by omega) (show a0 ≤ nn from by omega) (rn_n4 rd : _) (rn_c3 rd : _)
              exact r_retV hX hP rfl rfl (by first | decide | omega) (by first | decide | omega) ⟨rfl, ⟨_, (hq_up (hq_loop (hq_up (hq_up (hq_up (hq_loop (hq_up (hq_refl _ _ _) rfl) rfl) rfl) rfl) rfl) rfl) rfl).symm⟩, rfl, rd159⟩
            have loop109 : ∀ (nF : Nat) (behind_h109 word_h109 : Int) (Gh109 : Gh), behind_h109 = (hv [84, 87] [] (up (up (up (hv [83] [] (up G 1 (Ad E 1) 83 bf4) Gx58) 1 (Ad E 1) 84 at_x58) 1 (Ad E 1) 82 1) 1 (Ad E 1) 87 0) Gh109) 1 (Ad E 1) 84 → word_h109 = (hv [84, 87] [] (up (up (up (hv [83] [] (up G 1 (Ad E 1) 83 bf4) Gx58) 1 (Ad E 1) 84 at_x58) 1 (Ad E 1) 82 1) 1 (Ad E 1) 87 0) Gh109) 1 (Ad E 1) 87 → 0 ≤ behind_h109 → behind_h109 ≤ 400 → (-9223372036854775808) ≤ word_h109 → word_h109 ≤ 9223372036854775807 → scn cL TT nn behind_h109 = scn cL TT nn at_x58 → behind_h109 ≤ nn → at_x58 ≤ behind_h109 → word_h109 = wd TT at_x58 behind_h109 → 400 - behind_h109 < (nF : Int) → X 0 0 109 [] [(0, (2, (Ad E 1))), (1, (0, 0))] S (hv [84, 87] [] (up (up (up (hv [83] [] (up G 1 (Ad E 1) 83 bf4) Gx58) 1 (Ad E 1) 84 at_x58) 1 (Ad E 1) 82 1) 1 (Ad E 1) 87 0) Gh109) := by
              intro nF
              induction nF with
              | zero => intro behind_h109 word_h109 Gh109 behind_h109_e word_h109_e yh109_0 yh109_1 yh109_2 yh109_3 yh109_4 yh109_5 yh109_6 yh109_7 ym109; exfalso; omega
              | succ nF ih109 =>
                intro behind_h109 word_h109 Gh109 behind_h109_e word_h109_e yh109_0 yh109_1 yh109_2 yh109_3 yh109_4 yh109_5 yh109_6 yh109_7 ym109
                have k160 := scn_orL (T := TT) (n := nn) (p := behind_h109)
                have k161 := scn_ge cL TT nn behind_h109
                have k162 := wd_bdo (T := TT) (n := nn) (s := at_x58) (e := behind_h109) (by first | decide | omega) (by first | decide | omega)
                have k163 := wd_or (T := TT) (s := at_x58) (e := behind_h109) (by first | decide | omega)
                refine r_ex hX hP 2 (pc' := 111) (st' := [(2, (Ad E 1)), (2, (Ad E 1))]) (lo' := [(0, (2, (Ad E 1))), (1, (0, 0))]) rfl ?_
                refine r_getKI hX hP rfl fl_12_349 hS (x := behind_h109) behind_h109_e ?_
                refine r_callV gd hX hP rfl cv_12_355 hS (d' := 0) (mc' := 0) (ms' := 0) (as' := [(0, behind_h109)]) (st := []) (by first | decide | omega) (by first | decide | omega) (by first | decide | omega) rfl rfl (Nat.le_of_ble_eq_true rfl) (c_X12_lookR E S (hv [84, 87] [] (up (up (up (hv [83] [] (up G 1 (Ad E 1) 83 bf4) Gx58) 1 (Ad E 1) 84 at_x58) 1 (Ad E 1) 82 1) 1 (Ad E 1) 87 0) Gh109) behind_h109 hS tf8 tf8e (by first | decide | omega) (by first | decide | omega) TT nn (rn_tape rd : _) (by first | decide | omega)) ?_
                rintro _ _ _ ⟨rfl, rfl, z164, rfl, (⟨z164a, z164b, f165, f166⟩ | ⟨rfl, f167⟩)⟩
                · skip
                  refine r_callS gd hX hP rfl cs_12_361 (d' := 0) (mc' := 0) (ms' := 0) (as' := [(0, z164)]) (st := []) (by first | decide | omega) (by first | decide | omega) (by first | decide | omega) rfl rfl (Nat.le_of_ble_eq_true rfl) (c_X12_isLetter E S (hv [84, 87] [] (up (up (up (hv [83] [] (up G 1 (Ad E 1) 83 bf4) Gx58) 1 (Ad E 1) 84 at_x58) 1 (Ad E 1) 82 1) 1 (Ad E 1) 87 0) Gh109) z164 (by first | decide | omega) (by first | decide | omega)) ?_
                  rintro _ _ _ ⟨rfl, rfl, z168, rfl, (⟨rfl, f169, f170⟩ | ⟨rfl, f171⟩)⟩
                  · skip
                    refine r_if_eq hX hP rfl (tgt := 182) rfl (by first | decide | omega) (by first | decide | omega) (fun c172 => ?_) (fun c172 => ?_)
                    · skip
                      exfalso; omega
                    · skip
                      refine r_ex hX hP 2 (pc' := 125) (st' := [(2, (Ad E 1)), (2, (Ad E 1))]) (lo' := [(0, (2, (Ad E 1))), (1, (0, 0))]) rfl ?_
                      refine r_getKI hX hP rfl fl_12_349 hS (x := behind_h109) behind_h109_e ?_
                      refine r_ex hX hP 1 (pc' := 129) (st' := [(2, (Ad E 1)), (0, behind_h109), (2, (Ad E 1))]) (lo' := [(0, (2, (Ad E 1))), (1, (0, 0))]) rfl ?_
                      refine r_getKI hX hP rfl fl_12_352 hS (x := at_x58) at_x58_e ?_
                      refine r_ex hX hP 2 (pc' := 135) (st' := [(0, 12), (0, (behind_h109 - at_x58)), (2, (Ad E 1))]) (lo' := [(0, (2, (Ad E 1))), (1, (0, 0))]) rfl ?_
                      refine r_ic_ge hX hP rfl (tgt := 163) rfl (by first | decide | omega) (by first | decide | omega) (by first | decide | omega) (by first | decide | omega) (fun c173 => ?_) (fun c173 => ?_)
                      · skip
                        refine r_ldc2 hX hP rfl (v := (-1)) (tbg sg9 135 rfl rfl) ?_
                        refine r_putLK hX hP rfl fp_12_364 hS (by first | decide | omega) (by first | decide | omega) (fun h174 => ?_)
                        refine r_ex hX hP 2 (pc' := 171) (st' := [(2, (Ad E 1)), (2, (Ad E 1))]) (lo' := [(0, (2, (Ad E 1))), (1, (0, 0))]) rfl ?_
                        refine r_getKI hX hP rfl fl_12_349 hS (x := behind_h109) behind_h109_e ?_
                        refine r_ex hX hP 2 (pc' := 176) (st' := [(0, (behind_h109 + 1)), (2, (Ad E 1))]) (lo' := [(0, (2, (Ad E 1))), (1, (0, 0))]) rfl ?_
                        refine r_putIK hX hP rfl fp_12_349 hS (by first | decide | omega) (by first | decide | omega) (fun h175 => ?_)
                        refine r_ex hX hP 1 (pc' := 109) (st' := []) (lo' := [(0, (2, (Ad E 1))), (1, (0, 0))]) rfl ?_
                        refine r_eqG (X := X) (hq_up (hq_up (hq_base _ _ _ _) rfl) rfl) ?_
                        exact ih109 (behind_h109 + 1) (-1) _ h175 h174 (by first | decide | omega) (by first | decide | omega) (by first | decide | omega) (by first | decide | omega) (by first | decide | omega) (by first | decide | omega) (by first | decide | omega) (by first | decide | omega) (by first | decide | omega)
                      · skip
                        refine r_ex hX hP 1 (pc' := 139) (st' := [(2, (Ad E 1)), (2, (Ad E 1))]) (lo' := [(0, (2, (Ad E 1))), (1, (0, 0))]) rfl ?_
                        refine r_getKL hX hP rfl fl_12_364 hS (x := word_h109) word_h109_e ?_
                        refine r_ldc2 hX hP rfl (v := 32) (tbg sg9 133 rfl rfl) ?_
                        refine r_ex hX hP 3 (pc' := 148) (st' := [(2, (Ad E 1)), (2, (Ad E 1)), (1, (word_h109 * 32)), (2, (Ad E 1))]) (lo' := [(0, (2, (Ad E 1))), (1, (0, 0))]) rfl ?_
                        refine r_getKI hX hP rfl fl_12_349 hS (x := behind_h109) behind_h109_e ?_
                        refine r_callV gd hX hP rfl cv_12_355 hS (d' := 0) (mc' := 0) (ms' := 0) (as' := [(0, behind_h109)]) (st := [(1, (word_h109 * 32)), (2, (Ad E 1))]) (by first | decide | omega) (by first | decide | omega) (by first | decide | omega) rfl rfl (Nat.le_of_ble_eq_true rfl) (c_X12_lookR E S (hv [84, 87] [] (up (up (up (hv [83] [] (up G 1 (Ad E 1) 83 bf4) Gx58) 1 (Ad E 1) 84 at_x58) 1 (Ad E 1) 82 1) 1 (Ad E 1) 87 0) Gh109) behind_h109 hS tf8 tf8e (by first | decide | omega) (by first | decide | omega) TT nn (rn_tape rd : _) (by first | decide | omega)) ?_
                        rintro _ _ _ ⟨rfl, rfl, z176, rfl, (⟨z176a, z176b, f177, f178⟩ | ⟨rfl, f179⟩)⟩
                        · skip
                          refine r_i2l hX hP rfl (by first | decide | omega) (by first | decide | omega) ?_
                          refine r_ex hX hP 1 (pc' := 156) (st' := [(1, ((word_h109 * 32) + z176)), (2, (Ad E 1))]) (lo' := [(0, (2, (Ad E 1))), (1, (0, 0))]) rfl ?_
                          refine r_ldc2 hX hP rfl (v := 96) (tbg sg9 134 rfl rfl) ?_
                          refine r_ex hX hP 2 (pc' := 166) (st' := [(1, (((word_h109 * 32) + z176) - 96)), (2, (Ad E 1))]) (lo' := [(0, (2, (Ad E 1))), (1, (0, 0))]) rfl ?_
                          refine r_putLK hX hP rfl fp_12_364 hS (by first | decide | omega) (by first | decide | omega) (fun h180 => ?_)
                          refine r_ex hX hP 2 (pc' := 171) (st' := [(2, (Ad E 1)), (2, (Ad E 1))]) (lo' := [(0, (2, (Ad E 1))), (1, (0, 0))]) rfl ?_
                          refine r_getKI hX hP rfl fl_12_349 hS (x := behind_h109) behind_h109_e ?_
                          refine r_ex hX hP 2 (pc' := 176) (st' := [(0, (behind_h109 + 1)), (2, (Ad E 1))]) (lo' := [(0, (2, (Ad E 1))), (1, (0, 0))]) rfl ?_
                          refine r_putIK hX hP rfl fp_12_349 hS (by first | decide | omega) (by first | decide | omega) (fun h181 => ?_)
                          refine r_ex hX hP 1 (pc' := 109) (st' := []) (lo' := [(0, (2, (Ad E 1))), (1, (0, 0))]) rfl ?_
                          refine r_eqG (X := X) (hq_up (hq_up (hq_base _ _ _ _) rfl) rfl) ?_
                          exact ih109 (behind_h109 + 1) (((word_h109 * 32) + z176) - 96) _ h181 h180 (by first | decide | omega) (by first | decide | omega) (by first | decide | omega) (by first | decide | omega) (by first | decide | omega) (by first | decide | omega) (by first | decide | omega) (by first | decide | omega) (by first | decide | omega)
                        · skip
                          refine r_i2l hX hP rfl (by first | decide | omega) (by first | decide | omega) ?_
                          refine r_ex hX hP 1 (pc' := 156) (st' := [(1, ((word_h109 * 32) + 0)), (2, (Ad E 1))]) (lo' := [(0, (2, (Ad E 1))), (1, (0, 0))]) rfl ?_
                          refine r_ldc2 hX hP rfl (v := 96) (tbg sg9 134 rfl rfl) ?_
                          refine r_ex hX hP 2 (pc' := 166) (st' := [(1, (((word_h109 * 32) + 0) - 96)), (2, (Ad E 1))]) (lo' := [(0, (2, (Ad E 1))), (1, (0, 0))]) rfl ?_
                          refine r_putLK hX hP rfl fp_12_364 hS (by first | decide | omega) (by first | decide | omega) (fun h182 => ?_)
                          refine r_ex hX hP 2 (pc' := 171) (st' := [(2, (Ad E 1)), (2, (Ad E 1))]) (lo' := [(0, (2, (Ad E 1))), (1, (0, 0))]) rfl ?_
                          refine r_getKI hX hP rfl fl_12_349 hS (x := behind_h109) behind_h109_e ?_
                          refine r_ex hX hP 2 (pc' := 176) (st' := [(0, (behind_h109 + 1)), (2, (Ad E 1))]) (lo' := [(0, (2, (Ad E 1))), (1, (0, 0))]) rfl ?_
                          refine r_putIK hX hP rfl fp_12_349 hS (by first | decide | omega) (by first | decide | omega) (fun h183 => ?_)
                          refine r_ex hX hP 1 (pc' := 109) (st' := []) (lo' := [(0, (2, (Ad E 1))), (1, (0, 0))]) rfl ?_
                          refine r_eqG (X := X) (hq_up (hq_up (hq_base _ _ _ _) rfl) rfl) ?_
                          exact ih109 (behind_h109 + 1) (((word_h109 * 32) + 0) - 96) _ h183 h182 (by first | decide | omega) (by first | decide | omega) (by first | decide | omega) (by first | decide | omega) (by first | decide | omega) (by first | decide | omega) (by first | decide | omega) (by first | decide | omega) (by first | decide | omega)
                  · skip
                    refine r_if_eq hX hP rfl (tgt := 182) rfl (by first | decide | omega) (by first | decide | omega) (fun c184 => ?_) (fun c184 => ?_)
                    · skip
                      refine r_eqG (X := X) (hq_loop (hq_refl [84, 87] [] _) rfl) ?_
                      exact x182 behind_h109 word_h109 _ behind_h109_e word_h109_e (by first | decide | omega) (by first | decide | omega) (by first | decide | omega) (by first | decide | omega) (by first | decide | omega) (by first | decide | omega) (by first | decide | omega) (by first | decide | omega)
                    · skip
                      exfalso; omega
                · skip
                  refine r_callS gd hX hP rfl cs_12_361 (d' := 0) (mc' := 0) (ms' := 0) (as' := [(0, 0)]) (st := []) (by first | decide | omega) (by first | decide | omega) (by first | decide | omega) rfl rfl (Nat.le_of_ble_eq_true rfl) (c_X12_isLetter E S (hv [84, 87] [] (up (up (up (hv [83] [] (up G 1 (Ad E 1) 83 bf4) Gx58) 1 (Ad E 1) 84 at_x58) 1 (Ad E 1) 82 1) 1 (Ad E 1) 87 0) Gh109) 0 (by first | decide | omega) (by first | decide | omega)) ?_
                  rintro _ _ _ ⟨rfl, rfl, z185, rfl, (⟨rfl, f186, f187⟩ | ⟨rfl, f188⟩)⟩
                  · skip
                    refine r_if_eq hX hP rfl (tgt := 182) rfl (by first | decide | omega) (by first | decide | omega) (fun c189 => ?_) (fun c189 => ?_)
                    · skip
                      exfalso; omega
                    · skip
                      refine r_ex hX hP 2 (pc' := 125) (st' := [(2, (Ad E 1)), (2, (Ad E 1))]) (lo' := [(0, (2, (Ad E 1))), (1, (0, 0))]) rfl ?_
                      refine r_getKI hX hP rfl fl_12_349 hS (x := behind_h109) behind_h109_e ?_
                      refine r_ex hX hP 1 (pc' := 129) (st' := [(2, (Ad E 1)), (0, behind_h109), (2, (Ad E 1))]) (lo' := [(0, (2, (Ad E 1))), (1, (0, 0))]) rfl ?_
                      refine r_getKI hX hP rfl fl_12_352 hS (x := at_x58) at_x58_e ?_
                      refine r_ex hX hP 2 (pc' := 135) (st' := [(0, 12), (0, (behind_h109 - at_x58)), (2, (Ad E 1))]) (lo' := [(0, (2, (Ad E 1))), (1, (0, 0))]) rfl ?_
                      refine r_ic_ge hX hP rfl (tgt := 163) rfl (by first | decide | omega) (by first | decide | omega) (by first | decide | omega) (by first | decide | omega) (fun c190 => ?_) (fun c190 => ?_)
                      · skip
                        refine r_ldc2 hX hP rfl (v := (-1)) (tbg sg9 135 rfl rfl) ?_
                        refine r_putLK hX hP rfl fp_12_364 hS (by first | decide | omega) (by first | decide | omega) (fun h191 => ?_)
                        refine r_ex hX hP 2 (pc' := 171) (st' := [(2, (Ad E 1)), (2, (Ad E 1))]) (lo' := [(0, (2, (Ad E 1))), (1, (0, 0))]) rfl ?_
                        refine r_getKI hX hP rfl fl_12_349 hS (x := behind_h109) behind_h109_e ?_
                        refine r_ex hX hP 2 (pc' := 176) (st' := [(0, (behind_h109 + 1)), (2, (Ad E 1))]) (lo' := [(0, (2, (Ad E 1))), (1, (0, 0))]) rfl ?_
                        refine r_putIK hX hP rfl fp_12_349 hS (by first | decide | omega) (by first | decide | omega) (fun h192 => ?_)
                        refine r_ex hX hP 1 (pc' := 109) (st' := []) (lo' := [(0, (2, (Ad E 1))), (1, (0, 0))]) rfl ?_
                        refine r_eqG (X := X) (hq_up (hq_up (hq_base _ _ _ _) rfl) rfl) ?_
                        exact ih109 (behind_h109 + 1) (-1) _ h192 h191 (by first | decide | omega) (by first | decide | omega) (by first | decide | omega) (by first | decide | omega) (by first | decide | omega) (by first | decide | omega) (by first | decide | omega) (by first | decide | omega) (by first | decide | omega)
                      · skip
                        refine r_ex hX hP 1 (pc' := 139) (st' := [(2, (Ad E 1)), (2, (Ad E 1))]) (lo' := [(0, (2, (Ad E 1))), (1, (0, 0))]) rfl ?_
                        refine r_getKL hX hP rfl fl_12_364 hS (x := word_h109) word_h109_e ?_
                        refine r_ldc2 hX hP rfl (v := 32) (tbg sg9 133 rfl rfl) ?_
                        refine r_ex hX hP 3 (pc' := 148) (st' := [(2, (Ad E 1)), (2, (Ad E 1)), (1, (word_h109 * 32)), (2, (Ad E 1))]) (lo' := [(0, (2, (Ad E 1))), (1, (0, 0))]) rfl ?_
                        refine r_getKI hX hP rfl fl_12_349 hS (x := behind_h109) behind_h109_e ?_
                        refine r_callV gd hX hP rfl cv_12_355 hS (d' := 0) (mc' := 0) (ms' := 0) (as' := [(0, behind_h109)]) (st := [(1, (word_h109 * 32)), (2, (Ad E 1))]) (by first | decide | omega) (by first | decide | omega) (by first | decide | omega) rfl rfl (Nat.le_of_ble_eq_true rfl) (c_X12_lookR E S (hv [84, 87] [] (up (up (up (hv [83] [] (up G 1 (Ad E 1) 83 bf4) Gx58) 1 (Ad E 1) 84 at_x58) 1 (Ad E 1) 82 1) 1 (Ad E 1) 87 0) Gh109) behind_h109 hS tf8 tf8e (by first | decide | omega) (by first | decide | omega) TT nn (rn_tape rd : _) (by first | decide | omega)) ?_
                        rintro _ _ _ ⟨rfl, rfl, z193, rfl, (⟨z193a, z193b, f194, f195⟩ | ⟨rfl, f196⟩)⟩
                        · skip
                          refine r_i2l hX hP rfl (by first | decide | omega) (by first | decide | omega) ?_
                          refine r_ex hX hP 1 (pc' := 156) (st' := [(1, ((word_h109 * 32) + z193)), (2, (Ad E 1))]) (lo' := [(0, (2, (Ad E 1))), (1, (0, 0))]) rfl ?_
                          refine r_ldc2 hX hP rfl (v := 96) (tbg sg9 134 rfl rfl) ?_
                          refine r_ex hX hP 2 (pc' := 166) (st' := [(1, (((word_h109 * 32) + z193) - 96)), (2, (Ad E 1))]) (lo' := [(0, (2, (Ad E 1))), (1, (0, 0))]) rfl ?_
                          refine r_putLK hX hP rfl fp_12_364 hS (by first | decide | omega) (by first | decide | omega) (fun h197 => ?_)
                          refine r_ex hX hP 2 (pc' := 171) (st' := [(2, (Ad E 1)), (2, (Ad E 1))]) (lo' := [(0, (2, (Ad E 1))), (1, (0, 0))]) rfl ?_
                          refine r_getKI hX hP rfl fl_12_349 hS (x := behind_h109) behind_h109_e ?_
                          refine r_ex hX hP 2 (pc' := 176) (st' := [(0, (behind_h109 + 1)), (2, (Ad E 1))]) (lo' := [(0, (2, (Ad E 1))), (1, (0, 0))]) rfl ?_
                          refine r_putIK hX hP rfl fp_12_349 hS (by first | decide | omega) (by first | decide | omega) (fun h198 => ?_)
                          refine r_ex hX hP 1 (pc' := 109) (st' := []) (lo' := [(0, (2, (Ad E 1))), (1, (0, 0))]) rfl ?_
                          refine r_eqG (X := X) (hq_up (hq_up (hq_base _ _ _ _) rfl) rfl) ?_
                          exact ih109 (behind_h109 + 1) (((word_h109 * 32) + z193) - 96) _ h198 h197 (by first | decide | omega) (by first | decide | omega) (by first | decide | omega) (by first | decide | omega) (by first | decide | omega) (by first | decide | omega) (by first | decide | omega) (by first | decide | omega) (by first | decide | omega)
                        · skip
                          refine r_i2l hX hP rfl (by first | decide | omega) (by first | decide | omega) ?_
                          refine r_ex hX hP 1 (pc' := 156) (st' := [(1, ((word_h109 * 32) + 0)), (2, (Ad E 1))]) (lo' := [(0, (2, (Ad E 1))), (1, (0, 0))]) rfl ?_
                          refine r_ldc2 hX hP rfl (v := 96) (tbg sg9 134 rfl rfl) ?_
                          refine r_ex hX hP 2 (pc' := 166) (st' := [(1, (((word_h109 * 32) + 0) - 96)), (2, (Ad E 1))]) (lo' := [(0, (2, (Ad E 1))), (1, (0, 0))]) rfl ?_
                          refine r_putLK hX hP rfl fp_12_364 hS (by first | decide | omega) (by first | decide | omega) (fun h199 => ?_)
                          refine r_ex hX hP 2 (pc' := 171) (st' := [(2, (Ad E 1)), (2, (Ad E 1))]) (lo' := [(0, (2, (Ad E 1))), (1, (0, 0))]) rfl ?_
                          refine r_getKI hX hP rfl fl_12_349 hS (x := behind_h109) behind_h109_e ?_
                          refine r_ex hX hP 2 (pc' := 176) (st' := [(0, (behind_h109 + 1)), (2, (Ad E 1))]) (lo' := [(0, (2, (Ad E 1))), (1, (0, 0))]) rfl ?_
                          refine r_putIK hX hP rfl fp_12_349 hS (by first | decide | omega) (by first | decide | omega) (fun h200 => ?_)
                          refine r_ex hX hP 1 (pc' := 109) (st' := []) (lo' := [(0, (2, (Ad E 1))), (1, (0, 0))]) rfl ?_
                          refine r_eqG (X := X) (hq_up (hq_up (hq_base _ _ _ _) rfl) rfl) ?_
                          exact ih109 (behind_h109 + 1) (((word_h109 * 32) + 0) - 96) _ h200 h199 (by first | decide | omega) (by first | decide | omega) (by first | decide | omega) (by first | decide | omega) (by first | decide | omega) (by first | decide | omega) (by first | decide | omega) (by first | decide | omega) (by first | decide | omega)
                  · skip
                    refine r_if_eq hX hP rfl (tgt := 182) rfl (by first | decide | omega) (by first | decide | omega) (fun c201 => ?_) (fun c201 => ?_)
                    · skip
                      refine r_eqG (X := X) (hq_loop (hq_refl [84, 87] [] _) rfl) ?_
                      exact x182 behind_h109 word_h109 _ behind_h109_e word_h109_e (by first | decide | omega) (by first | decide | omega) (by first | decide | omega) (by first | decide | omega) (by first | decide | omega) (by first | decide | omega) (by first | decide | omega) (by first | decide | omega)
                    · skip
                      exfalso; omega
            refine r_eqG (X := X) (hq_refl [84, 87] [] _) ?_
            exact loop109 ((400 - at_x58) + 1 : Int).toNat at_x58 0 _ h7 h156 (by first | decide | omega) (by first | decide | omega) (by first | decide | omega) (by first | decide | omega) (by first | decide | omega) (by first | decide | omega) (by first | decide | omega) (by first | decide | omega) (by first | decide | omega)
        · skip
          refine r_if_eq hX hP rfl (tgt := 198) rfl (by first | decide | omega) (by first | decide | omega) (fun c202 => ?_) (fun c202 => ?_)
          · skip
            refine r_ex hX hP 1 (pc' := 199) (st' := [(0, 0)]) (lo' := [(0, (2, (Ad E 1))), (1, (0, 0))]) rfl ?_
            refine r_callS gd hX hP rfl cs_12_376 (d' := 0) (mc' := 0) (ms' := 0) (as' := [(0, 0)]) (st := []) (by first | decide | omega) (by first | decide | omega) (by first | decide | omega) rfl rfl (Nat.le_of_ble_eq_true rfl) (c_X12_isDigit E S (up (hv [83] [] (up G 1 (Ad E 1) 83 bf4) Gx58) 1 (Ad E 1) 84 at_x58) 0 (by first | decide | omega) (by first | decide | omega)) ?_
            rintro _ _ _ ⟨rfl, rfl, z203, rfl, (⟨rfl, f204, f205⟩ | ⟨rfl, f206⟩)⟩
            · skip
              refine r_if_eq hX hP rfl (tgt := 300) rfl (by first | decide | omega) (by first | decide | omega) (fun c207 => ?_) (fun c207 => ?_)
              · skip
                exfalso; omega
              · skip
                have k208 := dv_zero (T := TT) (s := at_x58)
                refine r_ex hX hP 2 (pc' := 207) (st' := [(0, 0), (2, (Ad E 1))]) (lo' := [(0, (2, (Ad E 1))), (1, (0, 0))]) rfl ?_
                refine r_putIK hX hP rfl fp_12_379 hS (by first | decide | omega) (by first | decide | omega) (fun h209 => ?_)
                have x274 : ∀ (behind_x274 number_x274 : Int) (Gx274 : Gh), behind_x274 = (hv [84, 85] [] (up (up (hv [83] [] (up G 1 (Ad E 1) 83 bf4) Gx58) 1 (Ad E 1) 84 at_x58) 1 (Ad E 1) 85 0) Gx274) 1 (Ad E 1) 84 → number_x274 = (hv [84, 85] [] (up (up (hv [83] [] (up G 1 (Ad E 1) 83 bf4) Gx58) 1 (Ad E 1) 84 at_x58) 1 (Ad E 1) 85 0) Gx274) 1 (Ad E 1) 85 → 0 ≤ behind_x274 → behind_x274 ≤ 400 → 0 ≤ number_x274 → number_x274 ≤ 9999999 → scn cD TT nn at_x58 = behind_x274 → behind_x274 ≤ nn → at_x58 ≤ behind_x274 → number_x274 = dgv TT at_x58 behind_x274 → X 0 0 274 [] [(0, (2, (Ad E 1))), (1, (0, 0))] S (hv [84, 85] [] (up (up (hv [83] [] (up G 1 (Ad E 1) 83 bf4) Gx58) 1 (Ad E 1) 84 at_x58) 1 (Ad E 1) 85 0) Gx274) := by
                  intro behind_x274 number_x274 Gx274 behind_x274_e number_x274_e yx274_0 yx274_1 yx274_2 yx274_3 yx274_4 yx274_5 yx274_6 yx274_7
                  refine r_ex hX hP 2 (pc' := 276) (st' := [(2, (Ad E 1)), (2, (Ad E 1))]) (lo' := [(0, (2, (Ad E 1))), (1, (0, 0))]) rfl ?_
                  refine r_getKI hX hP rfl fl_12_349 hS (x := behind_x274) behind_x274_e ?_
                  refine r_ex hX hP 1 (pc' := 280) (st' := [(2, (Ad E 1)), (0, behind_x274), (2, (Ad E 1))]) (lo' := [(0, (2, (Ad E 1))), (1, (0, 0))]) rfl ?_
                  refine r_getKI hX hP rfl fl_12_352 hS (x := at_x58) at_x58_e ?_
                  refine r_ex hX hP 2 (pc' := 286) (st' := [(0, 7), (0, (behind_x274 - at_x58)), (2, (Ad E 1))]) (lo' := [(0, (2, (Ad E 1))), (1, (0, 0))]) rfl ?_
                  refine r_ic_le hX hP rfl (tgt := 293) rfl (by first | decide | omega) (by first | decide | omega) (by first | decide | omega) (by first | decide | omega) (fun c210 => ?_) (fun c210 => ?_)
                  · skip
                    refine r_ex hX hP 1 (pc' := 294) (st' := [(0, 2), (2, (Ad E 1))]) (lo' := [(0, (2, (Ad E 1))), (1, (0, 0))]) rfl ?_
                    refine r_putIK hX hP rfl fp_12_358 hS (by first | decide | omega) (by first | decide | omega) (fun h211 => ?_)
                    refine r_ex hX hP 1 (pc' := 354) (st' := []) (lo' := [(0, (2, (Ad E 1))), (1, (0, 0))]) rfl ?_
                    have h212S : tkS TT nn a0 = at_x58 := (show scn cB TT nn a0 = at_x58 from by omega)
                    obtain ⟨h212K, h212E, h212V⟩ := tk_nm (e := behind_x274) h212S (by first | decide | omega) (by first | decide | omega) (by first | decide | omega) (by first | decide | omega)
                    have h212O := srt_or (tkK TT nn a0)
                    have rd213 : RdM E TT nn (ud sr 0 a0) (up (hv [84, 85] [] (up (up (hv [83] [] (up G 1 (Ad E 1) 83 bf4) Gx58) 1 (Ad E 1) 84 at_x58) 1 (Ad E 1) 85 0) Gx274) 1 (Ad E 1) 82 2) := rm_mk (rn_tape rd : _) (rn_end rd : _) (at_x58_e.symm.trans h212S.symm) (behind_x274_e.symm.trans (show behind_x274 = tkE TT nn a0 from by omega)) (h211.symm.trans (show 2 = srt (tkK TT nn a0) from by omega)) (Or.inr (number_x274_e.symm.trans (show number_x274 = tkV TT nn a0 from by omega))) (Or.inl (show tkK TT nn a0 ≤ 3 from by omega)) (Or.inl (show tkK TT nn a0 ≠ 1 from by omega)) (Or.inl (show tkK TT nn a0 ≠ 1 from by omega)) (rn_bad rd : _) (rn_bat rd : _) (rn_nm rd : _) (rn_nc rd : _) (rn_nd rd : _) (rn_ti rd : _) (rn_to rd : _) (rn_w0 rd : _) (rn_w1 rd : _) (rn_w2 rd : _) (rn_q0 rd : _) (rn_q1 rd : _) (rn_q2 rd : _) (rn_z0 rd : _) (rn_z1 rd : _) (rn_z2 rd : _) (rn_nv rd : _) (show 0 ≤ a0 from by omega) (show a0 ≤ nn from by omega) (rn_n4 rd : _) (rn_c3 rd : _)
                    exact r_retV hX hP rfl rfl (by first | decide | omega) (by first | decide | omega) ⟨rfl, ⟨_, (hq_up (hq_loop (hq_up (hq_up (hq_loop (hq_up (hq_refl _ _ _) rfl) rfl) rfl) rfl) rfl) rfl).symm⟩, rfl, rd213⟩
                  · skip
                    refine r_ex hX hP 2 (pc' := 294) (st' := [(0, 4), (2, (Ad E 1))]) (lo' := [(0, (2, (Ad E 1))), (1, (0, 0))]) rfl ?_
                    refine r_putIK hX hP rfl fp_12_358 hS (by first | decide | omega) (by first | decide | omega) (fun h214 => ?_)
                    refine r_ex hX hP 1 (pc' := 354) (st' := []) (lo' := [(0, (2, (Ad E 1))), (1, (0, 0))]) rfl ?_
                    have h215S : tkS TT nn a0 = at_x58 := (show scn cB TT nn a0 = at_x58 from by omega)
                    obtain ⟨h215K, h215E, h215V⟩ := tk_nm (e := behind_x274) h215S (by first | decide | omega) (by first | decide | omega) (by first | decide | omega) (by first | decide | omega)
                    have h215O := srt_or (tkK TT nn a0)
                    have rd216 : RdM E TT nn (ud sr 0 a0) (up (hv [84, 85] [] (up (up (hv [83] [] (up G 1 (Ad E 1) 83 bf4) Gx58) 1 (Ad E 1) 84 at_x58) 1 (Ad E 1) 85 0) Gx274) 1 (Ad E 1) 82 4) := rm_mk (rn_tape rd : _) (rn_end rd : _) (at_x58_e.symm.trans h215S.symm) (behind_x274_e.symm.trans (show behind_x274 = tkE TT nn a0 from by omega)) (h214.symm.trans (show 4 = srt (tkK TT nn a0) from by omega)) (Or.inr (number_x274_e.symm.trans (show number_x274 = tkV TT nn a0 from by omega))) (Or.inl (show tkK TT nn a0 ≤ 3 from by omega)) (Or.inl (show tkK TT nn a0 ≠ 1 from by omega)) (Or.inl (show tkK TT nn a0 ≠ 1 from by omega)) (rn_bad rd : _) (rn_bat rd : _) (rn_nm rd : _) (rn_nc rd : _) (rn_nd rd : _) (rn_ti rd : _) (rn_to rd : _) (rn_w0 rd : _) (rn_w1 rd : _) (rn_w2 rd : _) (rn_q0 rd : _) (rn_q1 rd : _) (rn_q2 rd : _) (rn_z0 rd : _) (rn_z1 rd : _) (rn_z2 rd : _) (rn_nv rd : _) (show 0 ≤ a0 from by omega) (show a0 ≤ nn from by omega) (rn_n4 rd : _) (rn_c3 rd : _)
                    exact r_retV hX hP rfl rfl (by first | decide | omega) (by first | decide | omega) ⟨rfl, ⟨_, (hq_up (hq_loop (hq_up (hq_up (hq_loop (hq_up (hq_refl _ _ _) rfl) rfl) rfl) rfl) rfl) rfl).symm⟩, rfl, rd216⟩
                have loop210 : ∀ (nF : Nat) (behind_h210 number_h210 : Int) (Gh210 : Gh), behind_h210 = (hv [84, 85] [] (up (up (hv [83] [] (up G 1 (Ad E 1) 83 bf4) Gx58) 1 (Ad E 1) 84 at_x58) 1 (Ad E 1) 85 0) Gh210) 1 (Ad E 1) 84 → number_h210 = (hv [84, 85] [] (up (up (hv [83] [] (up G 1 (Ad E 1) 83 bf4) Gx58) 1 (Ad E 1) 84 at_x58) 1 (Ad E 1) 85 0) Gh210) 1 (Ad E 1) 85 → 0 ≤ behind_h210 → behind_h210 ≤ 400 → 0 ≤ number_h210 → number_h210 ≤ 9999999 → scn cD TT nn behind_h210 = scn cD TT nn at_x58 → behind_h210 ≤ nn → at_x58 ≤ behind_h210 → number_h210 = dgv TT at_x58 behind_h210 → 400 - behind_h210 < (nF : Int) → X 0 0 210 [] [(0, (2, (Ad E 1))), (1, (0, 0))] S (hv [84, 85] [] (up (up (hv [83] [] (up G 1 (Ad E 1) 83 bf4) Gx58) 1 (Ad E 1) 84 at_x58) 1 (Ad E 1) 85 0) Gh210) := by
                  intro nF
                  induction nF with
                  | zero => intro behind_h210 number_h210 Gh210 behind_h210_e number_h210_e yh210_0 yh210_1 yh210_2 yh210_3 yh210_4 yh210_5 yh210_6 yh210_7 ym210; exfalso; omega
                  | succ nF ih210 =>
                    intro behind_h210 number_h210 Gh210 behind_h210_e number_h210_e yh210_0 yh210_1 yh210_2 yh210_3 yh210_4 yh210_5 yh210_6 yh210_7 ym210
                    have k217 := scn_orD (T := TT) (n := nn) (p := behind_h210)
                    have k218 := scn_ge cD TT nn behind_h210
                    have k219 := dv_bdo (T := TT) (n := nn) (s := at_x58) (e := behind_h210) (by first | decide | omega) (by first | decide | omega)
                    have k220 := dv_or (T := TT) (s := at_x58) (e := behind_h210) (by first | decide | omega)
                    refine r_ex hX hP 2 (pc' := 212) (st' := [(2, (Ad E 1)), (2, (Ad E 1))]) (lo' := [(0, (2, (Ad E 1))), (1, (0, 0))]) rfl ?_
                    refine r_getKI hX hP rfl fl_12_349 hS (x := behind_h210) behind_h210_e ?_
                    refine r_callV gd hX hP rfl cv_12_355 hS (d' := 0) (mc' := 0) (ms' := 0) (as' := [(0, behind_h210)]) (st := []) (by first | decide | omega) (by first | decide | omega) (by first | decide | omega) rfl rfl (Nat.le_of_ble_eq_true rfl) (c_X12_lookR E S (hv [84, 85] [] (up (up (hv [83] [] (up G 1 (Ad E 1) 83 bf4) Gx58) 1 (Ad E 1) 84 at_x58) 1 (Ad E 1) 85 0) Gh210) behind_h210 hS tf8 tf8e (by first | decide | omega) (by first | decide | omega) TT nn (rn_tape rd : _) (by first | decide | omega)) ?_
                    rintro _ _ _ ⟨rfl, rfl, z221, rfl, (⟨z221a, z221b, f222, f223⟩ | ⟨rfl, f224⟩)⟩
                    · skip
                      refine r_callS gd hX hP rfl cs_12_376 (d' := 0) (mc' := 0) (ms' := 0) (as' := [(0, z221)]) (st := []) (by first | decide | omega) (by first | decide | omega) (by first | decide | omega) rfl rfl (Nat.le_of_ble_eq_true rfl) (c_X12_isDigit E S (hv [84, 85] [] (up (up (hv [83] [] (up G 1 (Ad E 1) 83 bf4) Gx58) 1 (Ad E 1) 84 at_x58) 1 (Ad E 1) 85 0) Gh210) z221 (by first | decide | omega) (by first | decide | omega)) ?_
                      rintro _ _ _ ⟨rfl, rfl, z225, rfl, (⟨rfl, f226, f227⟩ | ⟨rfl, f228⟩)⟩
                      · skip
                        refine r_if_eq hX hP rfl (tgt := 274) rfl (by first | decide | omega) (by first | decide | omega) (fun c229 => ?_) (fun c229 => ?_)
                        · skip
                          exfalso; omega
                        · skip
                          refine r_ex hX hP 1 (pc' := 225) (st' := [(2, (Ad E 1))]) (lo' := [(0, (2, (Ad E 1))), (1, (0, 0))]) rfl ?_
                          refine r_getKI hX hP rfl fl_12_349 hS (x := behind_h210) behind_h210_e ?_
                          refine r_ex hX hP 1 (pc' := 229) (st' := [(2, (Ad E 1)), (0, behind_h210)]) (lo' := [(0, (2, (Ad E 1))), (1, (0, 0))]) rfl ?_
                          refine r_getKI hX hP rfl fl_12_352 hS (x := at_x58) at_x58_e ?_
                          refine r_ex hX hP 2 (pc' := 235) (st' := [(0, 7), (0, (behind_h210 - at_x58))]) (lo' := [(0, (2, (Ad E 1))), (1, (0, 0))]) rfl ?_
                          refine r_ic_ge hX hP rfl (tgt := 261) rfl (by first | decide | omega) (by first | decide | omega) (by first | decide | omega) (by first | decide | omega) (fun c230 => ?_) (fun c230 => ?_)
                          · skip
                            refine r_ex hX hP 2 (pc' := 263) (st' := [(2, (Ad E 1)), (2, (Ad E 1))]) (lo' := [(0, (2, (Ad E 1))), (1, (0, 0))]) rfl ?_
                            refine r_getKI hX hP rfl fl_12_349 hS (x := behind_h210) behind_h210_e ?_
                            refine r_ex hX hP 2 (pc' := 268) (st' := [(0, (behind_h210 + 1)), (2, (Ad E 1))]) (lo' := [(0, (2, (Ad E 1))), (1, (0, 0))]) rfl ?_
                            refine r_putIK hX hP rfl fp_12_349 hS (by first | decide | omega) (by first | decide | omega) (fun h231 => ?_)
                            refine r_ex hX hP 1 (pc' := 210) (st' := []) (lo' := [(0, (2, (Ad E 1))), (1, (0, 0))]) rfl ?_
                            refine r_eqG (X := X) (hq_up (hq_base _ _ _ _) rfl) ?_
                            exact ih210 (behind_h210 + 1) number_h210 _ h231 number_h210_e (by first | decide | omega) (by first | decide | omega) (by first | decide | omega) (by first | decide | omega) (by first | decide | omega) (by first | decide | omega) (by first | decide | omega) (by first | decide | omega) (by first | decide | omega)
                          · skip
                            refine r_ex hX hP 3 (pc' := 242) (st' := [(2, (Ad E 1)), (0, 10), (2, (Ad E 1))]) (lo' := [(0, (2, (Ad E 1))), (1, (0, 0))]) rfl ?_
                            refine r_getKI hX hP rfl fl_12_379 hS (x := number_h210) number_h210_e ?_
                            refine r_ex hX hP 3 (pc' := 248) (st' := [(2, (Ad E 1)), (2, (Ad E 1)), (0, (10 * number_h210)), (2, (Ad E 1))]) (lo' := [(0, (2, (Ad E 1))), (1, (0, 0))]) rfl ?_
                            refine r_getKI hX hP rfl fl_12_349 hS (x := behind_h210) behind_h210_e ?_
                            refine r_callV gd hX hP rfl cv_12_355 hS (d' := 0) (mc' := 0) (ms' := 0) (as' := [(0, behind_h210)]) (st := [(0, (10 * number_h210)), (2, (Ad E 1))]) (by first | decide | omega) (by first | decide | omega) (by first | decide | omega) rfl rfl (Nat.le_of_ble_eq_true rfl) (c_X12_lookR E S (hv [84, 85] [] (up (up (hv [83] [] (up G 1 (Ad E 1) 83 bf4) Gx58) 1 (Ad E 1) 84 at_x58) 1 (Ad E 1) 85 0) Gh210) behind_h210 hS tf8 tf8e (by first | decide | omega) (by first | decide | omega) TT nn (rn_tape rd : _) (by first | decide | omega)) ?_
                            rintro _ _ _ ⟨rfl, rfl, z232, rfl, (⟨z232a, z232b, f233, f234⟩ | ⟨rfl, f235⟩)⟩
                            · skip
                              refine r_ex hX hP 3 (pc' := 258) (st' := [(0, (((10 * number_h210) + z232) - 48)), (2, (Ad E 1))]) (lo' := [(0, (2, (Ad E 1))), (1, (0, 0))]) rfl ?_
                              refine r_putIK hX hP rfl fp_12_379 hS (by first | decide | omega) (by first | decide | omega) (fun h236 => ?_)
                              refine r_ex hX hP 2 (pc' := 263) (st' := [(2, (Ad E 1)), (2, (Ad E 1))]) (lo' := [(0, (2, (Ad E 1))), (1, (0, 0))]) rfl ?_
                              refine r_getKI hX hP rfl fl_12_349 hS (x := behind_h210) behind_h210_e ?_
                              refine r_ex hX hP 2 (pc' := 268) (st' := [(0, (behind_h210 + 1)), (2, (Ad E 1))]) (lo' := [(0, (2, (Ad E 1))), (1, (0, 0))]) rfl ?_
                              refine r_putIK hX hP rfl fp_12_349 hS (by first | decide | omega) (by first | decide | omega) (fun h237 => ?_)
                              refine r_ex hX hP 1 (pc' := 210) (st' := []) (lo' := [(0, (2, (Ad E 1))), (1, (0, 0))]) rfl ?_
                              refine r_eqG (X := X) (hq_up (hq_up (hq_base _ _ _ _) rfl) rfl) ?_
                              exact ih210 (behind_h210 + 1) (((10 * number_h210) + z232) - 48) _ h237 h236 (by first | decide | omega) (by first | decide | omega) (by first | decide | omega) (by first | decide | omega) (by first | decide | omega) (by first | decide | omega) (by first | decide | omega) (by first | decide | omega) (by first | decide | omega)
                            · skip
                              refine r_ex hX hP 3 (pc' := 258) (st' := [(0, (((10 * number_h210) + 0) - 48)), (2, (Ad E 1))]) (lo' := [(0, (2, (Ad E 1))), (1, (0, 0))]) rfl ?_
                              refine r_putIK hX hP rfl fp_12_379 hS (by first | decide | omega) (by first | decide | omega) (fun h238 => ?_)
                              refine r_ex hX hP 2 (pc' := 263) (st' := [(2, (Ad E 1)), (2, (Ad E 1))]) (lo' := [(0, (2, (Ad E 1))), (1, (0, 0))]) rfl ?_
                              refine r_getKI hX hP rfl fl_12_349 hS (x := behind_h210) behind_h210_e ?_
                              refine r_ex hX hP 2 (pc' := 268) (st' := [(0, (behind_h210 + 1)), (2, (Ad E 1))]) (lo' := [(0, (2, (Ad E 1))), (1, (0, 0))]) rfl ?_
                              refine r_putIK hX hP rfl fp_12_349 hS (by first | decide | omega) (by first | decide | omega) (fun h239 => ?_)
                              refine r_ex hX hP 1 (pc' := 210) (st' := []) (lo' := [(0, (2, (Ad E 1))), (1, (0, 0))]) rfl ?_
                              refine r_eqG (X := X) (hq_up (hq_up (hq_base _ _ _ _) rfl) rfl) ?_
                              exact ih210 (behind_h210 + 1) (((10 * number_h210) + 0) - 48) _ h239 h238 (by first | decide | omega) (by first | decide | omega) (by first | decide | omega) (by first | decide | omega) (by first | decide | omega) (by first | decide | omega) (by first | decide | omega) (by first | decide | omega) (by first | decide | omega)
                      · skip
                        refine r_if_eq hX hP rfl (tgt := 274) rfl (by first | decide | omega) (by first | decide | omega) (fun c240 => ?_) (fun c240 => ?_)
                        · skip
                          refine r_eqG (X := X) (hq_loop (hq_refl [84, 85] [] _) rfl) ?_
                          exact x274 behind_h210 number_h210 _ behind_h210_e number_h210_e (by first | decide | omega) (by first | decide | omega) (by first | decide | omega) (by first | decide | omega) (by first | decide | omega) (by first | decide | omega) (by first | decide | omega) (by first | decide | omega)
                        · skip
                          exfalso; omega
                    · skip
                      refine r_callS gd hX hP rfl cs_12_376 (d' := 0) (mc' := 0) (ms' := 0) (as' := [(0, 0)]) (st := []) (by first | decide | omega) (by first | decide | omega) (by first | decide | omega) rfl rfl (Nat.le_of_ble_eq_true rfl) (c_X12_isDigit E S (hv [84, 85] [] (up (up (hv [83] [] (up G 1 (Ad E 1) 83 bf4) Gx58) 1 (Ad E 1) 84 at_x58) 1 (Ad E 1) 85 0) Gh210) 0 (by first | decide | omega) (by first | decide | omega)) ?_
                      rintro _ _ _ ⟨rfl, rfl, z241, rfl, (⟨rfl, f242, f243⟩ | ⟨rfl, f244⟩)⟩
                      · skip
                        refine r_if_eq hX hP rfl (tgt := 274) rfl (by first | decide | omega) (by first | decide | omega) (fun c245 => ?_) (fun c245 => ?_)
                        · skip
                          exfalso; omega
                        · skip
                          refine r_ex hX hP 1 (pc' := 225) (st' := [(2, (Ad E 1))]) (lo' := [(0, (2, (Ad E 1))), (1, (0, 0))]) rfl ?_
                          refine r_getKI hX hP rfl fl_12_349 hS (x := behind_h210) behind_h210_e ?_
                          refine r_ex hX hP 1 (pc' := 229) (st' := [(2, (Ad E 1)), (0, behind_h210)]) (lo' := [(0, (2, (Ad E 1))), (1, (0, 0))]) rfl ?_
                          refine r_getKI hX hP rfl fl_12_352 hS (x := at_x58) at_x58_e ?_
                          refine r_ex hX hP 2 (pc' := 235) (st' := [(0, 7), (0, (behind_h210 - at_x58))]) (lo' := [(0, (2, (Ad E 1))), (1, (0, 0))]) rfl ?_
                          refine r_ic_ge hX hP rfl (tgt := 261) rfl (by first | decide | omega) (by first | decide | omega) (by first | decide | omega) (by first | decide | omega) (fun c246 => ?_) (fun c246 => ?_)
                          · skip
                            refine r_ex hX hP 2 (pc' := 263) (st' := [(2, (Ad E 1)), (2, (Ad E 1))]) (lo' := [(0, (2, (Ad E 1))), (1, (0, 0))]) rfl ?_
                            refine r_getKI hX hP rfl fl_12_349 hS (x := behind_h210) behind_h210_e ?_
                            refine r_ex hX hP 2 (pc' := 268) (st' := [(0, (behind_h210 + 1)), (2, (Ad E 1))]) (lo' := [(0, (2, (Ad E 1))), (1, (0, 0))]) rfl ?_
                            refine r_putIK hX hP rfl fp_12_349 hS (by first | decide | omega) (by first | decide | omega) (fun h247 => ?_)
                            refine r_ex hX hP 1 (pc' := 210) (st' := []) (lo' := [(0, (2, (Ad E 1))), (1, (0, 0))]) rfl ?_
                            refine r_eqG (X := X) (hq_up (hq_base _ _ _ _) rfl) ?_
                            exact ih210 (behind_h210 + 1) number_h210 _ h247 number_h210_e (by first | decide | omega) (by first | decide | omega) (by first | decide | omega) (by first | decide | omega) (by first | decide | omega) (by first | decide | omega) (by first | decide | omega) (by first | decide | omega) (by first | decide | omega)
                          · skip
                            refine r_ex hX hP 3 (pc' := 242) (st' := [(2, (Ad E 1)), (0, 10), (2, (Ad E 1))]) (lo' := [(0, (2, (Ad E 1))), (1, (0, 0))]) rfl ?_
                            refine r_getKI hX hP rfl fl_12_379 hS (x := number_h210) number_h210_e ?_
                            refine r_ex hX hP 3 (pc' := 248) (st' := [(2, (Ad E 1)), (2, (Ad E 1)), (0, (10 * number_h210)), (2, (Ad E 1))]) (lo' := [(0, (2, (Ad E 1))), (1, (0, 0))]) rfl ?_
                            refine r_getKI hX hP rfl fl_12_349 hS (x := behind_h210) behind_h210_e ?_
                            refine r_callV gd hX hP rfl cv_12_355 hS (d' := 0) (mc' := 0) (ms' := 0) (as' := [(0, behind_h210)]) (st := [(0, (10 * number_h210)), (2, (Ad E 1))]) (by first | decide | omega) (by first | decide | omega) (by first | decide | omega) rfl rfl (Nat.le_of_ble_eq_true rfl) (c_X12_lookR E S (hv [84, 85] [] (up (up (hv [83] [] (up G 1 (Ad E 1) 83 bf4) Gx58) 1 (Ad E 1) 84 at_x58) 1 (Ad E 1) 85 0) Gh210) behind_h210 hS tf8 tf8e (by first | decide | omega) (by first | decide | omega) TT nn (rn_tape rd : _) (by first | decide | omega)) ?_
                            rintro _ _ _ ⟨rfl, rfl, z248, rfl, (⟨z248a, z248b, f249, f250⟩ | ⟨rfl, f251⟩)⟩
                            · skip
                              refine r_ex hX hP 3 (pc' := 258) (st' := [(0, (((10 * number_h210) + z248) - 48)), (2, (Ad E 1))]) (lo' := [(0, (2, (Ad E 1))), (1, (0, 0))]) rfl ?_
                              refine r_putIK hX hP rfl fp_12_379 hS (by first | decide | omega) (by first | decide | omega) (fun h252 => ?_)
                              refine r_ex hX hP 2 (pc' := 263) (st' := [(2, (Ad E 1)), (2, (Ad E 1))]) (lo' := [(0, (2, (Ad E 1))), (1, (0, 0))]) rfl ?_
                              refine r_getKI hX hP rfl fl_12_349 hS (x := behind_h210) behind_h210_e ?_
                              refine r_ex hX hP 2 (pc' := 268) (st' := [(0, (behind_h210 + 1)), (2, (Ad E 1))]) (lo' := [(0, (2, (Ad E 1))), (1, (0, 0))]) rfl ?_
                              refine r_putIK hX hP rfl fp_12_349 hS (by first | decide | omega) (by first | decide | omega) (fun h253 => ?_)
                              refine r_ex hX hP 1 (pc' := 210) (st' := []) (lo' := [(0, (2, (Ad E 1))), (1, (0, 0))]) rfl ?_
                              refine r_eqG (X := X) (hq_up (hq_up (hq_base _ _ _ _) rfl) rfl) ?_
                              exact ih210 (behind_h210 + 1) (((10 * number_h210) + z248) - 48) _ h253 h252 (by first | decide | omega) (by first | decide | omega) (by first | decide | omega) (by first | decide | omega) (by first | decide | omega) (by first | decide | omega) (by first | decide | omega) (by first | decide | omega) (by first | decide | omega)
                            · skip
                              refine r_ex hX hP 3 (pc' := 258) (st' := [(0, (((10 * number_h210) + 0) - 48)), (2, (Ad E 1))]) (lo' := [(0, (2, (Ad E 1))), (1, (0, 0))]) rfl ?_
                              refine r_putIK hX hP rfl fp_12_379 hS (by first | decide | omega) (by first | decide | omega) (fun h254 => ?_)
                              refine r_ex hX hP 2 (pc' := 263) (st' := [(2, (Ad E 1)), (2, (Ad E 1))]) (lo' := [(0, (2, (Ad E 1))), (1, (0, 0))]) rfl ?_
                              refine r_getKI hX hP rfl fl_12_349 hS (x := behind_h210) behind_h210_e ?_
                              refine r_ex hX hP 2 (pc' := 268) (st' := [(0, (behind_h210 + 1)), (2, (Ad E 1))]) (lo' := [(0, (2, (Ad E 1))), (1, (0, 0))]) rfl ?_
                              refine r_putIK hX hP rfl fp_12_349 hS (by first | decide | omega) (by first | decide | omega) (fun h255 => ?_)
                              refine r_ex hX hP 1 (pc' := 210) (st' := []) (lo' := [(0, (2, (Ad E 1))), (1, (0, 0))]) rfl ?_
                              refine r_eqG (X := X) (hq_up (hq_up (hq_base _ _ _ _) rfl) rfl) ?_
                              exact ih210 (behind_h210 + 1) (((10 * number_h210) + 0) - 48) _ h255 h254 (by first | decide | omega) (by first | decide | omega) (by first | decide | omega) (by first | decide | omega) (by first | decide | omega) (by first | decide | omega) (by first | decide | omega) (by first | decide | omega) (by first | decide | omega)
                      · skip
                        refine r_if_eq hX hP rfl (tgt := 274) rfl (by first | decide | omega) (by first | decide | omega) (fun c256 => ?_) (fun c256 => ?_)
                        · skip
                          refine r_eqG (X := X) (hq_loop (hq_refl [84, 85] [] _) rfl) ?_
                          exact x274 behind_h210 number_h210 _ behind_h210_e number_h210_e (by first | decide | omega) (by first | decide | omega) (by first | decide | omega) (by first | decide | omega) (by first | decide | omega) (by first | decide | omega) (by first | decide | omega) (by first | decide | omega)
                        · skip
                          exfalso; omega
                refine r_eqG (X := X) (hq_refl [84, 85] [] _) ?_
                exact loop210 ((400 - at_x58) + 1 : Int).toNat at_x58 0 _ h7 h209 (by first | decide | omega) (by first | decide | omega) (by first | decide | omega) (by first | decide | omega) (by first | decide | omega) (by first | decide | omega) (by first | decide | omega) (by first | decide | omega) (by first | decide | omega)
            · skip
              refine r_if_eq hX hP rfl (tgt := 300) rfl (by first | decide | omega) (by first | decide | omega) (fun c257 => ?_) (fun c257 => ?_)
              · skip
                refine r_ex hX hP 2 (pc' := 302) (st' := [(2, (Ad E 1)), (2, (Ad E 1))]) (lo' := [(0, (2, (Ad E 1))), (1, (0, 0))]) rfl ?_
                refine r_getKI hX hP rfl fl_12_352 hS (x := at_x58) at_x58_e ?_
                refine r_ex hX hP 2 (pc' := 307) (st' := [(0, (at_x58 + 1)), (2, (Ad E 1))]) (lo' := [(0, (2, (Ad E 1))), (1, (0, 0))]) rfl ?_
                refine r_putIK hX hP rfl fp_12_349 hS (by first | decide | omega) (by first | decide | omega) (fun h258 => ?_)
                refine r_ex hX hP 2 (pc' := 312) (st' := [(0, 0), (2, (Ad E 1))]) (lo' := [(0, (2, (Ad E 1))), (1, (0, 0))]) rfl ?_
                refine r_putIK hX hP rfl fp_12_379 hS (by first | decide | omega) (by first | decide | omega) (fun h259 => ?_)
                refine r_ex hX hP 3 (pc' := 319) (st' := [(0, 59), (0, 0), (2, (Ad E 1))]) (lo' := [(0, (2, (Ad E 1))), (1, (0, 0))]) rfl ?_
                refine r_ic_eq hX hP rfl (tgt := 346) rfl (by first | decide | omega) (by first | decide | omega) (by first | decide | omega) (by first | decide | omega) (fun c260 => ?_) (fun c260 => ?_)
                · skip
                  exfalso; omega
                · skip
                  refine r_ex hX hP 2 (pc' := 325) (st' := [(0, 123), (0, 0), (2, (Ad E 1))]) (lo' := [(0, (2, (Ad E 1))), (1, (0, 0))]) rfl ?_
                  refine r_ic_eq hX hP rfl (tgt := 346) rfl (by first | decide | omega) (by first | decide | omega) (by first | decide | omega) (by first | decide | omega) (fun c261 => ?_) (fun c261 => ?_)
                  · skip
                    exfalso; omega
                  · skip
                    refine r_ex hX hP 2 (pc' := 331) (st' := [(0, 125), (0, 0), (2, (Ad E 1))]) (lo' := [(0, (2, (Ad E 1))), (1, (0, 0))]) rfl ?_
                    refine r_ic_eq hX hP rfl (tgt := 346) rfl (by first | decide | omega) (by first | decide | omega) (by first | decide | omega) (by first | decide | omega) (fun c262 => ?_) (fun c262 => ?_)
                    · skip
                      exfalso; omega
                    · skip
                      refine r_ex hX hP 2 (pc' := 337) (st' := [(0, 60), (0, 0), (2, (Ad E 1))]) (lo' := [(0, (2, (Ad E 1))), (1, (0, 0))]) rfl ?_
                      refine r_ic_eq hX hP rfl (tgt := 346) rfl (by first | decide | omega) (by first | decide | omega) (by first | decide | omega) (by first | decide | omega) (fun c263 => ?_) (fun c263 => ?_)
                      · skip
                        exfalso; omega
                      · skip
                        refine r_ex hX hP 2 (pc' := 343) (st' := [(0, 62), (0, 0), (2, (Ad E 1))]) (lo' := [(0, (2, (Ad E 1))), (1, (0, 0))]) rfl ?_
                        refine r_ic_ne hX hP rfl (tgt := 350) rfl (by first | decide | omega) (by first | decide | omega) (by first | decide | omega) (by first | decide | omega) (fun c264 => ?_) (fun c264 => ?_)
                        · skip
                          refine r_ex hX hP 1 (pc' := 351) (st' := [(0, 4), (2, (Ad E 1))]) (lo' := [(0, (2, (Ad E 1))), (1, (0, 0))]) rfl ?_
                          refine r_putIK hX hP rfl fp_12_358 hS (by first | decide | omega) (by first | decide | omega) (fun h265 => ?_)
                          have h266S : tkS TT nn a0 = at_x58 := (show scn cB TT nn a0 = at_x58 from by omega)
                          obtain ⟨h266K, h266E⟩ := tk_sgN h266S (by first | decide | omega) (by first | decide | omega) (by first | decide | omega) (by first | decide | omega)
                          have h266O := srt_or (tkK TT nn a0)
                          have rd267 : RdM E TT nn (ud sr 0 a0) (up (up (up (up (hv [83] [] (up G 1 (Ad E 1) 83 bf4) Gx58) 1 (Ad E 1) 84 at_x58) 1 (Ad E 1) 84 (at_x58 + 1)) 1 (Ad E 1) 85 0) 1 (Ad E 1) 82 4) := rm_mk (rn_tape rd : _) (rn_end rd : _) (at_x58_e.symm.trans h266S.symm) (h258.symm.trans (show (at_x58 + 1) = tkE TT nn a0 from by omega)) (h265.symm.trans (show 4 = srt (tkK TT nn a0) from by omega)) (Or.inl (show tkK TT nn a0 ≠ 2 from by omega)) (Or.inl (show tkK TT nn a0 ≤ 3 from by omega)) (Or.inl (show tkK TT nn a0 ≠ 1 from by omega)) (Or.inl (show tkK TT nn a0 ≠ 1 from by omega)) (rn_bad rd : _) (rn_bat rd : _) (rn_nm rd : _) (rn_nc rd : _) (rn_nd rd : _) (rn_ti rd : _) (rn_to rd : _) (rn_w0 rd : _) (rn_w1 rd : _) (rn_w2 rd : _) (rn_q0 rd : _) (rn_q1 rd : _) (rn_q2 rd : _) (rn_z0 rd : _) (rn_z1 rd : _) (rn_z2 rd : _) (rn_nv rd : _) (show 0 ≤ a0 from by omega) (show a0 ≤ nn from by omega) (rn_n4 rd : _) (rn_c3 rd : _)
                          exact r_retV hX hP rfl rfl (by first | decide | omega) (by first | decide | omega) ⟨rfl, ⟨_, (hq_up (hq_up (hq_up (hq_up (hq_loop (hq_up (hq_refl _ _ _) rfl) rfl) rfl) rfl) rfl) rfl).symm⟩, rfl, rd267⟩
                        · skip
                          exfalso; omega
              · skip
                exfalso; omega
          · skip
            exfalso; omega
    · skip
      refine r_ex hX hP 2 (pc' := 79) (st' := [(0, 0), (2, (Ad E 1))]) (lo' := [(0, (2, (Ad E 1)))]) rfl ?_
      refine r_putIK hX hP rfl fp_12_358 hS (by first | decide | omega) (by first | decide | omega) (fun h268 => ?_)
      have h269S : tkS TT nn a0 = at_x58 := (show scn cB TT nn a0 = at_x58 from by omega)
      obtain ⟨h269K, h269E⟩ := tk_end h269S (by first | decide | omega)
      have h269O := srt_or (tkK TT nn a0)
      have rd270 : RdM E TT nn (ud sr 0 a0) (up (up (hv [83] [] (up G 1 (Ad E 1) 83 bf4) Gx58) 1 (Ad E 1) 84 at_x58) 1 (Ad E 1) 82 0) := rm_mk (rn_tape rd : _) (rn_end rd : _) (at_x58_e.symm.trans h269S.symm) (h7.symm.trans (show at_x58 = tkE TT nn a0 from by omega)) (h268.symm.trans (show 0 = srt (tkK TT nn a0) from by omega)) (Or.inl (show tkK TT nn a0 ≠ 2 from by omega)) (Or.inl (show tkK TT nn a0 ≤ 3 from by omega)) (Or.inl (show tkK TT nn a0 ≠ 1 from by omega)) (Or.inl (show tkK TT nn a0 ≠ 1 from by omega)) (rn_bad rd : _) (rn_bat rd : _) (rn_nm rd : _) (rn_nc rd : _) (rn_nd rd : _) (rn_ti rd : _) (rn_to rd : _) (rn_w0 rd : _) (rn_w1 rd : _) (rn_w2 rd : _) (rn_q0 rd : _) (rn_q1 rd : _) (rn_q2 rd : _) (rn_z0 rd : _) (rn_z1 rd : _) (rn_z2 rd : _) (rn_nv rd : _) (show 0 ≤ a0 from by omega) (show a0 ≤ nn from by omega) (rn_n4 rd : _) (rn_c3 rd : _)
      exact r_retV hX hP rfl rfl (by first | decide | omega) (by first | decide | omega) ⟨rfl, ⟨_, (hq_up (hq_up (hq_loop (hq_up (hq_refl _ _ _) rfl) rfl) rfl) rfl).symm⟩, rfl, rd270⟩
  have loop8 : ∀ (nF : Nat) (at_h8 : Int) (Gh8 : Gh), at_h8 = (hv [83] [] (up G 1 (Ad E 1) 83 bf4) Gh8) 1 (Ad E 1) 83 → 0 ≤ at_h8 → at_h8 ≤ 400 → scn cB TT nn at_h8 = scn cB TT nn a0 → at_h8 ≤ nn → 400 - at_h8 < (nF : Int) → X 0 0 8 [] [(0, (2, (Ad E 1)))] S (hv [83] [] (up G 1 (Ad E 1) 83 bf4) Gh8) := by
    intro nF
    induction nF with
    | zero => intro at_h8 Gh8 at_h8_e yh8_0 yh8_1 yh8_2 yh8_3 ym8; exfalso; omega
    | succ nF ih8 =>
      intro at_h8 Gh8 at_h8_e yh8_0 yh8_1 yh8_2 yh8_3 ym8
      have k271 := scn_orB (T := TT) (n := nn) (p := at_h8)
      refine r_ex hX hP 1 (pc' := 9) (st' := [(2, (Ad E 1))]) (lo' := [(0, (2, (Ad E 1)))]) rfl ?_
      refine r_getKI hX hP rfl fl_12_352 hS (x := at_h8) at_h8_e ?_
      refine r_ex hX hP 1 (pc' := 13) (st' := [(2, (Ad E 1)), (0, at_h8)]) (lo' := [(0, (2, (Ad E 1)))]) rfl ?_
      refine r_getI hX hP rfl fl_12_346 hS (fun tf272 tf272e tf272a tf272b => ?_)
      have k273 := rn_end rd
      have k273 := tf272e.trans k273
      refine r_ic_ge hX hP rfl (tgt := 58) rfl (by first | decide | omega) (by first | decide | omega) (by first | decide | omega) (by first | decide | omega) (fun c274 => ?_) (fun c274 => ?_)
      · skip
        refine r_eqG (X := X) (hq_loop (hq_refl [83] [] _) rfl) ?_
        exact x58 at_h8 _ at_h8_e (by first | decide | omega) (by first | decide | omega) (by first | decide | omega) (by first | decide | omega)
      · skip
        refine r_ex hX hP 2 (pc' := 21) (st' := [(2, (Ad E 1)), (2, (Ad E 1))]) (lo' := [(0, (2, (Ad E 1)))]) rfl ?_
        refine r_getKI hX hP rfl fl_12_352 hS (x := at_h8) at_h8_e ?_
        refine r_callV gd hX hP rfl cv_12_355 hS (d' := 0) (mc' := 0) (ms' := 0) (as' := [(0, at_h8)]) (st := []) (by first | decide | omega) (by first | decide | omega) (by first | decide | omega) rfl rfl (Nat.le_of_ble_eq_true rfl) (c_X12_lookR E S (hv [83] [] (up G 1 (Ad E 1) 83 bf4) Gh8) at_h8 hS tf272 tf272e (by first | decide | omega) (by first | decide | omega) TT nn (rn_tape rd : _) (by first | decide | omega)) ?_
        rintro _ _ _ ⟨rfl, rfl, z275, rfl, (⟨z275a, z275b, f276, f277⟩ | ⟨rfl, f278⟩)⟩
        · skip
          refine r_ex hX hP 1 (pc' := 29) (st' := [(0, 10), (0, z275)]) (lo' := [(0, (2, (Ad E 1)))]) rfl ?_
          refine r_ic_eq hX hP rfl (tgt := 45) rfl (by first | decide | omega) (by first | decide | omega) (by first | decide | omega) (by first | decide | omega) (fun c279 => ?_) (fun c279 => ?_)
          · skip
            refine r_ex hX hP 2 (pc' := 47) (st' := [(2, (Ad E 1)), (2, (Ad E 1))]) (lo' := [(0, (2, (Ad E 1)))]) rfl ?_
            refine r_getKI hX hP rfl fl_12_352 hS (x := at_h8) at_h8_e ?_
            refine r_ex hX hP 2 (pc' := 52) (st' := [(0, (at_h8 + 1)), (2, (Ad E 1))]) (lo' := [(0, (2, (Ad E 1)))]) rfl ?_
            refine r_putIK hX hP rfl fp_12_352 hS (by first | decide | omega) (by first | decide | omega) (fun h280 => ?_)
            refine r_ex hX hP 1 (pc' := 8) (st' := []) (lo' := [(0, (2, (Ad E 1)))]) rfl ?_
            refine r_eqG (X := X) (hq_up (hq_base _ _ _ _) rfl) ?_
            exact ih8 (at_h8 + 1) _ h280 (by first | decide | omega) (by first | decide | omega) (by first | decide | omega) (by first | decide | omega) (by first | decide | omega)
          · skip
            refine r_ex hX hP 2 (pc' := 34) (st' := [(2, (Ad E 1)), (2, (Ad E 1))]) (lo' := [(0, (2, (Ad E 1)))]) rfl ?_
            refine r_getKI hX hP rfl fl_12_352 hS (x := at_h8) at_h8_e ?_
            refine r_callV gd hX hP rfl cv_12_355 hS (d' := 0) (mc' := 0) (ms' := 0) (as' := [(0, at_h8)]) (st := []) (by first | decide | omega) (by first | decide | omega) (by first | decide | omega) rfl rfl (Nat.le_of_ble_eq_true rfl) (c_X12_lookR E S (hv [83] [] (up G 1 (Ad E 1) 83 bf4) Gh8) at_h8 hS tf272 tf272e (by first | decide | omega) (by first | decide | omega) TT nn (rn_tape rd : _) (by first | decide | omega)) ?_
            rintro _ _ _ ⟨rfl, rfl, z281, rfl, (⟨z281a, z281b, f282, f283⟩ | ⟨rfl, f284⟩)⟩
            · skip
              refine r_ex hX hP 1 (pc' := 42) (st' := [(0, 32), (0, z281)]) (lo' := [(0, (2, (Ad E 1)))]) rfl ?_
              refine r_ic_ne hX hP rfl (tgt := 58) rfl (by first | decide | omega) (by first | decide | omega) (by first | decide | omega) (by first | decide | omega) (fun c285 => ?_) (fun c285 => ?_)
              · skip
                refine r_eqG (X := X) (hq_loop (hq_refl [83] [] _) rfl) ?_
                exact x58 at_h8 _ at_h8_e (by first | decide | omega) (by first | decide | omega) (by first | decide | omega) (by first | decide | omega)
              · skip
                refine r_ex hX hP 2 (pc' := 47) (st' := [(2, (Ad E 1)), (2, (Ad E 1))]) (lo' := [(0, (2, (Ad E 1)))]) rfl ?_
                refine r_getKI hX hP rfl fl_12_352 hS (x := at_h8) at_h8_e ?_
                refine r_ex hX hP 2 (pc' := 52) (st' := [(0, (at_h8 + 1)), (2, (Ad E 1))]) (lo' := [(0, (2, (Ad E 1)))]) rfl ?_
                refine r_putIK hX hP rfl fp_12_352 hS (by first | decide | omega) (by first | decide | omega) (fun h286 => ?_)
                refine r_ex hX hP 1 (pc' := 8) (st' := []) (lo' := [(0, (2, (Ad E 1)))]) rfl ?_
                refine r_eqG (X := X) (hq_up (hq_base _ _ _ _) rfl) ?_
                exact ih8 (at_h8 + 1) _ h286 (by first | decide | omega) (by first | decide | omega) (by first | decide | omega) (by first | decide | omega) (by first | decide | omega)
            · skip
              refine r_ex hX hP 1 (pc' := 42) (st' := [(0, 32), (0, 0)]) (lo' := [(0, (2, (Ad E 1)))]) rfl ?_
              refine r_ic_ne hX hP rfl (tgt := 58) rfl (by first | decide | omega) (by first | decide | omega) (by first | decide | omega) (by first | decide | omega) (fun c287 => ?_) (fun c287 => ?_)
              · skip
                refine r_eqG (X := X) (hq_loop (hq_refl [83] [] _) rfl) ?_
                exact x58 at_h8 _ at_h8_e (by first | decide | omega) (by first | decide | omega) (by first | decide | omega) (by first | decide | omega)
              · skip
                exfalso; omega
        · skip
          refine r_ex hX hP 1 (pc' := 29) (st' := [(0, 10), (0, 0)]) (lo' := [(0, (2, (Ad E 1)))]) rfl ?_
          refine r_ic_eq hX hP rfl (tgt := 45) rfl (by first | decide | omega) (by first | decide | omega) (by first | decide | omega) (by first | decide | omega) (fun c288 => ?_) (fun c288 => ?_)
          · skip
            exfalso; omega
          · skip
            refine r_ex hX hP 2 (pc' := 34) (st' := [(2, (Ad E 1)), (2, (Ad E 1))]) (lo' := [(0, (2, (Ad E 1)))]) rfl ?_
            refine r_getKI hX hP rfl fl_12_352 hS (x := at_h8) at_h8_e ?_
            refine r_callV gd hX hP rfl cv_12_355 hS (d' := 0) (mc' := 0) (ms' := 0) (as' := [(0, at_h8)]) (st := []) (by first | decide | omega) (by first | decide | omega) (by first | decide | omega) rfl rfl (Nat.le_of_ble_eq_true rfl) (c_X12_lookR E S (hv [83] [] (up G 1 (Ad E 1) 83 bf4) Gh8) at_h8 hS tf272 tf272e (by first | decide | omega) (by first | decide | omega) TT nn (rn_tape rd : _) (by first | decide | omega)) ?_
            rintro _ _ _ ⟨rfl, rfl, z289, rfl, (⟨z289a, z289b, f290, f291⟩ | ⟨rfl, f292⟩)⟩
            · skip
              refine r_ex hX hP 1 (pc' := 42) (st' := [(0, 32), (0, z289)]) (lo' := [(0, (2, (Ad E 1)))]) rfl ?_
              refine r_ic_ne hX hP rfl (tgt := 58) rfl (by first | decide | omega) (by first | decide | omega) (by first | decide | omega) (by first | decide | omega) (fun c293 => ?_) (fun c293 => ?_)
              · skip
                refine r_eqG (X := X) (hq_loop (hq_refl [83] [] _) rfl) ?_
                exact x58 at_h8 _ at_h8_e (by first | decide | omega) (by first | decide | omega) (by first | decide | omega) (by first | decide | omega)
              · skip
                refine r_ex hX hP 2 (pc' := 47) (st' := [(2, (Ad E 1)), (2, (Ad E 1))]) (lo' := [(0, (2, (Ad E 1)))]) rfl ?_
                refine r_getKI hX hP rfl fl_12_352 hS (x := at_h8) at_h8_e ?_
                refine r_ex hX hP 2 (pc' := 52) (st' := [(0, (at_h8 + 1)), (2, (Ad E 1))]) (lo' := [(0, (2, (Ad E 1)))]) rfl ?_
                refine r_putIK hX hP rfl fp_12_352 hS (by first | decide | omega) (by first | decide | omega) (fun h294 => ?_)
                refine r_ex hX hP 1 (pc' := 8) (st' := []) (lo' := [(0, (2, (Ad E 1)))]) rfl ?_
                refine r_eqG (X := X) (hq_up (hq_base _ _ _ _) rfl) ?_
                exact ih8 (at_h8 + 1) _ h294 (by first | decide | omega) (by first | decide | omega) (by first | decide | omega) (by first | decide | omega) (by first | decide | omega)
            · skip
              refine r_ex hX hP 1 (pc' := 42) (st' := [(0, 32), (0, 0)]) (lo' := [(0, (2, (Ad E 1)))]) rfl ?_
              refine r_ic_ne hX hP rfl (tgt := 58) rfl (by first | decide | omega) (by first | decide | omega) (by first | decide | omega) (by first | decide | omega) (fun c295 => ?_) (fun c295 => ?_)
              · skip
                refine r_eqG (X := X) (hq_loop (hq_refl [83] [] _) rfl) ?_
                exact x58 at_h8 _ at_h8_e (by first | decide | omega) (by first | decide | omega) (by first | decide | omega) (by first | decide | omega)
              · skip
                exfalso; omega
  have k296 := congrArg (scn cB TT nn) (show bf4 = a0 from by omega)
  refine r_eqG (X := X) (hq_refl [83] [] _) ?_
  exact loop8 ((400 - bf4) + 1 : Int).toNat bf4 _ h6 (by first | decide | omega) (by first | decide | omega) (by first | decide | omega) (by first | decide | omega) (by first | decide | omega)
