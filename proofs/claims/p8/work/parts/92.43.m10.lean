set_option maxRecDepth 100000 in
set_option maxHeartbeats 4000000 in
theorem c_X12_hint (E : En) (S : Sg) (G : Gh) (f t dy m n su : Int) (hS : S (Ad E 1) = 1) (hints : Int) (hints_e : hints = G 1 (Ad E 1) 13) (f_a : (-2147483648) ≤ f) (f_b : f ≤ 2147483647) (t_a : (-2147483648) ≤ t) (t_b : t ≤ 2147483647) (dy_a : (-2147483648) ≤ dy) (dy_b : dy ≤ 2147483647) (m_a : (-2147483648) ≤ m) (m_b : m ≤ 2147483647) (n_a : (-2147483648) ≤ n) (n_b : n ≤ 2147483647) (su_a : 0 ≤ su) (su_b : su ≤ 1) (mi : MI E G) : Calls E mX12_hint [(2, (Ad E 1)), (0, f), (0, t), (0, dy), (0, m), (0, n), (0, su)] S G 2 0 0 (fun r S' G' => S = S' ∧ (∃ G1, hv [0, 1, 13] [54, 55, 56, 57, 58, 59, 60] G G1 = G') ∧ ∃ z : Int, r = some (0, z) ∧ (-2147483648) ≤ z ∧ z ≤ 2147483647 ∧ MI E G') := by
  refine calls_by [(0, (2, (Ad E 1))), (1, (0, f)), (2, (0, t)), (3, (0, dy)), (4, (0, m)), (5, (0, n)), (6, (0, su))] rfl rfl (Nat.le_of_ble_eq_true rfl) (fun X hX => ?_)
  have hP := hPX12_hint
  refine r_peekI hX (tl1 13 rfl (by decide)) hS (fun hints_o hints_oe hints_oa hints_ob => ?_)
  obtain rfl : hints = hints_o := hints_e.trans hints_oe.symm
  refine r_ex hX hP 2 (pc' := 2) (st' := [(0, 0), (2, (Ad E 1))]) (lo' := [(0, (2, (Ad E 1))), (1, (0, f)), (2, (0, t)), (3, (0, dy)), (4, (0, m)), (5, (0, n)), (6, (0, su))]) rfl ?_
  refine r_putIK hX hP rfl fp_12_304 hS (by first | decide | omega) (by first | decide | omega) (fun h1 => ?_)
  refine r_ex hX hP 2 (pc' := 7) (st' := [(0, 0), (2, (Ad E 1))]) (lo' := [(0, (2, (Ad E 1))), (1, (0, f)), (2, (0, t)), (3, (0, dy)), (4, (0, m)), (5, (0, n)), (6, (0, su))]) rfl ?_
  refine r_putIK hX hP rfl fp_12_307 hS (by first | decide | omega) (by first | decide | omega) (fun h2 => ?_)
  refine r_ex hX hP 1 (pc' := 11) (st' := [(0, f)]) (lo' := [(0, (2, (Ad E 1))), (1, (0, f)), (2, (0, t)), (3, (0, dy)), (4, (0, m)), (5, (0, n)), (6, (0, su))]) rfl ?_
  refine r_callS gd hX hP rfl cs_12_331 (d' := 1) (mc' := 0) (ms' := 0) (as' := [(0, f)]) (st := []) (by first | decide | omega) (by first | decide | omega) (by first | decide | omega) rfl rfl (Nat.le_of_ble_eq_true rfl) (c_X12_isPaper E S (up (up G 1 (Ad E 1) 1 0) 1 (Ad E 1) 0 0) f (by first | decide | omega) (by first | decide | omega)) ?_
  rintro _ _ _ ⟨rfl, rfl, z3, rfl, (⟨rfl, f4, f5⟩ | ⟨rfl, f6⟩)⟩
  · skip
    refine r_if_eq hX hP rfl (tgt := 24) rfl (by first | decide | omega) (by first | decide | omega) (fun c7 => ?_) (fun c7 => ?_)
    · skip
      exfalso; omega
    · skip
      refine r_ex hX hP 1 (pc' := 18) (st' := [(0, t)]) (lo' := [(0, (2, (Ad E 1))), (1, (0, f)), (2, (0, t)), (3, (0, dy)), (4, (0, m)), (5, (0, n)), (6, (0, su))]) rfl ?_
      refine r_callS gd hX hP rfl cs_12_331 (d' := 1) (mc' := 0) (ms' := 0) (as' := [(0, t)]) (st := []) (by first | decide | omega) (by first | decide | omega) (by first | decide | omega) rfl rfl (Nat.le_of_ble_eq_true rfl) (c_X12_isPaper E S (up (up G 1 (Ad E 1) 1 0) 1 (Ad E 1) 0 0) t (by first | decide | omega) (by first | decide | omega)) ?_
      rintro _ _ _ ⟨rfl, rfl, z8, rfl, (⟨rfl, f9, f10⟩ | ⟨rfl, f11⟩)⟩
      · skip
        refine r_if_ne hX hP rfl (tgt := 30) rfl (by first | decide | omega) (by first | decide | omega) (fun c12 => ?_) (fun c12 => ?_)
        · skip
          refine r_ex hX hP 1 (pc' := 31) (st' := [(0, dy)]) (lo' := [(0, (2, (Ad E 1))), (1, (0, f)), (2, (0, t)), (3, (0, dy)), (4, (0, m)), (5, (0, n)), (6, (0, su))]) rfl ?_
          refine r_callS gd hX hP rfl cs_12_317 (d' := 1) (mc' := 0) (ms' := 0) (as' := [(0, dy)]) (st := []) (by first | decide | omega) (by first | decide | omega) (by first | decide | omega) rfl rfl (Nat.le_of_ble_eq_true rfl) (c_X12_isDay E S (up (up G 1 (Ad E 1) 1 0) 1 (Ad E 1) 0 0) dy (by first | decide | omega) (by first | decide | omega)) ?_
          rintro _ _ _ ⟨rfl, rfl, z13, rfl, (⟨rfl, f14, f15⟩ | ⟨rfl, f16⟩)⟩
          · skip
            refine r_if_eq hX hP rfl (tgt := 61) rfl (by first | decide | omega) (by first | decide | omega) (fun c17 => ?_) (fun c17 => ?_)
            · skip
              exfalso; omega
            · skip
              refine r_ex hX hP 3 (pc' := 43) (st' := [(0, 1000), (0, 1), (0, m)]) (lo' := [(0, (2, (Ad E 1))), (1, (0, f)), (2, (0, t)), (3, (0, dy)), (4, (0, m)), (5, (0, n)), (6, (0, su))]) rfl ?_
              refine r_callS gd hX hP rfl cs_12_310 (d' := 0) (mc' := 0) (ms' := 0) (as' := [(0, m), (0, 1), (0, 1000)]) (st := []) (by first | decide | omega) (by first | decide | omega) (by first | decide | omega) rfl rfl (Nat.le_of_ble_eq_true rfl) (c_X12_isIn E S (up (up G 1 (Ad E 1) 1 0) 1 (Ad E 1) 0 0) m 1 1000 (by first | decide | omega) (by first | decide | omega) (by first | decide | omega) (by first | decide | omega) (by first | decide | omega) (by first | decide | omega)) ?_
              rintro _ _ _ ⟨rfl, rfl, z18, rfl, (⟨rfl, f19, f20⟩ | ⟨rfl, f21⟩)⟩
              · skip
                refine r_if_eq hX hP rfl (tgt := 61) rfl (by first | decide | omega) (by first | decide | omega) (fun c22 => ?_) (fun c22 => ?_)
                · skip
                  exfalso; omega
                · skip
                  refine r_ex hX hP 3 (pc' := 55) (st' := [(0, 1000), (0, 1), (0, n)]) (lo' := [(0, (2, (Ad E 1))), (1, (0, f)), (2, (0, t)), (3, (0, dy)), (4, (0, m)), (5, (0, n)), (6, (0, su))]) rfl ?_
                  refine r_callS gd hX hP rfl cs_12_310 (d' := 0) (mc' := 0) (ms' := 0) (as' := [(0, n), (0, 1), (0, 1000)]) (st := []) (by first | decide | omega) (by first | decide | omega) (by first | decide | omega) rfl rfl (Nat.le_of_ble_eq_true rfl) (c_X12_isIn E S (up (up G 1 (Ad E 1) 1 0) 1 (Ad E 1) 0 0) n 1 1000 (by first | decide | omega) (by first | decide | omega) (by first | decide | omega) (by first | decide | omega) (by first | decide | omega) (by first | decide | omega)) ?_
                  rintro _ _ _ ⟨rfl, rfl, z23, rfl, (⟨rfl, f24, f25⟩ | ⟨rfl, f26⟩)⟩
                  · skip
                    refine r_if_ne hX hP rfl (tgt := 67) rfl (by first | decide | omega) (by first | decide | omega) (fun c27 => ?_) (fun c27 => ?_)
                    · skip
                      refine r_ex hX hP 1 (pc' := 68) (st' := [(2, (Ad E 1))]) (lo' := [(0, (2, (Ad E 1))), (1, (0, f)), (2, (0, t)), (3, (0, dy)), (4, (0, m)), (5, (0, n)), (6, (0, su))]) rfl ?_
                      refine r_getKI hX hP rfl fl_12_704 hS (x := hints) hints_e ?_
                      refine r_ex hX hP 1 (pc' := 73) (st' := [(0, 12), (0, hints)]) (lo' := [(0, (2, (Ad E 1))), (1, (0, f)), (2, (0, t)), (3, (0, dy)), (4, (0, m)), (5, (0, n)), (6, (0, su))]) rfl ?_
                      refine r_ic_ne hX hP rfl (tgt := 82) rfl (by first | decide | omega) (by first | decide | omega) (by first | decide | omega) (by first | decide | omega) (fun c28 => ?_) (fun c28 => ?_)
                      · skip
                        refine r_ex hX hP 1 (pc' := 83) (st' := [(2, (Ad E 1))]) (lo' := [(0, (2, (Ad E 1))), (1, (0, f)), (2, (0, t)), (3, (0, dy)), (4, (0, m)), (5, (0, n)), (6, (0, su))]) rfl ?_
                        refine r_getC hX hP rfl fl_12_176 hS (fun s29 => ?_)
                        refine r_ex hX hP 1 (pc' := 87) (st' := [(2, (Ad E 1)), (2, (Ad E 54))]) (lo' := [(0, (2, (Ad E 1))), (1, (0, f)), (2, (0, t)), (3, (0, dy)), (4, (0, m)), (5, (0, n)), (6, (0, su))]) rfl ?_
                        refine r_getKI hX hP rfl fl_12_704 hS (x := hints) hints_e ?_
                        refine r_ex hX hP 1 (pc' := 91) (st' := [(0, f), (0, hints), (2, (Ad E 54))]) (lo' := [(0, (2, (Ad E 1))), (1, (0, f)), (2, (0, t)), (3, (0, dy)), (4, (0, m)), (5, (0, n)), (6, (0, su))]) rfl ?_
                        refine r_iastK hX hP rfl al_54 s29 (by first | decide | omega) (by first | decide | omega) (by first | decide | omega) (by first | decide | omega) (fun h30 => ?_)
                        refine r_ex hX hP 1 (pc' := 93) (st' := [(2, (Ad E 1))]) (lo' := [(0, (2, (Ad E 1))), (1, (0, f)), (2, (0, t)), (3, (0, dy)), (4, (0, m)), (5, (0, n)), (6, (0, su))]) rfl ?_
                        refine r_getC hX hP rfl fl_12_179 hS (fun s31 => ?_)
                        refine r_ex hX hP 1 (pc' := 97) (st' := [(2, (Ad E 1)), (2, (Ad E 55))]) (lo' := [(0, (2, (Ad E 1))), (1, (0, f)), (2, (0, t)), (3, (0, dy)), (4, (0, m)), (5, (0, n)), (6, (0, su))]) rfl ?_
                        refine r_getKI hX hP rfl fl_12_704 hS (x := hints) hints_e ?_
                        refine r_ex hX hP 1 (pc' := 101) (st' := [(0, t), (0, hints), (2, (Ad E 55))]) (lo' := [(0, (2, (Ad E 1))), (1, (0, f)), (2, (0, t)), (3, (0, dy)), (4, (0, m)), (5, (0, n)), (6, (0, su))]) rfl ?_
                        refine r_iastK hX hP rfl al_55 s31 (by first | decide | omega) (by first | decide | omega) (by first | decide | omega) (by first | decide | omega) (fun h32 => ?_)
                        refine r_ex hX hP 1 (pc' := 103) (st' := [(2, (Ad E 1))]) (lo' := [(0, (2, (Ad E 1))), (1, (0, f)), (2, (0, t)), (3, (0, dy)), (4, (0, m)), (5, (0, n)), (6, (0, su))]) rfl ?_
                        refine r_getC hX hP rfl fl_12_182 hS (fun s33 => ?_)
                        refine r_ex hX hP 1 (pc' := 107) (st' := [(2, (Ad E 1)), (2, (Ad E 56))]) (lo' := [(0, (2, (Ad E 1))), (1, (0, f)), (2, (0, t)), (3, (0, dy)), (4, (0, m)), (5, (0, n)), (6, (0, su))]) rfl ?_
                        refine r_getKI hX hP rfl fl_12_704 hS (x := hints) hints_e ?_
                        refine r_ex hX hP 1 (pc' := 111) (st' := [(0, dy), (0, hints), (2, (Ad E 56))]) (lo' := [(0, (2, (Ad E 1))), (1, (0, f)), (2, (0, t)), (3, (0, dy)), (4, (0, m)), (5, (0, n)), (6, (0, su))]) rfl ?_
                        refine r_iastK hX hP rfl al_56 s33 (by first | decide | omega) (by first | decide | omega) (by first | decide | omega) (by first | decide | omega) (fun h34 => ?_)
                        refine r_ex hX hP 1 (pc' := 113) (st' := [(2, (Ad E 1))]) (lo' := [(0, (2, (Ad E 1))), (1, (0, f)), (2, (0, t)), (3, (0, dy)), (4, (0, m)), (5, (0, n)), (6, (0, su))]) rfl ?_
                        refine r_getC hX hP rfl fl_12_185 hS (fun s35 => ?_)
                        refine r_ex hX hP 1 (pc' := 117) (st' := [(2, (Ad E 1)), (2, (Ad E 57))]) (lo' := [(0, (2, (Ad E 1))), (1, (0, f)), (2, (0, t)), (3, (0, dy)), (4, (0, m)), (5, (0, n)), (6, (0, su))]) rfl ?_
                        refine r_getKI hX hP rfl fl_12_704 hS (x := hints) hints_e ?_
                        refine r_ex hX hP 1 (pc' := 122) (st' := [(0, m), (0, hints), (2, (Ad E 57))]) (lo' := [(0, (2, (Ad E 1))), (1, (0, f)), (2, (0, t)), (3, (0, dy)), (4, (0, m)), (5, (0, n)), (6, (0, su))]) rfl ?_
                        refine r_iastK hX hP rfl al_57 s35 (by first | decide | omega) (by first | decide | omega) (by first | decide | omega) (by first | decide | omega) (fun h36 => ?_)
                        refine r_ex hX hP 1 (pc' := 124) (st' := [(2, (Ad E 1))]) (lo' := [(0, (2, (Ad E 1))), (1, (0, f)), (2, (0, t)), (3, (0, dy)), (4, (0, m)), (5, (0, n)), (6, (0, su))]) rfl ?_
                        refine r_getC hX hP rfl fl_12_188 hS (fun s37 => ?_)
                        refine r_ex hX hP 1 (pc' := 128) (st' := [(2, (Ad E 1)), (2, (Ad E 58))]) (lo' := [(0, (2, (Ad E 1))), (1, (0, f)), (2, (0, t)), (3, (0, dy)), (4, (0, m)), (5, (0, n)), (6, (0, su))]) rfl ?_
                        refine r_getKI hX hP rfl fl_12_704 hS (x := hints) hints_e ?_
                        refine r_ex hX hP 1 (pc' := 133) (st' := [(0, n), (0, hints), (2, (Ad E 58))]) (lo' := [(0, (2, (Ad E 1))), (1, (0, f)), (2, (0, t)), (3, (0, dy)), (4, (0, m)), (5, (0, n)), (6, (0, su))]) rfl ?_
                        refine r_iastK hX hP rfl al_58 s37 (by first | decide | omega) (by first | decide | omega) (by first | decide | omega) (by first | decide | omega) (fun h38 => ?_)
                        refine r_ex hX hP 1 (pc' := 135) (st' := [(2, (Ad E 1))]) (lo' := [(0, (2, (Ad E 1))), (1, (0, f)), (2, (0, t)), (3, (0, dy)), (4, (0, m)), (5, (0, n)), (6, (0, su))]) rfl ?_
                        refine r_getC hX hP rfl fl_12_194 hS (fun s39 => ?_)
                        refine r_ex hX hP 1 (pc' := 139) (st' := [(2, (Ad E 1)), (2, (Ad E 60))]) (lo' := [(0, (2, (Ad E 1))), (1, (0, f)), (2, (0, t)), (3, (0, dy)), (4, (0, m)), (5, (0, n)), (6, (0, su))]) rfl ?_
                        refine r_getKI hX hP rfl fl_12_704 hS (x := hints) hints_e ?_
                        refine r_ex hX hP 1 (pc' := 144) (st' := [(0, su), (0, hints), (2, (Ad E 60))]) (lo' := [(0, (2, (Ad E 1))), (1, (0, f)), (2, (0, t)), (3, (0, dy)), (4, (0, m)), (5, (0, n)), (6, (0, su))]) rfl ?_
                        refine r_zastK hX hP rfl al_60 s39 (by first | decide | omega) (by first | decide | omega) (by first | decide | omega) (by first | decide | omega) (by first | decide | omega) (by first | decide | omega) (fun h40 => ?_)
                        refine r_ex hX hP 1 (pc' := 146) (st' := [(2, (Ad E 1))]) (lo' := [(0, (2, (Ad E 1))), (1, (0, f)), (2, (0, t)), (3, (0, dy)), (4, (0, m)), (5, (0, n)), (6, (0, su))]) rfl ?_
                        refine r_getKI hX hP rfl fl_12_704 hS (x := hints) hints_e ?_
                        refine r_ex hX hP 1 (pc' := 151) (st' := []) (lo' := [(0, (2, (Ad E 1))), (1, (0, f)), (2, (0, t)), (3, (0, dy)), (4, (0, m)), (5, (0, n)), (6, (0, su)), (7, (0, hints))]) rfl ?_
                        have loop151 : ∀ (nF : Nat) (l7_h151 : Int) (Gh151 : Gh), 0 ≤ l7_h151 → l7_h151 ≤ 11 → l7_h151 ≤ hints → HNO E (hv [] [59] (up (up (up (up (up (up (up (up G 1 (Ad E 1) 1 0) 1 (Ad E 1) 0 0) 54 (Ad E 54) hints f) 55 (Ad E 55) hints t) 56 (Ad E 56) hints dy) 57 (Ad E 57) hints m) 58 (Ad E 58) hints n) 60 (Ad E 60) hints su) Gh151) hints l7_h151 → l7_h151 - 0 < (nF : Int) → X 0 0 151 [] [(0, (2, (Ad E 1))), (1, (0, f)), (2, (0, t)), (3, (0, dy)), (4, (0, m)), (5, (0, n)), (6, (0, su)), (7, (0, l7_h151))] S (hv [] [59] (up (up (up (up (up (up (up (up G 1 (Ad E 1) 1 0) 1 (Ad E 1) 0 0) 54 (Ad E 54) hints f) 55 (Ad E 55) hints t) 56 (Ad E 56) hints dy) 57 (Ad E 57) hints m) 58 (Ad E 58) hints n) 60 (Ad E 60) hints su) Gh151) := by
                          intro nF
                          induction nF with
                          | zero => intro l7_h151 Gh151 yh151_0 yh151_1 yh151_2 yh151_3 ym151; exfalso; omega
                          | succ nF ih151 =>
                            intro l7_h151 Gh151 yh151_0 yh151_1 yh151_2 yh151_3 ym151
                            refine r_ex hX hP 1 (pc' := 153) (st' := [(0, l7_h151)]) (lo' := [(0, (2, (Ad E 1))), (1, (0, f)), (2, (0, t)), (3, (0, dy)), (4, (0, m)), (5, (0, n)), (6, (0, su)), (7, (0, l7_h151))]) rfl ?_
                            refine r_if_le hX hP rfl (tgt := 196) rfl (by first | decide | omega) (by first | decide | omega) (fun c41 => ?_) (fun c41 => ?_)
                            · skip
                              refine r_ex hX hP 1 (pc' := 197) (st' := [(2, (Ad E 1))]) (lo' := [(0, (2, (Ad E 1))), (1, (0, f)), (2, (0, t)), (3, (0, dy)), (4, (0, m)), (5, (0, n)), (6, (0, su)), (7, (0, l7_h151))]) rfl ?_
                              refine r_getC hX hP rfl fl_12_191 hS (fun s42 => ?_)
                              refine r_ex hX hP 2 (pc' := 203) (st' := [(2, (Ad E 1)), (0, l7_h151), (2, (Ad E 59))]) (lo' := [(0, (2, (Ad E 1))), (1, (0, f)), (2, (0, t)), (3, (0, dy)), (4, (0, m)), (5, (0, n)), (6, (0, su)), (7, (0, l7_h151))]) rfl ?_
                              refine r_getKI hX hP rfl fl_12_704 hS (x := hints) hints_e ?_
                              refine r_iastK hX hP rfl al_59 s42 (by first | decide | omega) (by first | decide | omega) (by first | decide | omega) (by first | decide | omega) (fun h43 => ?_)
                              refine r_ex hX hP 2 (pc' := 209) (st' := [(2, (Ad E 1)), (2, (Ad E 1))]) (lo' := [(0, (2, (Ad E 1))), (1, (0, f)), (2, (0, t)), (3, (0, dy)), (4, (0, m)), (5, (0, n)), (6, (0, su)), (7, (0, l7_h151))]) rfl ?_
                              refine r_getKI hX hP rfl fl_12_704 hS (x := hints) hints_e ?_
                              refine r_ex hX hP 2 (pc' := 214) (st' := [(0, (hints + 1)), (2, (Ad E 1))]) (lo' := [(0, (2, (Ad E 1))), (1, (0, f)), (2, (0, t)), (3, (0, dy)), (4, (0, m)), (5, (0, n)), (6, (0, su)), (7, (0, l7_h151))]) rfl ?_
                              refine r_putIK hX hP rfl fp_12_704 hS (by first | decide | omega) (by first | decide | omega) (fun h44 => ?_)
                              refine r_ex hX hP 1 (pc' := 218) (st' := [(2, (Ad E 1))]) (lo' := [(0, (2, (Ad E 1))), (1, (0, f)), (2, (0, t)), (3, (0, dy)), (4, (0, m)), (5, (0, n)), (6, (0, su)), (7, (0, l7_h151))]) rfl ?_
                              refine r_getKI hX hP rfl fl_12_704 hS (x := (hints + 1)) h44 ?_
                              refine r_ex hX hP 2 (pc' := 223) (st' := [(0, ((hints + 1) - 1))]) (lo' := [(0, (2, (Ad E 1))), (1, (0, f)), (2, (0, t)), (3, (0, dy)), (4, (0, m)), (5, (0, n)), (6, (0, su)), (7, (0, l7_h151))]) rfl ?_
                              exact r_retI hX hP rfl rfl (by first | decide | omega) (by first | decide | omega) ⟨rfl, ⟨_, (hq_up (hq_up (hq_loop (hq_up (hq_up (hq_up (hq_up (hq_up (hq_up (hq_up (hq_up (hq_refl _ _ _) rfl) rfl) rfl) rfl) rfl) rfl) rfl) rfl) rfl) rfl) rfl).symm⟩, ((hints + 1) - 1), rfl, (by first | decide | omega), (by first | decide | omega), (mi_hint (G := G) (B := (hv [] [59] (up (up (up (up (up (up (up (up G 1 (Ad E 1) 1 0) 1 (Ad E 1) 0 0) 54 (Ad E 54) hints f) 55 (Ad E 55) hints t) 56 (Ad E 56) hints dy) 57 (Ad E 57) hints m) 58 (Ad E 58) hints n) 60 (Ad E 60) hints su) Gh151)) mi hints_e (by first | decide | omega) yh151_3 rfl rfl h44.symm rfl rfl rfl (fun _ => rfl) (fun _ => rfl) (fun i hi => ((show (up (up (up (up (up (up (up G 1 (Ad E 1) 1 0) 1 (Ad E 1) 0 0) 54 (Ad E 54) hints f) 55 (Ad E 55) hints t) 56 (Ad E 56) hints dy) 57 (Ad E 57) hints m) 58 (Ad E 58) hints n) 58 (Ad E 58) i = _ from up_ne (fun q => absurd q.2.2 (by first | decide | omega))).trans rfl)) (show (up (up (up (up (up (up (up G 1 (Ad E 1) 1 0) 1 (Ad E 1) 0 0) 54 (Ad E 54) hints f) 55 (Ad E 55) hints t) 56 (Ad E 56) hints dy) 57 (Ad E 57) hints m) 58 (Ad E 58) hints n) 58 (Ad E 58) hints = n from up_self _ _ _ _ _) (fun i hi => ((show (up (hv [] [59] (up (up (up (up (up (up (up (up G 1 (Ad E 1) 1 0) 1 (Ad E 1) 0 0) 54 (Ad E 54) hints f) 55 (Ad E 55) hints t) 56 (Ad E 56) hints dy) 57 (Ad E 57) hints m) 58 (Ad E 58) hints n) 60 (Ad E 60) hints su) Gh151) 59 (Ad E 59) l7_h151 hints) 59 (Ad E 59) i = _ from up_ne (fun q => absurd q.2.2 (by first | decide | omega))).trans rfl)) (show (up (hv [] [59] (up (up (up (up (up (up (up (up G 1 (Ad E 1) 1 0) 1 (Ad E 1) 0 0) 54 (Ad E 54) hints f) 55 (Ad E 55) hints t) 56 (Ad E 56) hints dy) 57 (Ad E 57) hints m) 58 (Ad E 58) hints n) 60 (Ad E 60) hints su) Gh151) 59 (Ad E 59) l7_h151 hints) 59 (Ad E 59) l7_h151 = hints from up_self _ _ _ _ _) (fun _ => rfl) (fun _ => rfl) (fun _ => rfl) (fun _ => rfl) (fun _ => rfl) (fun _ => rfl) (fun _ => rfl) (fun _ => rfl) (fun _ => rfl))⟩
                            · skip
                              refine r_ex hX hP 1 (pc' := 157) (st' := [(2, (Ad E 1))]) (lo' := [(0, (2, (Ad E 1))), (1, (0, f)), (2, (0, t)), (3, (0, dy)), (4, (0, m)), (5, (0, n)), (6, (0, su)), (7, (0, l7_h151))]) rfl ?_
                              refine r_getC hX hP rfl fl_12_182 hS (fun _ => ?_)
                              refine r_ex hX hP 1 (pc' := 161) (st' := [(2, (Ad E 1)), (2, (Ad E 56))]) (lo' := [(0, (2, (Ad E 1))), (1, (0, f)), (2, (0, t)), (3, (0, dy)), (4, (0, m)), (5, (0, n)), (6, (0, su)), (7, (0, l7_h151))]) rfl ?_
                              refine r_getC hX hP rfl fl_12_191 hS (fun s45 => ?_)
                              refine r_ex hX hP 3 (pc' := 168) (st' := [(0, (l7_h151 - 1)), (2, (Ad E 59)), (2, (Ad E 56))]) (lo' := [(0, (2, (Ad E 1))), (1, (0, f)), (2, (0, t)), (3, (0, dy)), (4, (0, m)), (5, (0, n)), (6, (0, su)), (7, (0, l7_h151))]) rfl ?_
                              refine r_iald hX hP rfl al_59 s45 (by first | decide | omega) (by first | decide | omega) (fun x46 x46e x46a x46b => ?_)
                              refine r_iald hX hP rfl al_56 s33 (by first | decide | omega) (by first | decide | omega) (fun x47 x47e x47a x47b => ?_)
                              refine r_ex hX hP 1 (pc' := 171) (st' := [(0, dy), (0, x47)]) (lo' := [(0, (2, (Ad E 1))), (1, (0, f)), (2, (0, t)), (3, (0, dy)), (4, (0, m)), (5, (0, n)), (6, (0, su)), (7, (0, l7_h151))]) rfl ?_
                              refine r_ic_le hX hP rfl (tgt := 196) rfl (by first | decide | omega) (by first | decide | omega) (by first | decide | omega) (by first | decide | omega) (fun c48 => ?_) (fun c48 => ?_)
                              · skip
                                refine r_ex hX hP 1 (pc' := 197) (st' := [(2, (Ad E 1))]) (lo' := [(0, (2, (Ad E 1))), (1, (0, f)), (2, (0, t)), (3, (0, dy)), (4, (0, m)), (5, (0, n)), (6, (0, su)), (7, (0, l7_h151))]) rfl ?_
                                refine r_getC hX hP rfl fl_12_191 hS (fun _ => ?_)
                                refine r_ex hX hP 2 (pc' := 203) (st' := [(2, (Ad E 1)), (0, l7_h151), (2, (Ad E 59))]) (lo' := [(0, (2, (Ad E 1))), (1, (0, f)), (2, (0, t)), (3, (0, dy)), (4, (0, m)), (5, (0, n)), (6, (0, su)), (7, (0, l7_h151))]) rfl ?_
                                refine r_getKI hX hP rfl fl_12_704 hS (x := hints) hints_e ?_
                                refine r_iastK hX hP rfl al_59 s45 (by first | decide | omega) (by first | decide | omega) (by first | decide | omega) (by first | decide | omega) (fun h49 => ?_)
                                refine r_ex hX hP 2 (pc' := 209) (st' := [(2, (Ad E 1)), (2, (Ad E 1))]) (lo' := [(0, (2, (Ad E 1))), (1, (0, f)), (2, (0, t)), (3, (0, dy)), (4, (0, m)), (5, (0, n)), (6, (0, su)), (7, (0, l7_h151))]) rfl ?_
                                refine r_getKI hX hP rfl fl_12_704 hS (x := hints) hints_e ?_
                                refine r_ex hX hP 2 (pc' := 214) (st' := [(0, (hints + 1)), (2, (Ad E 1))]) (lo' := [(0, (2, (Ad E 1))), (1, (0, f)), (2, (0, t)), (3, (0, dy)), (4, (0, m)), (5, (0, n)), (6, (0, su)), (7, (0, l7_h151))]) rfl ?_
                                refine r_putIK hX hP rfl fp_12_704 hS (by first | decide | omega) (by first | decide | omega) (fun h50 => ?_)
                                refine r_ex hX hP 1 (pc' := 218) (st' := [(2, (Ad E 1))]) (lo' := [(0, (2, (Ad E 1))), (1, (0, f)), (2, (0, t)), (3, (0, dy)), (4, (0, m)), (5, (0, n)), (6, (0, su)), (7, (0, l7_h151))]) rfl ?_
                                refine r_getKI hX hP rfl fl_12_704 hS (x := (hints + 1)) h50 ?_
                                refine r_ex hX hP 2 (pc' := 223) (st' := [(0, ((hints + 1) - 1))]) (lo' := [(0, (2, (Ad E 1))), (1, (0, f)), (2, (0, t)), (3, (0, dy)), (4, (0, m)), (5, (0, n)), (6, (0, su)), (7, (0, l7_h151))]) rfl ?_
                                exact r_retI hX hP rfl rfl (by first | decide | omega) (by first | decide | omega) ⟨rfl, ⟨_, (hq_up (hq_up (hq_loop (hq_up (hq_up (hq_up (hq_up (hq_up (hq_up (hq_up (hq_up (hq_refl _ _ _) rfl) rfl) rfl) rfl) rfl) rfl) rfl) rfl) rfl) rfl) rfl).symm⟩, ((hints + 1) - 1), rfl, (by first | decide | omega), (by first | decide | omega), (mi_hint (G := G) (B := (hv [] [59] (up (up (up (up (up (up (up (up G 1 (Ad E 1) 1 0) 1 (Ad E 1) 0 0) 54 (Ad E 54) hints f) 55 (Ad E 55) hints t) 56 (Ad E 56) hints dy) 57 (Ad E 57) hints m) 58 (Ad E 58) hints n) 60 (Ad E 60) hints su) Gh151)) mi hints_e (by first | decide | omega) yh151_3 rfl rfl h50.symm rfl rfl rfl (fun _ => rfl) (fun _ => rfl) (fun i hi => ((show (up (up (up (up (up (up (up G 1 (Ad E 1) 1 0) 1 (Ad E 1) 0 0) 54 (Ad E 54) hints f) 55 (Ad E 55) hints t) 56 (Ad E 56) hints dy) 57 (Ad E 57) hints m) 58 (Ad E 58) hints n) 58 (Ad E 58) i = _ from up_ne (fun q => absurd q.2.2 (by first | decide | omega))).trans rfl)) (show (up (up (up (up (up (up (up G 1 (Ad E 1) 1 0) 1 (Ad E 1) 0 0) 54 (Ad E 54) hints f) 55 (Ad E 55) hints t) 56 (Ad E 56) hints dy) 57 (Ad E 57) hints m) 58 (Ad E 58) hints n) 58 (Ad E 58) hints = n from up_self _ _ _ _ _) (fun i hi => ((show (up (hv [] [59] (up (up (up (up (up (up (up (up G 1 (Ad E 1) 1 0) 1 (Ad E 1) 0 0) 54 (Ad E 54) hints f) 55 (Ad E 55) hints t) 56 (Ad E 56) hints dy) 57 (Ad E 57) hints m) 58 (Ad E 58) hints n) 60 (Ad E 60) hints su) Gh151) 59 (Ad E 59) l7_h151 hints) 59 (Ad E 59) i = _ from up_ne (fun q => absurd q.2.2 (by first | decide | omega))).trans rfl)) (show (up (hv [] [59] (up (up (up (up (up (up (up (up G 1 (Ad E 1) 1 0) 1 (Ad E 1) 0 0) 54 (Ad E 54) hints f) 55 (Ad E 55) hints t) 56 (Ad E 56) hints dy) 57 (Ad E 57) hints m) 58 (Ad E 58) hints n) 60 (Ad E 60) hints su) Gh151) 59 (Ad E 59) l7_h151 hints) 59 (Ad E 59) l7_h151 = hints from up_self _ _ _ _ _) (fun _ => rfl) (fun _ => rfl) (fun _ => rfl) (fun _ => rfl) (fun _ => rfl) (fun _ => rfl) (fun _ => rfl) (fun _ => rfl) (fun _ => rfl))⟩
                              · skip
                                refine r_ex hX hP 1 (pc' := 175) (st' := [(2, (Ad E 1))]) (lo' := [(0, (2, (Ad E 1))), (1, (0, f)), (2, (0, t)), (3, (0, dy)), (4, (0, m)), (5, (0, n)), (6, (0, su)), (7, (0, l7_h151))]) rfl ?_
                                refine r_getC hX hP rfl fl_12_191 hS (fun _ => ?_)
                                refine r_ex hX hP 2 (pc' := 181) (st' := [(2, (Ad E 1)), (0, l7_h151), (2, (Ad E 59))]) (lo' := [(0, (2, (Ad E 1))), (1, (0, f)), (2, (0, t)), (3, (0, dy)), (4, (0, m)), (5, (0, n)), (6, (0, su)), (7, (0, l7_h151))]) rfl ?_
                                refine r_getC hX hP rfl fl_12_191 hS (fun _ => ?_)
                                refine r_ex hX hP 3 (pc' := 188) (st' := [(0, (l7_h151 - 1)), (2, (Ad E 59)), (0, l7_h151), (2, (Ad E 59))]) (lo' := [(0, (2, (Ad E 1))), (1, (0, f)), (2, (0, t)), (3, (0, dy)), (4, (0, m)), (5, (0, n)), (6, (0, su)), (7, (0, l7_h151))]) rfl ?_
                                refine r_ialdK hX hP rfl al_59 s45 (by first | decide | omega) (by first | decide | omega) (x := x46) x46e ?_
                                refine r_iastK hX hP rfl al_59 s45 (by first | decide | omega) (by first | decide | omega) (by first | decide | omega) (by first | decide | omega) (fun h51 => ?_)
                                refine r_ex hX hP 2 (pc' := 151) (st' := []) (lo' := [(0, (2, (Ad E 1))), (1, (0, f)), (2, (0, t)), (3, (0, dy)), (4, (0, m)), (5, (0, n)), (6, (0, su)), (7, (0, (l7_h151 + (-1))))]) rfl ?_
                                refine r_eqG (X := X) (hq_up (hq_base _ _ _ _) rfl) ?_
                                exact ih151 (l7_h151 + (-1)) _ (by first | decide | omega) (by first | decide | omega) (by first | decide | omega) (hno_step yh151_3 (fun i hi => ((show (up (hv [] [59] (up (up (up (up (up (up (up (up G 1 (Ad E 1) 1 0) 1 (Ad E 1) 0 0) 54 (Ad E 54) hints f) 55 (Ad E 55) hints t) 56 (Ad E 56) hints dy) 57 (Ad E 57) hints m) 58 (Ad E 58) hints n) 60 (Ad E 60) hints su) Gh151) 59 (Ad E 59) l7_h151 x46) 59 (Ad E 59) i = _ from up_ne (fun q => absurd q.2.2 (by first | decide | omega))).trans rfl)) ((show (up (hv [] [59] (up (up (up (up (up (up (up (up G 1 (Ad E 1) 1 0) 1 (Ad E 1) 0 0) 54 (Ad E 54) hints f) 55 (Ad E 55) hints t) 56 (Ad E 56) hints dy) 57 (Ad E 57) hints m) 58 (Ad E 58) hints n) 60 (Ad E 60) hints su) Gh151) 59 (Ad E 59) l7_h151 x46) 59 (Ad E 59) l7_h151 = x46 from up_self _ _ _ _ _).trans x46e) (by first | decide | omega) (by first | decide | omega) (by first | decide | omega)) (by first | decide | omega)
                        refine r_eqG (X := X) (hq_refl [] [59] _) ?_
                        exact loop151 ((hints - 0) + 1 : Int).toNat hints _ (by first | decide | omega) (by first | decide | omega) (by first | decide | omega) (hno_in mi hints_e) (by first | decide | omega)
                      · skip
                        refine r_ex hX hP 2 (pc' := 78) (st' := [(0, 3), (2, (Ad E 1))]) (lo' := [(0, (2, (Ad E 1))), (1, (0, f)), (2, (0, t)), (3, (0, dy)), (4, (0, m)), (5, (0, n)), (6, (0, su))]) rfl ?_
                        refine r_callV gd hX hP rfl cv_12_327 hS (d' := 0) (mc' := 0) (ms' := 0) (as' := [(0, 3)]) (st := []) (by first | decide | omega) (by first | decide | omega) (by first | decide | omega) rfl rfl (Nat.le_of_ble_eq_true rfl) (c_X12_refuse E S (up (up G 1 (Ad E 1) 1 0) 1 (Ad E 1) 0 0) 3 hS (by first | decide | omega) (by first | decide | omega)) ?_
                        rintro _ _ _ ⟨rfl, ⟨G52, rfl⟩, z53, rfl, rfl⟩
                        have mi54 : MI E (hv [0] [] (up (up G 1 (Ad E 1) 1 0) 1 (Ad E 1) 0 0) G52) := mi_keep mi rfl rfl rfl rfl rfl rfl (fun _ => rfl) (fun _ => rfl) (fun _ => rfl) (fun _ => rfl) (fun _ => rfl) (fun _ => rfl) (fun _ => rfl) (fun _ => rfl) (fun _ => rfl) (fun _ => rfl) (fun _ => rfl) (fun _ => rfl) (fun _ => rfl)
                        exact r_retI hX hP rfl rfl (by first | decide | omega) (by first | decide | omega) ⟨rfl, ⟨_, (hq_call (hq_up (hq_up (hq_refl _ _ _) rfl) rfl) rfl).symm⟩, (-1), rfl, (by first | decide | omega), (by first | decide | omega), mi54⟩
                    · skip
                      exfalso; omega
                  · skip
                    refine r_if_ne hX hP rfl (tgt := 67) rfl (by first | decide | omega) (by first | decide | omega) (fun c55 => ?_) (fun c55 => ?_)
                    · skip
                      exfalso; omega
                    · skip
                      refine r_ex hX hP 2 (pc' := 63) (st' := [(0, 2), (2, (Ad E 1))]) (lo' := [(0, (2, (Ad E 1))), (1, (0, f)), (2, (0, t)), (3, (0, dy)), (4, (0, m)), (5, (0, n)), (6, (0, su))]) rfl ?_
                      refine r_callV gd hX hP rfl cv_12_327 hS (d' := 0) (mc' := 0) (ms' := 0) (as' := [(0, 2)]) (st := []) (by first | decide | omega) (by first | decide | omega) (by first | decide | omega) rfl rfl (Nat.le_of_ble_eq_true rfl) (c_X12_refuse E S (up (up G 1 (Ad E 1) 1 0) 1 (Ad E 1) 0 0) 2 hS (by first | decide | omega) (by first | decide | omega)) ?_
                      rintro _ _ _ ⟨rfl, ⟨G56, rfl⟩, z57, rfl, rfl⟩
                      have mi58 : MI E (hv [0] [] (up (up G 1 (Ad E 1) 1 0) 1 (Ad E 1) 0 0) G56) := mi_keep mi rfl rfl rfl rfl rfl rfl (fun _ => rfl) (fun _ => rfl) (fun _ => rfl) (fun _ => rfl) (fun _ => rfl) (fun _ => rfl) (fun _ => rfl) (fun _ => rfl) (fun _ => rfl) (fun _ => rfl) (fun _ => rfl) (fun _ => rfl) (fun _ => rfl)
                      exact r_retI hX hP rfl rfl (by first | decide | omega) (by first | decide | omega) ⟨rfl, ⟨_, (hq_call (hq_up (hq_up (hq_refl _ _ _) rfl) rfl) rfl).symm⟩, (-1), rfl, (by first | decide | omega), (by first | decide | omega), mi58⟩
              · skip
                refine r_if_eq hX hP rfl (tgt := 61) rfl (by first | decide | omega) (by first | decide | omega) (fun c59 => ?_) (fun c59 => ?_)
                · skip
                  refine r_ex hX hP 2 (pc' := 63) (st' := [(0, 2), (2, (Ad E 1))]) (lo' := [(0, (2, (Ad E 1))), (1, (0, f)), (2, (0, t)), (3, (0, dy)), (4, (0, m)), (5, (0, n)), (6, (0, su))]) rfl ?_
                  refine r_callV gd hX hP rfl cv_12_327 hS (d' := 0) (mc' := 0) (ms' := 0) (as' := [(0, 2)]) (st := []) (by first | decide | omega) (by first | decide | omega) (by first | decide | omega) rfl rfl (Nat.le_of_ble_eq_true rfl) (c_X12_refuse E S (up (up G 1 (Ad E 1) 1 0) 1 (Ad E 1) 0 0) 2 hS (by first | decide | omega) (by first | decide | omega)) ?_
                  rintro _ _ _ ⟨rfl, ⟨G60, rfl⟩, z61, rfl, rfl⟩
                  have mi62 : MI E (hv [0] [] (up (up G 1 (Ad E 1) 1 0) 1 (Ad E 1) 0 0) G60) := mi_keep mi rfl rfl rfl rfl rfl rfl (fun _ => rfl) (fun _ => rfl) (fun _ => rfl) (fun _ => rfl) (fun _ => rfl) (fun _ => rfl) (fun _ => rfl) (fun _ => rfl) (fun _ => rfl) (fun _ => rfl) (fun _ => rfl) (fun _ => rfl) (fun _ => rfl)
                  exact r_retI hX hP rfl rfl (by first | decide | omega) (by first | decide | omega) ⟨rfl, ⟨_, (hq_call (hq_up (hq_up (hq_refl _ _ _) rfl) rfl) rfl).symm⟩, (-1), rfl, (by first | decide | omega), (by first | decide | omega), mi62⟩
                · skip
                  exfalso; omega
          · skip
            refine r_if_eq hX hP rfl (tgt := 61) rfl (by first | decide | omega) (by first | decide | omega) (fun c63 => ?_) (fun c63 => ?_)
            · skip
              refine r_ex hX hP 2 (pc' := 63) (st' := [(0, 2), (2, (Ad E 1))]) (lo' := [(0, (2, (Ad E 1))), (1, (0, f)), (2, (0, t)), (3, (0, dy)), (4, (0, m)), (5, (0, n)), (6, (0, su))]) rfl ?_
              refine r_callV gd hX hP rfl cv_12_327 hS (d' := 0) (mc' := 0) (ms' := 0) (as' := [(0, 2)]) (st := []) (by first | decide | omega) (by first | decide | omega) (by first | decide | omega) rfl rfl (Nat.le_of_ble_eq_true rfl) (c_X12_refuse E S (up (up G 1 (Ad E 1) 1 0) 1 (Ad E 1) 0 0) 2 hS (by first | decide | omega) (by first | decide | omega)) ?_
              rintro _ _ _ ⟨rfl, ⟨G64, rfl⟩, z65, rfl, rfl⟩
              have mi66 : MI E (hv [0] [] (up (up G 1 (Ad E 1) 1 0) 1 (Ad E 1) 0 0) G64) := mi_keep mi rfl rfl rfl rfl rfl rfl (fun _ => rfl) (fun _ => rfl) (fun _ => rfl) (fun _ => rfl) (fun _ => rfl) (fun _ => rfl) (fun _ => rfl) (fun _ => rfl) (fun _ => rfl) (fun _ => rfl) (fun _ => rfl) (fun _ => rfl) (fun _ => rfl)
              exact r_retI hX hP rfl rfl (by first | decide | omega) (by first | decide | omega) ⟨rfl, ⟨_, (hq_call (hq_up (hq_up (hq_refl _ _ _) rfl) rfl) rfl).symm⟩, (-1), rfl, (by first | decide | omega), (by first | decide | omega), mi66⟩
            · skip
              exfalso; omega
        · skip
          exfalso; omega
      · skip
        refine r_if_ne hX hP rfl (tgt := 30) rfl (by first | decide | omega) (by first | decide | omega) (fun c67 => ?_) (fun c67 => ?_)
        · skip
          exfalso; omega
        · skip
          refine r_ex hX hP 2 (pc' := 26) (st' := [(0, 1), (2, (Ad E 1))]) (lo' := [(0, (2, (Ad E 1))), (1, (0, f)), (2, (0, t)), (3, (0, dy)), (4, (0, m)), (5, (0, n)), (6, (0, su))]) rfl ?_
          refine r_callV gd hX hP rfl cv_12_327 hS (d' := 0) (mc' := 0) (ms' := 0) (as' := [(0, 1)]) (st := []) (by first | decide | omega) (by first | decide | omega) (by first | decide | omega) rfl rfl (Nat.le_of_ble_eq_true rfl) (c_X12_refuse E S (up (up G 1 (Ad E 1) 1 0) 1 (Ad E 1) 0 0) 1 hS (by first | decide | omega) (by first | decide | omega)) ?_
          rintro _ _ _ ⟨rfl, ⟨G68, rfl⟩, z69, rfl, rfl⟩
          have mi70 : MI E (hv [0] [] (up (up G 1 (Ad E 1) 1 0) 1 (Ad E 1) 0 0) G68) := mi_keep mi rfl rfl rfl rfl rfl rfl (fun _ => rfl) (fun _ => rfl) (fun _ => rfl) (fun _ => rfl) (fun _ => rfl) (fun _ => rfl) (fun _ => rfl) (fun _ => rfl) (fun _ => rfl) (fun _ => rfl) (fun _ => rfl) (fun _ => rfl) (fun _ => rfl)
          exact r_retI hX hP rfl rfl (by first | decide | omega) (by first | decide | omega) ⟨rfl, ⟨_, (hq_call (hq_up (hq_up (hq_refl _ _ _) rfl) rfl) rfl).symm⟩, (-1), rfl, (by first | decide | omega), (by first | decide | omega), mi70⟩
  · skip
    refine r_if_eq hX hP rfl (tgt := 24) rfl (by first | decide | omega) (by first | decide | omega) (fun c71 => ?_) (fun c71 => ?_)
    · skip
      refine r_ex hX hP 2 (pc' := 26) (st' := [(0, 1), (2, (Ad E 1))]) (lo' := [(0, (2, (Ad E 1))), (1, (0, f)), (2, (0, t)), (3, (0, dy)), (4, (0, m)), (5, (0, n)), (6, (0, su))]) rfl ?_
      refine r_callV gd hX hP rfl cv_12_327 hS (d' := 0) (mc' := 0) (ms' := 0) (as' := [(0, 1)]) (st := []) (by first | decide | omega) (by first | decide | omega) (by first | decide | omega) rfl rfl (Nat.le_of_ble_eq_true rfl) (c_X12_refuse E S (up (up G 1 (Ad E 1) 1 0) 1 (Ad E 1) 0 0) 1 hS (by first | decide | omega) (by first | decide | omega)) ?_
      rintro _ _ _ ⟨rfl, ⟨G72, rfl⟩, z73, rfl, rfl⟩
      have mi74 : MI E (hv [0] [] (up (up G 1 (Ad E 1) 1 0) 1 (Ad E 1) 0 0) G72) := mi_keep mi rfl rfl rfl rfl rfl rfl (fun _ => rfl) (fun _ => rfl) (fun _ => rfl) (fun _ => rfl) (fun _ => rfl) (fun _ => rfl) (fun _ => rfl) (fun _ => rfl) (fun _ => rfl) (fun _ => rfl) (fun _ => rfl) (fun _ => rfl) (fun _ => rfl)
      exact r_retI hX hP rfl rfl (by first | decide | omega) (by first | decide | omega) ⟨rfl, ⟨_, (hq_call (hq_up (hq_up (hq_refl _ _ _) rfl) rfl) rfl).symm⟩, (-1), rfl, (by first | decide | omega), (by first | decide | omega), mi74⟩
    · skip
      exfalso; omega
