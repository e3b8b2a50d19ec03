set_option maxRecDepth 100000 in
set_option maxHeartbeats 4000000 in
theorem c_X12_optionT (E : En) (S : Sg) (G : Gh) (p d s n k : Int) (hS : S (Ad E 1) = 1) (options : Int) (options_e : options = G 1 (Ad E 1) 11) (latest : Int) (latest_e : latest = G 1 (Ad E 1) 3) (p_a : (-2147483648) ≤ p) (p_b : p ≤ 2147483647) (d_a : (-2147483648) ≤ d) (d_b : d ≤ 2147483647) (s_a : (-2147483648) ≤ s) (s_b : s ≤ 2147483647) (n_a : (-2147483648) ≤ n) (n_b : n ≤ 2147483647) (k_a : (-2147483648) ≤ k) (k_b : k ≤ 2147483647) (mi : MI E G) : Calls E mX12_option [(2, (Ad E 1)), (0, p), (0, d), (0, s), (0, n), (0, k)] S G 2 0 0 (fun r S' G' => S = S' ∧ (∃ G1, hv [0, 1, 3, 11] [44, 45, 46, 47, 48] G G1 = G') ∧ ∃ z : Int, r = some (0, z) ∧ ∃ c2 : Int, c2 = G' 1 (Ad E 1) 11 ∧ ∃ l2 : Int, l2 = G' 1 (Ad E 1) 3 ∧ (-2147483648) ≤ z ∧ z ≤ 2147483647 ∧ ((0 ≤ p ∧ p ≤ 19 ∧ 0 ≤ d ∧ d ≤ 40000 ∧ 1 ≤ s ∧ s ≤ 1000000 ∧ 1 ≤ n ∧ n ≤ 10000 ∧ 0 ≤ k ∧ k ≤ 40000 ∧ options < 10 ∧ latest ≤ k ∧ z = options ∧ c2 = options + 1 ∧ l2 = k) ∨ (z = -1 ∧ c2 = options ∧ l2 = latest ∧ ¬ (0 ≤ p ∧ p ≤ 19 ∧ 0 ≤ d ∧ d ≤ 40000 ∧ 1 ≤ s ∧ s ≤ 1000000 ∧ 1 ≤ n ∧ n ≤ 10000 ∧ 0 ≤ k ∧ k ≤ 40000 ∧ options < 10 ∧ latest ≤ k))) ∧ MI E G') := by
  refine calls_by [(0, (2, (Ad E 1))), (1, (0, p)), (2, (0, d)), (3, (0, s)), (4, (0, n)), (5, (0, k))] rfl rfl (Nat.le_of_ble_eq_true rfl) (fun X hX => ?_)
  have hP := hPX12_option
  refine r_peekI hX (tl1 11 rfl (by decide)) hS (fun options_o options_oe options_oa options_ob => ?_)
  obtain rfl : options = options_o := options_e.trans options_oe.symm
  refine r_peekI hX (tl1 3 rfl (by decide)) hS (fun latest_o latest_oe latest_oa latest_ob => ?_)
  obtain rfl : latest = latest_o := latest_e.trans latest_oe.symm
  refine r_ex hX hP 2 (pc' := 2) (st' := [(0, 0), (2, (Ad E 1))]) (lo' := [(0, (2, (Ad E 1))), (1, (0, p)), (2, (0, d)), (3, (0, s)), (4, (0, n)), (5, (0, k))]) rfl ?_
  refine r_putIK hX hP rfl fp_12_304 hS (by first | decide | omega) (by first | decide | omega) (fun h1 => ?_)
  refine r_ex hX hP 2 (pc' := 7) (st' := [(0, 0), (2, (Ad E 1))]) (lo' := [(0, (2, (Ad E 1))), (1, (0, p)), (2, (0, d)), (3, (0, s)), (4, (0, n)), (5, (0, k))]) rfl ?_
  refine r_putIK hX hP rfl fp_12_307 hS (by first | decide | omega) (by first | decide | omega) (fun h2 => ?_)
  refine r_ex hX hP 1 (pc' := 11) (st' := [(0, p)]) (lo' := [(0, (2, (Ad E 1))), (1, (0, p)), (2, (0, d)), (3, (0, s)), (4, (0, n)), (5, (0, k))]) rfl ?_
  refine r_callS gd hX hP rfl cs_12_331 (d' := 1) (mc' := 0) (ms' := 0) (as' := [(0, p)]) (st := []) (by first | decide | omega) (by first | decide | omega) (by first | decide | omega) rfl rfl (Nat.le_of_ble_eq_true rfl) (c_X12_isPaper E S (up (up G 1 (Ad E 1) 1 0) 1 (Ad E 1) 0 0) p (by first | decide | omega) (by first | decide | omega)) ?_
  rintro _ _ _ ⟨rfl, rfl, z3, rfl, (⟨rfl, f4, f5⟩ | ⟨rfl, f6⟩)⟩
  · skip
    refine r_if_ne hX hP rfl (tgt := 23) rfl (by first | decide | omega) (by first | decide | omega) (fun c7 => ?_) (fun c7 => ?_)
    · skip
      refine r_ex hX hP 1 (pc' := 24) (st' := [(0, d)]) (lo' := [(0, (2, (Ad E 1))), (1, (0, p)), (2, (0, d)), (3, (0, s)), (4, (0, n)), (5, (0, k))]) rfl ?_
      refine r_callS gd hX hP rfl cs_12_317 (d' := 1) (mc' := 0) (ms' := 0) (as' := [(0, d)]) (st := []) (by first | decide | omega) (by first | decide | omega) (by first | decide | omega) rfl rfl (Nat.le_of_ble_eq_true rfl) (c_X12_isDay E S (up (up G 1 (Ad E 1) 1 0) 1 (Ad E 1) 0 0) d (by first | decide | omega) (by first | decide | omega)) ?_
      rintro _ _ _ ⟨rfl, rfl, z8, rfl, (⟨rfl, f9, f10⟩ | ⟨rfl, f11⟩)⟩
      · skip
        refine r_if_eq hX hP rfl (tgt := 61) rfl (by first | decide | omega) (by first | decide | omega) (fun c12 => ?_) (fun c12 => ?_)
        · skip
          exfalso; omega
        · skip
          refine r_ex hX hP 2 (pc' := 32) (st' := [(0, 1), (0, s)]) (lo' := [(0, (2, (Ad E 1))), (1, (0, p)), (2, (0, d)), (3, (0, s)), (4, (0, n)), (5, (0, k))]) rfl ?_
          refine r_ldcw hX hP rfl (v := 1000000) (tbg sg9 103 rfl rfl) ?_
          refine r_callS gd hX hP rfl cs_12_310 (d' := 0) (mc' := 0) (ms' := 0) (as' := [(0, s), (0, 1), (0, 1000000)]) (st := []) (by first | decide | omega) (by first | decide | omega) (by first | decide | omega) rfl rfl (Nat.le_of_ble_eq_true rfl) (c_X12_isIn E S (up (up G 1 (Ad E 1) 1 0) 1 (Ad E 1) 0 0) s 1 1000000 (by first | decide | omega) (by first | decide | omega) (by first | decide | omega) (by first | decide | omega) (by first | decide | omega) (by first | decide | omega)) ?_
          rintro _ _ _ ⟨rfl, rfl, z13, rfl, (⟨rfl, f14, f15⟩ | ⟨rfl, f16⟩)⟩
          · skip
            refine r_if_eq hX hP rfl (tgt := 61) rfl (by first | decide | omega) (by first | decide | omega) (fun c17 => ?_) (fun c17 => ?_)
            · skip
              exfalso; omega
            · skip
              refine r_ex hX hP 3 (pc' := 47) (st' := [(0, 10000), (0, 1), (0, n)]) (lo' := [(0, (2, (Ad E 1))), (1, (0, p)), (2, (0, d)), (3, (0, s)), (4, (0, n)), (5, (0, k))]) rfl ?_
              refine r_callS gd hX hP rfl cs_12_310 (d' := 0) (mc' := 0) (ms' := 0) (as' := [(0, n), (0, 1), (0, 10000)]) (st := []) (by first | decide | omega) (by first | decide | omega) (by first | decide | omega) rfl rfl (Nat.le_of_ble_eq_true rfl) (c_X12_isIn E S (up (up G 1 (Ad E 1) 1 0) 1 (Ad E 1) 0 0) n 1 10000 (by first | decide | omega) (by first | decide | omega) (by first | decide | omega) (by first | decide | omega) (by first | decide | omega) (by first | decide | omega)) ?_
              rintro _ _ _ ⟨rfl, rfl, z18, rfl, (⟨rfl, f19, f20⟩ | ⟨rfl, f21⟩)⟩
              · skip
                refine r_if_eq hX hP rfl (tgt := 61) rfl (by first | decide | omega) (by first | decide | omega) (fun c22 => ?_) (fun c22 => ?_)
                · skip
                  exfalso; omega
                · skip
                  refine r_ex hX hP 1 (pc' := 55) (st' := [(0, k)]) (lo' := [(0, (2, (Ad E 1))), (1, (0, p)), (2, (0, d)), (3, (0, s)), (4, (0, n)), (5, (0, k))]) rfl ?_
                  refine r_callS gd hX hP rfl cs_12_317 (d' := 1) (mc' := 0) (ms' := 0) (as' := [(0, k)]) (st := []) (by first | decide | omega) (by first | decide | omega) (by first | decide | omega) rfl rfl (Nat.le_of_ble_eq_true rfl) (c_X12_isDay E S (up (up G 1 (Ad E 1) 1 0) 1 (Ad E 1) 0 0) k (by first | decide | omega) (by first | decide | omega)) ?_
                  rintro _ _ _ ⟨rfl, rfl, z23, rfl, (⟨rfl, f24, f25⟩ | ⟨rfl, f26⟩)⟩
                  · skip
                    refine r_if_ne hX hP rfl (tgt := 67) rfl (by first | decide | omega) (by first | decide | omega) (fun c27 => ?_) (fun c27 => ?_)
                    · skip
                      refine r_ex hX hP 1 (pc' := 68) (st' := [(2, (Ad E 1))]) (lo' := [(0, (2, (Ad E 1))), (1, (0, p)), (2, (0, d)), (3, (0, s)), (4, (0, n)), (5, (0, k))]) rfl ?_
                      refine r_getKI hX hP rfl fl_12_628 hS (x := options) options_e ?_
                      refine r_ex hX hP 1 (pc' := 73) (st' := [(0, 10), (0, options)]) (lo' := [(0, (2, (Ad E 1))), (1, (0, p)), (2, (0, d)), (3, (0, s)), (4, (0, n)), (5, (0, k))]) rfl ?_
                      refine r_ic_ne hX hP rfl (tgt := 82) rfl (by first | decide | omega) (by first | decide | omega) (by first | decide | omega) (by first | decide | omega) (fun c28 => ?_) (fun c28 => ?_)
                      · skip
                        refine r_ex hX hP 2 (pc' := 85) (st' := [(2, (Ad E 1)), (0, k)]) (lo' := [(0, (2, (Ad E 1))), (1, (0, p)), (2, (0, d)), (3, (0, s)), (4, (0, n)), (5, (0, k))]) rfl ?_
                        refine r_getKI hX hP rfl fl_12_339 hS (x := latest) latest_e ?_
                        refine r_ic_ge hX hP rfl (tgt := 97) rfl (by first | decide | omega) (by first | decide | omega) (by first | decide | omega) (by first | decide | omega) (fun c29 => ?_) (fun c29 => ?_)
                        · skip
                          refine r_ex hX hP 1 (pc' := 98) (st' := [(2, (Ad E 1))]) (lo' := [(0, (2, (Ad E 1))), (1, (0, p)), (2, (0, d)), (3, (0, s)), (4, (0, n)), (5, (0, k))]) rfl ?_
                          refine r_getC hX hP rfl fl_12_146 hS (fun s30 => ?_)
                          refine r_ex hX hP 1 (pc' := 102) (st' := [(2, (Ad E 1)), (2, (Ad E 44))]) (lo' := [(0, (2, (Ad E 1))), (1, (0, p)), (2, (0, d)), (3, (0, s)), (4, (0, n)), (5, (0, k))]) rfl ?_
                          refine r_getKI hX hP rfl fl_12_628 hS (x := options) options_e ?_
                          refine r_ex hX hP 1 (pc' := 106) (st' := [(0, p), (0, options), (2, (Ad E 44))]) (lo' := [(0, (2, (Ad E 1))), (1, (0, p)), (2, (0, d)), (3, (0, s)), (4, (0, n)), (5, (0, k))]) rfl ?_
                          refine r_iastK hX hP rfl al_44 s30 (by first | decide | omega) (by first | decide | omega) (by first | decide | omega) (by first | decide | omega) (fun h31 => ?_)
                          refine r_ex hX hP 1 (pc' := 108) (st' := [(2, (Ad E 1))]) (lo' := [(0, (2, (Ad E 1))), (1, (0, p)), (2, (0, d)), (3, (0, s)), (4, (0, n)), (5, (0, k))]) rfl ?_
                          refine r_getC hX hP rfl fl_12_149 hS (fun s32 => ?_)
                          refine r_ex hX hP 1 (pc' := 112) (st' := [(2, (Ad E 1)), (2, (Ad E 45))]) (lo' := [(0, (2, (Ad E 1))), (1, (0, p)), (2, (0, d)), (3, (0, s)), (4, (0, n)), (5, (0, k))]) rfl ?_
                          refine r_getKI hX hP rfl fl_12_628 hS (x := options) options_e ?_
                          refine r_ex hX hP 1 (pc' := 116) (st' := [(0, d), (0, options), (2, (Ad E 45))]) (lo' := [(0, (2, (Ad E 1))), (1, (0, p)), (2, (0, d)), (3, (0, s)), (4, (0, n)), (5, (0, k))]) rfl ?_
                          refine r_iastK hX hP rfl al_45 s32 (by first | decide | omega) (by first | decide | omega) (by first | decide | omega) (by first | decide | omega) (fun h33 => ?_)
                          refine r_ex hX hP 1 (pc' := 118) (st' := [(2, (Ad E 1))]) (lo' := [(0, (2, (Ad E 1))), (1, (0, p)), (2, (0, d)), (3, (0, s)), (4, (0, n)), (5, (0, k))]) rfl ?_
                          refine r_getC hX hP rfl fl_12_152 hS (fun s34 => ?_)
                          refine r_ex hX hP 1 (pc' := 122) (st' := [(2, (Ad E 1)), (2, (Ad E 46))]) (lo' := [(0, (2, (Ad E 1))), (1, (0, p)), (2, (0, d)), (3, (0, s)), (4, (0, n)), (5, (0, k))]) rfl ?_
                          refine r_getKI hX hP rfl fl_12_628 hS (x := options) options_e ?_
                          refine r_ex hX hP 1 (pc' := 126) (st' := [(0, s), (0, options), (2, (Ad E 46))]) (lo' := [(0, (2, (Ad E 1))), (1, (0, p)), (2, (0, d)), (3, (0, s)), (4, (0, n)), (5, (0, k))]) rfl ?_
                          refine r_iastK hX hP rfl al_46 s34 (by first | decide | omega) (by first | decide | omega) (by first | decide | omega) (by first | decide | omega) (fun h35 => ?_)
                          refine r_ex hX hP 1 (pc' := 128) (st' := [(2, (Ad E 1))]) (lo' := [(0, (2, (Ad E 1))), (1, (0, p)), (2, (0, d)), (3, (0, s)), (4, (0, n)), (5, (0, k))]) rfl ?_
                          refine r_getC hX hP rfl fl_12_155 hS (fun s36 => ?_)
                          refine r_ex hX hP 1 (pc' := 132) (st' := [(2, (Ad E 1)), (2, (Ad E 47))]) (lo' := [(0, (2, (Ad E 1))), (1, (0, p)), (2, (0, d)), (3, (0, s)), (4, (0, n)), (5, (0, k))]) rfl ?_
                          refine r_getKI hX hP rfl fl_12_628 hS (x := options) options_e ?_
                          refine r_ex hX hP 1 (pc' := 137) (st' := [(0, n), (0, options), (2, (Ad E 47))]) (lo' := [(0, (2, (Ad E 1))), (1, (0, p)), (2, (0, d)), (3, (0, s)), (4, (0, n)), (5, (0, k))]) rfl ?_
                          refine r_iastK hX hP rfl al_47 s36 (by first | decide | omega) (by first | decide | omega) (by first | decide | omega) (by first | decide | omega) (fun h37 => ?_)
                          refine r_ex hX hP 1 (pc' := 139) (st' := [(2, (Ad E 1))]) (lo' := [(0, (2, (Ad E 1))), (1, (0, p)), (2, (0, d)), (3, (0, s)), (4, (0, n)), (5, (0, k))]) rfl ?_
                          refine r_getC hX hP rfl fl_12_158 hS (fun s38 => ?_)
                          refine r_ex hX hP 1 (pc' := 143) (st' := [(2, (Ad E 1)), (2, (Ad E 48))]) (lo' := [(0, (2, (Ad E 1))), (1, (0, p)), (2, (0, d)), (3, (0, s)), (4, (0, n)), (5, (0, k))]) rfl ?_
                          refine r_getKI hX hP rfl fl_12_628 hS (x := options) options_e ?_
                          refine r_ex hX hP 1 (pc' := 148) (st' := [(0, k), (0, options), (2, (Ad E 48))]) (lo' := [(0, (2, (Ad E 1))), (1, (0, p)), (2, (0, d)), (3, (0, s)), (4, (0, n)), (5, (0, k))]) rfl ?_
                          refine r_iastK hX hP rfl al_48 s38 (by first | decide | omega) (by first | decide | omega) (by first | decide | omega) (by first | decide | omega) (fun h39 => ?_)
                          refine r_ex hX hP 2 (pc' := 151) (st' := [(2, (Ad E 1)), (2, (Ad E 1))]) (lo' := [(0, (2, (Ad E 1))), (1, (0, p)), (2, (0, d)), (3, (0, s)), (4, (0, n)), (5, (0, k))]) rfl ?_
                          refine r_getKI hX hP rfl fl_12_628 hS (x := options) options_e ?_
                          refine r_ex hX hP 2 (pc' := 156) (st' := [(0, (options + 1)), (2, (Ad E 1))]) (lo' := [(0, (2, (Ad E 1))), (1, (0, p)), (2, (0, d)), (3, (0, s)), (4, (0, n)), (5, (0, k))]) rfl ?_
                          refine r_putIK hX hP rfl fp_12_628 hS (by first | decide | omega) (by first | decide | omega) (fun h40 => ?_)
                          refine r_ex hX hP 2 (pc' := 162) (st' := [(0, k), (2, (Ad E 1))]) (lo' := [(0, (2, (Ad E 1))), (1, (0, p)), (2, (0, d)), (3, (0, s)), (4, (0, n)), (5, (0, k))]) rfl ?_
                          refine r_putIK hX hP rfl fp_12_339 hS (by first | decide | omega) (by first | decide | omega) (fun h41 => ?_)
                          refine r_ex hX hP 1 (pc' := 166) (st' := [(2, (Ad E 1))]) (lo' := [(0, (2, (Ad E 1))), (1, (0, p)), (2, (0, d)), (3, (0, s)), (4, (0, n)), (5, (0, k))]) rfl ?_
                          refine r_getKI hX hP rfl fl_12_628 hS (x := (options + 1)) h40 ?_
                          refine r_ex hX hP 2 (pc' := 171) (st' := [(0, ((options + 1) - 1))]) (lo' := [(0, (2, (Ad E 1))), (1, (0, p)), (2, (0, d)), (3, (0, s)), (4, (0, n)), (5, (0, k))]) rfl ?_
                          exact r_retI hX hP rfl rfl (by first | decide | omega) (by first | decide | omega) ⟨rfl, ⟨_, (hq_up (hq_up (hq_up (hq_up (hq_up (hq_up (hq_up (hq_up (hq_up (hq_refl _ _ _) rfl) rfl) rfl) rfl) rfl) rfl) rfl) rfl) rfl).symm⟩, ((options + 1) - 1), rfl, (options + 1), h40, k, h41, (by first | decide | omega), (by first | decide | omega), (by first | decide | omega), (mi_option mi options_e (by first | decide | omega) (by first | decide | omega) rfl rfl rfl rfl (up_self (up (up (up (up (up (up (up G 1 (Ad E 1) 1 0) 1 (Ad E 1) 0 0) 44 (Ad E 44) options p) 45 (Ad E 45) options d) 46 (Ad E 46) options s) 47 (Ad E 47) options n) 48 (Ad E 48) options k) 1 (Ad E 1) 11 (options + 1)) rfl (fun _ => rfl) (fun _ => rfl) (fun _ => rfl) (fun _ => rfl) (fun _ => rfl) (fun i hi => show (up (up (up (up (up G 1 (Ad E 1) 1 0) 1 (Ad E 1) 0 0) 44 (Ad E 44) options p) 45 (Ad E 45) options d) 46 (Ad E 46) options s) 46 (Ad E 46) i = _ from up_ne (fun q => hi q.2.2)) (show (up (up (up (up (up G 1 (Ad E 1) 1 0) 1 (Ad E 1) 0 0) 44 (Ad E 44) options p) 45 (Ad E 45) options d) 46 (Ad E 46) options s) 46 (Ad E 46) options = _ from up_self _ _ _ _ _) (fun i hi => show (up (up (up (up (up (up G 1 (Ad E 1) 1 0) 1 (Ad E 1) 0 0) 44 (Ad E 44) options p) 45 (Ad E 45) options d) 46 (Ad E 46) options s) 47 (Ad E 47) options n) 47 (Ad E 47) i = _ from up_ne (fun q => hi q.2.2)) (show (up (up (up (up (up (up G 1 (Ad E 1) 1 0) 1 (Ad E 1) 0 0) 44 (Ad E 44) options p) 45 (Ad E 45) options d) 46 (Ad E 46) options s) 47 (Ad E 47) options n) 47 (Ad E 47) options = _ from up_self _ _ _ _ _) (fun _ => rfl) (fun _ => rfl) (fun _ => rfl) (fun _ => rfl) (fun _ => rfl) (fun _ => rfl))⟩
                        · skip
                          refine r_ex hX hP 2 (pc' := 93) (st' := [(0, 4), (2, (Ad E 1))]) (lo' := [(0, (2, (Ad E 1))), (1, (0, p)), (2, (0, d)), (3, (0, s)), (4, (0, n)), (5, (0, k))]) rfl ?_
                          refine r_callV gd hX hP rfl cv_12_327 hS (d' := 0) (mc' := 0) (ms' := 0) (as' := [(0, 4)]) (st := []) (by first | decide | omega) (by first | decide | omega) (by first | decide | omega) rfl rfl (Nat.le_of_ble_eq_true rfl) (c_X12_refuse E S (up (up G 1 (Ad E 1) 1 0) 1 (Ad E 1) 0 0) 4 hS (by first | decide | omega) (by first | decide | omega)) ?_
                          rintro _ _ _ ⟨rfl, ⟨G42, rfl⟩, z43, rfl, rfl⟩
                          have mi44 : MI E (hv [0] [] (up (up G 1 (Ad E 1) 1 0) 1 (Ad E 1) 0 0) G42) := mi_keep mi rfl rfl rfl rfl rfl rfl (fun _ => rfl) (fun _ => rfl) (fun _ => rfl) (fun _ => rfl) (fun _ => rfl) (fun _ => rfl) (fun _ => rfl) (fun _ => rfl) (fun _ => rfl) (fun _ => rfl) (fun _ => rfl) (fun _ => rfl) (fun _ => rfl)
                          exact r_retI hX hP rfl rfl (by first | decide | omega) (by first | decide | omega) ⟨rfl, ⟨_, (hq_call (hq_up (hq_up (hq_refl _ _ _) rfl) rfl) rfl).symm⟩, (-1), rfl, options, options_e, latest, latest_e, (by first | decide | omega), (by first | decide | omega), (by first | decide | omega), mi44⟩
                      · skip
                        refine r_ex hX hP 2 (pc' := 78) (st' := [(0, 3), (2, (Ad E 1))]) (lo' := [(0, (2, (Ad E 1))), (1, (0, p)), (2, (0, d)), (3, (0, s)), (4, (0, n)), (5, (0, k))]) rfl ?_
                        refine r_callV gd hX hP rfl cv_12_327 hS (d' := 0) (mc' := 0) (ms' := 0) (as' := [(0, 3)]) (st := []) (by first | decide | omega) (by first | decide | omega) (by first | decide | omega) rfl rfl (Nat.le_of_ble_eq_true rfl) (c_X12_refuse E S (up (up G 1 (Ad E 1) 1 0) 1 (Ad E 1) 0 0) 3 hS (by first | decide | omega) (by first | decide | omega)) ?_
                        rintro _ _ _ ⟨rfl, ⟨G45, rfl⟩, z46, rfl, rfl⟩
                        have mi47 : MI E (hv [0] [] (up (up G 1 (Ad E 1) 1 0) 1 (Ad E 1) 0 0) G45) := mi_keep mi rfl rfl rfl rfl rfl rfl (fun _ => rfl) (fun _ => rfl) (fun _ => rfl) (fun _ => rfl) (fun _ => rfl) (fun _ => rfl) (fun _ => rfl) (fun _ => rfl) (fun _ => rfl) (fun _ => rfl) (fun _ => rfl) (fun _ => rfl) (fun _ => rfl)
                        exact r_retI hX hP rfl rfl (by first | decide | omega) (by first | decide | omega) ⟨rfl, ⟨_, (hq_call (hq_up (hq_up (hq_refl _ _ _) rfl) rfl) rfl).symm⟩, (-1), rfl, options, options_e, latest, latest_e, (by first | decide | omega), (by first | decide | omega), (by first | decide | omega), mi47⟩
                    · skip
                      exfalso; omega
                  · skip
                    refine r_if_ne hX hP rfl (tgt := 67) rfl (by first | decide | omega) (by first | decide | omega) (fun c48 => ?_) (fun c48 => ?_)
                    · skip
                      exfalso; omega
                    · skip
                      refine r_ex hX hP 2 (pc' := 63) (st' := [(0, 2), (2, (Ad E 1))]) (lo' := [(0, (2, (Ad E 1))), (1, (0, p)), (2, (0, d)), (3, (0, s)), (4, (0, n)), (5, (0, k))]) rfl ?_
                      refine r_callV gd hX hP rfl cv_12_327 hS (d' := 0) (mc' := 0) (ms' := 0) (as' := [(0, 2)]) (st := []) (by first | decide | omega) (by first | decide | omega) (by first | decide | omega) rfl rfl (Nat.le_of_ble_eq_true rfl) (c_X12_refuse E S (up (up G 1 (Ad E 1) 1 0) 1 (Ad E 1) 0 0) 2 hS (by first | decide | omega) (by first | decide | omega)) ?_
                      rintro _ _ _ ⟨rfl, ⟨G49, rfl⟩, z50, rfl, rfl⟩
                      have mi51 : MI E (hv [0] [] (up (up G 1 (Ad E 1) 1 0) 1 (Ad E 1) 0 0) G49) := mi_keep mi rfl rfl rfl rfl rfl rfl (fun _ => rfl) (fun _ => rfl) (fun _ => rfl) (fun _ => rfl) (fun _ => rfl) (fun _ => rfl) (fun _ => rfl) (fun _ => rfl) (fun _ => rfl) (fun _ => rfl) (fun _ => rfl) (fun _ => rfl) (fun _ => rfl)
                      exact r_retI hX hP rfl rfl (by first | decide | omega) (by first | decide | omega) ⟨rfl, ⟨_, (hq_call (hq_up (hq_up (hq_refl _ _ _) rfl) rfl) rfl).symm⟩, (-1), rfl, options, options_e, latest, latest_e, (by first | decide | omega), (by first | decide | omega), (by first | decide | omega), mi51⟩
              · skip
                refine r_if_eq hX hP rfl (tgt := 61) rfl (by first | decide | omega) (by first | decide | omega) (fun c52 => ?_) (fun c52 => ?_)
                · skip
                  refine r_ex hX hP 2 (pc' := 63) (st' := [(0, 2), (2, (Ad E 1))]) (lo' := [(0, (2, (Ad E 1))), (1, (0, p)), (2, (0, d)), (3, (0, s)), (4, (0, n)), (5, (0, k))]) rfl ?_
                  refine r_callV gd hX hP rfl cv_12_327 hS (d' := 0) (mc' := 0) (ms' := 0) (as' := [(0, 2)]) (st := []) (by first | decide | omega) (by first | decide | omega) (by first | decide | omega) rfl rfl (Nat.le_of_ble_eq_true rfl) (c_X12_refuse E S (up (up G 1 (Ad E 1) 1 0) 1 (Ad E 1) 0 0) 2 hS (by first | decide | omega) (by first | decide | omega)) ?_
                  rintro _ _ _ ⟨rfl, ⟨G53, rfl⟩, z54, rfl, rfl⟩
                  have mi55 : MI E (hv [0] [] (up (up G 1 (Ad E 1) 1 0) 1 (Ad E 1) 0 0) G53) := mi_keep mi rfl rfl rfl rfl rfl rfl (fun _ => rfl) (fun _ => rfl) (fun _ => rfl) (fun _ => rfl) (fun _ => rfl) (fun _ => rfl) (fun _ => rfl) (fun _ => rfl) (fun _ => rfl) (fun _ => rfl) (fun _ => rfl) (fun _ => rfl) (fun _ => rfl)
                  exact r_retI hX hP rfl rfl (by first | decide | omega) (by first | decide | omega) ⟨rfl, ⟨_, (hq_call (hq_up (hq_up (hq_refl _ _ _) rfl) rfl) rfl).symm⟩, (-1), rfl, options, options_e, latest, latest_e, (by first | decide | omega), (by first | decide | omega), (by first | decide | omega), mi55⟩
                · skip
                  exfalso; omega
          · skip
            refine r_if_eq hX hP rfl (tgt := 61) rfl (by first | decide | omega) (by first | decide | omega) (fun c56 => ?_) (fun c56 => ?_)
            · skip
              refine r_ex hX hP 2 (pc' := 63) (st' := [(0, 2), (2, (Ad E 1))]) (lo' := [(0, (2, (Ad E 1))), (1, (0, p)), (2, (0, d)), (3, (0, s)), (4, (0, n)), (5, (0, k))]) rfl ?_
              refine r_callV gd hX hP rfl cv_12_327 hS (d' := 0) (mc' := 0) (ms' := 0) (as' := [(0, 2)]) (st := []) (by first | decide | omega) (by first | decide | omega) (by first | decide | omega) rfl rfl (Nat.le_of_ble_eq_true rfl) (c_X12_refuse E S (up (up G 1 (Ad E 1) 1 0) 1 (Ad E 1) 0 0) 2 hS (by first | decide | omega) (by first | decide | omega)) ?_
              rintro _ _ _ ⟨rfl, ⟨G57, rfl⟩, z58, rfl, rfl⟩
              have mi59 : MI E (hv [0] [] (up (up G 1 (Ad E 1) 1 0) 1 (Ad E 1) 0 0) G57) := mi_keep mi rfl rfl rfl rfl rfl rfl (fun _ => rfl) (fun _ => rfl) (fun _ => rfl) (fun _ => rfl) (fun _ => rfl) (fun _ => rfl) (fun _ => rfl) (fun _ => rfl) (fun _ => rfl) (fun _ => rfl) (fun _ => rfl) (fun _ => rfl) (fun _ => rfl)
              exact r_retI hX hP rfl rfl (by first | decide | omega) (by first | decide | omega) ⟨rfl, ⟨_, (hq_call (hq_up (hq_up (hq_refl _ _ _) rfl) rfl) rfl).symm⟩, (-1), rfl, options, options_e, latest, latest_e, (by first | decide | omega), (by first | decide | omega), (by first | decide | omega), mi59⟩
            · skip
              exfalso; omega
      · skip
        refine r_if_eq hX hP rfl (tgt := 61) rfl (by first | decide | omega) (by first | decide | omega) (fun c60 => ?_) (fun c60 => ?_)
        · skip
          refine r_ex hX hP 2 (pc' := 63) (st' := [(0, 2), (2, (Ad E 1))]) (lo' := [(0, (2, (Ad E 1))), (1, (0, p)), (2, (0, d)), (3, (0, s)), (4, (0, n)), (5, (0, k))]) rfl ?_
          refine r_callV gd hX hP rfl cv_12_327 hS (d' := 0) (mc' := 0) (ms' := 0) (as' := [(0, 2)]) (st := []) (by first | decide | omega) (by first | decide | omega) (by first | decide | omega) rfl rfl (Nat.le_of_ble_eq_true rfl) (c_X12_refuse E S (up (up G 1 (Ad E 1) 1 0) 1 (Ad E 1) 0 0) 2 hS (by first | decide | omega) (by first | decide | omega)) ?_
          rintro _ _ _ ⟨rfl, ⟨G61, rfl⟩, z62, rfl, rfl⟩
          have mi63 : MI E (hv [0] [] (up (up G 1 (Ad E 1) 1 0) 1 (Ad E 1) 0 0) G61) := mi_keep mi rfl rfl rfl rfl rfl rfl (fun _ => rfl) (fun _ => rfl) (fun _ => rfl) (fun _ => rfl) (fun _ => rfl) (fun _ => rfl) (fun _ => rfl) (fun _ => rfl) (fun _ => rfl) (fun _ => rfl) (fun _ => rfl) (fun _ => rfl) (fun _ => rfl)
          exact r_retI hX hP rfl rfl (by first | decide | omega) (by first | decide | omega) ⟨rfl, ⟨_, (hq_call (hq_up (hq_up (hq_refl _ _ _) rfl) rfl) rfl).symm⟩, (-1), rfl, options, options_e, latest, latest_e, (by first | decide | omega), (by first | decide | omega), (by first | decide | omega), mi63⟩
        · skip
          exfalso; omega
    · skip
      exfalso; omega
  · skip
    refine r_if_ne hX hP rfl (tgt := 23) rfl (by first | decide | omega) (by first | decide | omega) (fun c64 => ?_) (fun c64 => ?_)
    · skip
      exfalso; omega
    · skip
      refine r_ex hX hP 2 (pc' := 19) (st' := [(0, 1), (2, (Ad E 1))]) (lo' := [(0, (2, (Ad E 1))), (1, (0, p)), (2, (0, d)), (3, (0, s)), (4, (0, n)), (5, (0, k))]) rfl ?_
      refine r_callV gd hX hP rfl cv_12_327 hS (d' := 0) (mc' := 0) (ms' := 0) (as' := [(0, 1)]) (st := []) (by first | decide | omega) (by first | decide | omega) (by first | decide | omega) rfl rfl (Nat.le_of_ble_eq_true rfl) (c_X12_refuse E S (up (up G 1 (Ad E 1) 1 0) 1 (Ad E 1) 0 0) 1 hS (by first | decide | omega) (by first | decide | omega)) ?_
      rintro _ _ _ ⟨rfl, ⟨G65, rfl⟩, z66, rfl, rfl⟩
      have mi67 : MI E (hv [0] [] (up (up G 1 (Ad E 1) 1 0) 1 (Ad E 1) 0 0) G65) := mi_keep mi rfl rfl rfl rfl rfl rfl (fun _ => rfl) (fun _ => rfl) (fun _ => rfl) (fun _ => rfl) (fun _ => rfl) (fun _ => rfl) (fun _ => rfl) (fun _ => rfl) (fun _ => rfl) (fun _ => rfl) (fun _ => rfl) (fun _ => rfl) (fun _ => rfl)
      exact r_retI hX hP rfl rfl (by first | decide | omega) (by first | decide | omega) ⟨rfl, ⟨_, (hq_call (hq_up (hq_up (hq_refl _ _ _) rfl) rfl) rfl).symm⟩, (-1), rfl, options, options_e, latest, latest_e, (by first | decide | omega), (by first | decide | omega), (by first | decide | omega), mi67⟩
set_option maxRecDepth 100000 in
set_option maxHeartbeats 4000000 in
theorem c_X12_nameT (E : En) (S : Sg) (G : Gh) (p n d k : Int) (hS : S (Ad E 1) = 1) (names : Int) (names_e : names = G 1 (Ad E 1) 12) (latest : Int) (latest_e : latest = G 1 (Ad E 1) 3) (p_a : (-2147483648) ≤ p) (p_b : p ≤ 2147483647) (n_a : (-2147483648) ≤ n) (n_b : n ≤ 2147483647) (d_a : (-2147483648) ≤ d) (d_b : d ≤ 2147483647) (k_a : (-2147483648) ≤ k) (k_b : k ≤ 2147483647) : Calls E mX12_name [(2, (Ad E 1)), (0, p), (0, n), (0, d), (0, k)] S G 2 0 0 (fun r S' G' => S = S' ∧ (∃ G1, hv [0, 1, 3, 12] [50, 51, 52, 53] G G1 = G') ∧ ∃ z : Int, r = some (0, z) ∧ ∃ c2 : Int, c2 = G' 1 (Ad E 1) 12 ∧ ∃ l2 : Int, l2 = G' 1 (Ad E 1) 3 ∧ 0 ≤ z ∧ z ≤ 1 ∧ ((0 ≤ p ∧ p ≤ 19 ∧ 0 ≤ n ∧ n ≤ 9999 ∧ 0 ≤ d ∧ d ≤ 40000 ∧ 0 ≤ k ∧ k ≤ 40000 ∧ names < 60 ∧ latest ≤ k ∧ z = 1 ∧ c2 = names + 1 ∧ l2 = k) ∨ (z = 0 ∧ c2 = names ∧ l2 = latest ∧ ¬ (0 ≤ p ∧ p ≤ 19 ∧ 0 ≤ n ∧ n ≤ 9999 ∧ 0 ≤ d ∧ d ≤ 40000 ∧ 0 ≤ k ∧ k ≤ 40000 ∧ names < 60 ∧ latest ≤ k))) ∧ (∀ i : Int, i ≠ names → G' 50 (Ad E 50) i = G 50 (Ad E 50) i ∧ G' 52 (Ad E 52) i = G 52 (Ad E 52) i ∧ G' 51 (Ad E 51) i = G 51 (Ad E 51) i ∧ G' 53 (Ad E 53) i = G 53 (Ad E 53) i) ∧ (z = 0 ∨ (G' 50 (Ad E 50) names = p ∧ G' 52 (Ad E 52) names = d ∧ G' 51 (Ad E 51) names = n ∧ G' 53 (Ad E 53) names = k))) := by
  refine calls_by [(0, (2, (Ad E 1))), (1, (0, p)), (2, (0, n)), (3, (0, d)), (4, (0, k))] rfl rfl (Nat.le_of_ble_eq_true rfl) (fun X hX => ?_)
  have hP := hPX12_name
  refine r_peekI hX (tl1 12 rfl (by decide)) hS (fun names_o names_oe names_oa names_ob => ?_)
  obtain rfl : names = names_o := names_e.trans names_oe.symm
  refine r_peekI hX (tl1 3 rfl (by decide)) hS (fun latest_o latest_oe latest_oa latest_ob => ?_)
  obtain rfl : latest = latest_o := latest_e.trans latest_oe.symm
  refine r_ex hX hP 2 (pc' := 2) (st' := [(0, 0), (2, (Ad E 1))]) (lo' := [(0, (2, (Ad E 1))), (1, (0, p)), (2, (0, n)), (3, (0, d)), (4, (0, k))]) rfl ?_
  refine r_putIK hX hP rfl fp_12_304 hS (by first | decide | omega) (by first | decide | omega) (fun h1 => ?_)
  refine r_ex hX hP 2 (pc' := 7) (st' := [(0, 0), (2, (Ad E 1))]) (lo' := [(0, (2, (Ad E 1))), (1, (0, p)), (2, (0, n)), (3, (0, d)), (4, (0, k))]) rfl ?_
  refine r_putIK hX hP rfl fp_12_307 hS (by first | decide | omega) (by first | decide | omega) (fun h2 => ?_)
  refine r_ex hX hP 1 (pc' := 11) (st' := [(0, p)]) (lo' := [(0, (2, (Ad E 1))), (1, (0, p)), (2, (0, n)), (3, (0, d)), (4, (0, k))]) rfl ?_
  refine r_callS gd hX hP rfl cs_12_331 (d' := 1) (mc' := 0) (ms' := 0) (as' := [(0, p)]) (st := []) (by first | decide | omega) (by first | decide | omega) (by first | decide | omega) rfl rfl (Nat.le_of_ble_eq_true rfl) (c_X12_isPaper E S (up (up G 1 (Ad E 1) 1 0) 1 (Ad E 1) 0 0) p (by first | decide | omega) (by first | decide | omega)) ?_
  rintro _ _ _ ⟨rfl, rfl, z3, rfl, (⟨rfl, f4, f5⟩ | ⟨rfl, f6⟩)⟩
  · skip
    refine r_if_ne hX hP rfl (tgt := 23) rfl (by first | decide | omega) (by first | decide | omega) (fun c7 => ?_) (fun c7 => ?_)
    · skip
      refine r_ex hX hP 3 (pc' := 28) (st' := [(0, 9999), (0, 0), (0, n)]) (lo' := [(0, (2, (Ad E 1))), (1, (0, p)), (2, (0, n)), (3, (0, d)), (4, (0, k))]) rfl ?_
      refine r_callS gd hX hP rfl cs_12_310 (d' := 0) (mc' := 0) (ms' := 0) (as' := [(0, n), (0, 0), (0, 9999)]) (st := []) (by first | decide | omega) (by first | decide | omega) (by first | decide | omega) rfl rfl (Nat.le_of_ble_eq_true rfl) (c_X12_isIn E S (up (up G 1 (Ad E 1) 1 0) 1 (Ad E 1) 0 0) n 0 9999 (by first | decide | omega) (by first | decide | omega) (by first | decide | omega) (by first | decide | omega) (by first | decide | omega) (by first | decide | omega)) ?_
      rintro _ _ _ ⟨rfl, rfl, z8, rfl, (⟨rfl, f9, f10⟩ | ⟨rfl, f11⟩)⟩
      · skip
        refine r_if_eq hX hP rfl (tgt := 49) rfl (by first | decide | omega) (by first | decide | omega) (fun c12 => ?_) (fun c12 => ?_)
        · skip
          exfalso; omega
        · skip
          refine r_ex hX hP 1 (pc' := 35) (st' := [(0, d)]) (lo' := [(0, (2, (Ad E 1))), (1, (0, p)), (2, (0, n)), (3, (0, d)), (4, (0, k))]) rfl ?_
          refine r_callS gd hX hP rfl cs_12_317 (d' := 1) (mc' := 0) (ms' := 0) (as' := [(0, d)]) (st := []) (by first | decide | omega) (by first | decide | omega) (by first | decide | omega) rfl rfl (Nat.le_of_ble_eq_true rfl) (c_X12_isDay E S (up (up G 1 (Ad E 1) 1 0) 1 (Ad E 1) 0 0) d (by first | decide | omega) (by first | decide | omega)) ?_
          rintro _ _ _ ⟨rfl, rfl, z13, rfl, (⟨rfl, f14, f15⟩ | ⟨rfl, f16⟩)⟩
          · skip
            refine r_if_eq hX hP rfl (tgt := 49) rfl (by first | decide | omega) (by first | decide | omega) (fun c17 => ?_) (fun c17 => ?_)
            · skip
              exfalso; omega
            · skip
              refine r_ex hX hP 1 (pc' := 43) (st' := [(0, k)]) (lo' := [(0, (2, (Ad E 1))), (1, (0, p)), (2, (0, n)), (3, (0, d)), (4, (0, k))]) rfl ?_
              refine r_callS gd hX hP rfl cs_12_317 (d' := 1) (mc' := 0) (ms' := 0) (as' := [(0, k)]) (st := []) (by first | decide | omega) (by first | decide | omega) (by first | decide | omega) rfl rfl (Nat.le_of_ble_eq_true rfl) (c_X12_isDay E S (up (up G 1 (Ad E 1) 1 0) 1 (Ad E 1) 0 0) k (by first | decide | omega) (by first | decide | omega)) ?_
              rintro _ _ _ ⟨rfl, rfl, z18, rfl, (⟨rfl, f19, f20⟩ | ⟨rfl, f21⟩)⟩
              · skip
                refine r_if_ne hX hP rfl (tgt := 55) rfl (by first | decide | omega) (by first | decide | omega) (fun c22 => ?_) (fun c22 => ?_)
                · skip
                  refine r_ex hX hP 1 (pc' := 56) (st' := [(2, (Ad E 1))]) (lo' := [(0, (2, (Ad E 1))), (1, (0, p)), (2, (0, n)), (3, (0, d)), (4, (0, k))]) rfl ?_
                  refine r_getKI hX hP rfl fl_12_698 hS (x := names) names_e ?_
                  refine r_ex hX hP 1 (pc' := 61) (st' := [(0, 60), (0, names)]) (lo' := [(0, (2, (Ad E 1))), (1, (0, p)), (2, (0, n)), (3, (0, d)), (4, (0, k))]) rfl ?_
                  refine r_ic_ne hX hP rfl (tgt := 70) rfl (by first | decide | omega) (by first | decide | omega) (by first | decide | omega) (by first | decide | omega) (fun c23 => ?_) (fun c23 => ?_)
                  · skip
                    refine r_ex hX hP 2 (pc' := 73) (st' := [(2, (Ad E 1)), (0, k)]) (lo' := [(0, (2, (Ad E 1))), (1, (0, p)), (2, (0, n)), (3, (0, d)), (4, (0, k))]) rfl ?_
                    refine r_getKI hX hP rfl fl_12_339 hS (x := latest) latest_e ?_
                    refine r_ic_ge hX hP rfl (tgt := 85) rfl (by first | decide | omega) (by first | decide | omega) (by first | decide | omega) (by first | decide | omega) (fun c24 => ?_) (fun c24 => ?_)
                    · skip
                      refine r_ex hX hP 1 (pc' := 86) (st' := [(2, (Ad E 1))]) (lo' := [(0, (2, (Ad E 1))), (1, (0, p)), (2, (0, n)), (3, (0, d)), (4, (0, k))]) rfl ?_
                      refine r_getC hX hP rfl fl_12_164 hS (fun s25 => ?_)
                      refine r_ex hX hP 1 (pc' := 90) (st' := [(2, (Ad E 1)), (2, (Ad E 50))]) (lo' := [(0, (2, (Ad E 1))), (1, (0, p)), (2, (0, n)), (3, (0, d)), (4, (0, k))]) rfl ?_
                      refine r_getKI hX hP rfl fl_12_698 hS (x := names) names_e ?_
                      refine r_ex hX hP 1 (pc' := 94) (st' := [(0, p), (0, names), (2, (Ad E 50))]) (lo' := [(0, (2, (Ad E 1))), (1, (0, p)), (2, (0, n)), (3, (0, d)), (4, (0, k))]) rfl ?_
                      refine r_iastK hX hP rfl al_50 s25 (by first | decide | omega) (by first | decide | omega) (by first | decide | omega) (by first | decide | omega) (fun h26 => ?_)
                      refine r_ex hX hP 1 (pc' := 96) (st' := [(2, (Ad E 1))]) (lo' := [(0, (2, (Ad E 1))), (1, (0, p)), (2, (0, n)), (3, (0, d)), (4, (0, k))]) rfl ?_
                      refine r_getC hX hP rfl fl_12_167 hS (fun s27 => ?_)
                      refine r_ex hX hP 1 (pc' := 100) (st' := [(2, (Ad E 1)), (2, (Ad E 51))]) (lo' := [(0, (2, (Ad E 1))), (1, (0, p)), (2, (0, n)), (3, (0, d)), (4, (0, k))]) rfl ?_
                      refine r_getKI hX hP rfl fl_12_698 hS (x := names) names_e ?_
                      refine r_ex hX hP 1 (pc' := 104) (st' := [(0, n), (0, names), (2, (Ad E 51))]) (lo' := [(0, (2, (Ad E 1))), (1, (0, p)), (2, (0, n)), (3, (0, d)), (4, (0, k))]) rfl ?_
                      refine r_iastK hX hP rfl al_51 s27 (by first | decide | omega) (by first | decide | omega) (by first | decide | omega) (by first | decide | omega) (fun h28 => ?_)
                      refine r_ex hX hP 1 (pc' := 106) (st' := [(2, (Ad E 1))]) (lo' := [(0, (2, (Ad E 1))), (1, (0, p)), (2, (0, n)), (3, (0, d)), (4, (0, k))]) rfl ?_
                      refine r_getC hX hP rfl fl_12_170 hS (fun s29 => ?_)
                      refine r_ex hX hP 1 (pc' := 110) (st' := [(2, (Ad E 1)), (2, (Ad E 52))]) (lo' := [(0, (2, (Ad E 1))), (1, (0, p)), (2, (0, n)), (3, (0, d)), (4, (0, k))]) rfl ?_
                      refine r_getKI hX hP rfl fl_12_698 hS (x := names) names_e ?_
                      refine r_ex hX hP 1 (pc' := 114) (st' := [(0, d), (0, names), (2, (Ad E 52))]) (lo' := [(0, (2, (Ad E 1))), (1, (0, p)), (2, (0, n)), (3, (0, d)), (4, (0, k))]) rfl ?_
                      refine r_iastK hX hP rfl al_52 s29 (by first | decide | omega) (by first | decide | omega) (by first | decide | omega) (by first | decide | omega) (fun h30 => ?_)
                      refine r_ex hX hP 1 (pc' := 116) (st' := [(2, (Ad E 1))]) (lo' := [(0, (2, (Ad E 1))), (1, (0, p)), (2, (0, n)), (3, (0, d)), (4, (0, k))]) rfl ?_
                      refine r_getC hX hP rfl fl_12_173 hS (fun s31 => ?_)
                      refine r_ex hX hP 1 (pc' := 120) (st' := [(2, (Ad E 1)), (2, (Ad E 53))]) (lo' := [(0, (2, (Ad E 1))), (1, (0, p)), (2, (0, n)), (3, (0, d)), (4, (0, k))]) rfl ?_
                      refine r_getKI hX hP rfl fl_12_698 hS (x := names) names_e ?_
                      refine r_ex hX hP 1 (pc' := 125) (st' := [(0, k), (0, names), (2, (Ad E 53))]) (lo' := [(0, (2, (Ad E 1))), (1, (0, p)), (2, (0, n)), (3, (0, d)), (4, (0, k))]) rfl ?_
                      refine r_iastK hX hP rfl al_53 s31 (by first | decide | omega) (by first | decide | omega) (by first | decide | omega) (by first | decide | omega) (fun h32 => ?_)
                      refine r_ex hX hP 2 (pc' := 128) (st' := [(2, (Ad E 1)), (2, (Ad E 1))]) (lo' := [(0, (2, (Ad E 1))), (1, (0, p)), (2, (0, n)), (3, (0, d)), (4, (0, k))]) rfl ?_
                      refine r_getKI hX hP rfl fl_12_698 hS (x := names) names_e ?_
                      refine r_ex hX hP 2 (pc' := 133) (st' := [(0, (names + 1)), (2, (Ad E 1))]) (lo' := [(0, (2, (Ad E 1))), (1, (0, p)), (2, (0, n)), (3, (0, d)), (4, (0, k))]) rfl ?_
                      refine r_putIK hX hP rfl fp_12_698 hS (by first | decide | omega) (by first | decide | omega) (fun h33 => ?_)
                      refine r_ex hX hP 2 (pc' := 139) (st' := [(0, k), (2, (Ad E 1))]) (lo' := [(0, (2, (Ad E 1))), (1, (0, p)), (2, (0, n)), (3, (0, d)), (4, (0, k))]) rfl ?_
                      refine r_putIK hX hP rfl fp_12_339 hS (by first | decide | omega) (by first | decide | omega) (fun h34 => ?_)
                      refine r_ex hX hP 1 (pc' := 143) (st' := [(0, 1)]) (lo' := [(0, (2, (Ad E 1))), (1, (0, p)), (2, (0, n)), (3, (0, d)), (4, (0, k))]) rfl ?_
                      exact r_retZ hX hP rfl rfl (by first | decide | omega) (by first | decide | omega) (by first | decide | omega) (by first | decide | omega) ⟨rfl, ⟨_, (hq_up (hq_up (hq_up (hq_up (hq_up (hq_up (hq_up (hq_up (hq_refl _ _ _) rfl) rfl) rfl) rfl) rfl) rfl) rfl) rfl).symm⟩, 1, rfl, (names + 1), h33, k, h34, (by first | decide | omega), (by first | decide | omega), (by first | decide | omega), (fun i hi => ⟨((show (up (up (up G 1 (Ad E 1) 1 0) 1 (Ad E 1) 0 0) 50 (Ad E 50) names p) 50 (Ad E 50) i = _ from up_ne (fun q => absurd q.2.2 (by first | decide | omega))).trans rfl), ((show (up (up (up (up (up G 1 (Ad E 1) 1 0) 1 (Ad E 1) 0 0) 50 (Ad E 50) names p) 51 (Ad E 51) names n) 52 (Ad E 52) names d) 52 (Ad E 52) i = _ from up_ne (fun q => absurd q.2.2 (by first | decide | omega))).trans rfl), ((show (up (up (up (up G 1 (Ad E 1) 1 0) 1 (Ad E 1) 0 0) 50 (Ad E 50) names p) 51 (Ad E 51) names n) 51 (Ad E 51) i = _ from up_ne (fun q => absurd q.2.2 (by first | decide | omega))).trans rfl), ((show (up (up (up (up (up (up G 1 (Ad E 1) 1 0) 1 (Ad E 1) 0 0) 50 (Ad E 50) names p) 51 (Ad E 51) names n) 52 (Ad E 52) names d) 53 (Ad E 53) names k) 53 (Ad E 53) i = _ from up_ne (fun q => absurd q.2.2 (by first | decide | omega))).trans rfl)⟩), (Or.inr ⟨(show (up (up (up G 1 (Ad E 1) 1 0) 1 (Ad E 1) 0 0) 50 (Ad E 50) names p) 50 (Ad E 50) names = p from up_self _ _ _ _ _), (show (up (up (up (up (up G 1 (Ad E 1) 1 0) 1 (Ad E 1) 0 0) 50 (Ad E 50) names p) 51 (Ad E 51) names n) 52 (Ad E 52) names d) 52 (Ad E 52) names = d from up_self _ _ _ _ _), (show (up (up (up (up G 1 (Ad E 1) 1 0) 1 (Ad E 1) 0 0) 50 (Ad E 50) names p) 51 (Ad E 51) names n) 51 (Ad E 51) names = n from up_self _ _ _ _ _), (show (up (up (up (up (up (up G 1 (Ad E 1) 1 0) 1 (Ad E 1) 0 0) 50 (Ad E 50) names p) 51 (Ad E 51) names n) 52 (Ad E 52) names d) 53 (Ad E 53) names k) 53 (Ad E 53) names = k from up_self _ _ _ _ _)⟩)⟩
                    · skip
                      refine r_ex hX hP 2 (pc' := 81) (st' := [(0, 4), (2, (Ad E 1))]) (lo' := [(0, (2, (Ad E 1))), (1, (0, p)), (2, (0, n)), (3, (0, d)), (4, (0, k))]) rfl ?_
                      refine r_callV gd hX hP rfl cv_12_321 hS (d' := 0) (mc' := 0) (ms' := 0) (as' := [(0, 4)]) (st := []) (by first | decide | omega) (by first | decide | omega) (by first | decide | omega) rfl rfl (Nat.le_of_ble_eq_true rfl) (c_X12_no E S (up (up G 1 (Ad E 1) 1 0) 1 (Ad E 1) 0 0) 4 hS (by first | decide | omega) (by first | decide | omega)) ?_
                      rintro _ _ _ ⟨rfl, ⟨G35, rfl⟩, z36, rfl, rfl⟩
                      exact r_retZ hX hP rfl rfl (by first | decide | omega) (by first | decide | omega) (by first | decide | omega) (by first | decide | omega) ⟨rfl, ⟨_, (hq_call (hq_up (hq_up (hq_refl _ _ _) rfl) rfl) rfl).symm⟩, 0, rfl, names, names_e, latest, latest_e, (by first | decide | omega), (by first | decide | omega), (by first | decide | omega), (fun i hi => ⟨rfl, rfl, rfl, rfl⟩), (Or.inl rfl)⟩
                  · skip
                    refine r_ex hX hP 2 (pc' := 66) (st' := [(0, 3), (2, (Ad E 1))]) (lo' := [(0, (2, (Ad E 1))), (1, (0, p)), (2, (0, n)), (3, (0, d)), (4, (0, k))]) rfl ?_
                    refine r_callV gd hX hP rfl cv_12_321 hS (d' := 0) (mc' := 0) (ms' := 0) (as' := [(0, 3)]) (st := []) (by first | decide | omega) (by first | decide | omega) (by first | decide | omega) rfl rfl (Nat.le_of_ble_eq_true rfl) (c_X12_no E S (up (up G 1 (Ad E 1) 1 0) 1 (Ad E 1) 0 0) 3 hS (by first | decide | omega) (by first | decide | omega)) ?_
                    rintro _ _ _ ⟨rfl, ⟨G37, rfl⟩, z38, rfl, rfl⟩
                    exact r_retZ hX hP rfl rfl (by first | decide | omega) (by first | decide | omega) (by first | decide | omega) (by first | decide | omega) ⟨rfl, ⟨_, (hq_call (hq_up (hq_up (hq_refl _ _ _) rfl) rfl) rfl).symm⟩, 0, rfl, names, names_e, latest, latest_e, (by first | decide | omega), (by first | decide | omega), (by first | decide | omega), (fun i hi => ⟨rfl, rfl, rfl, rfl⟩), (Or.inl rfl)⟩
                · skip
                  exfalso; omega
              · skip
                refine r_if_ne hX hP rfl (tgt := 55) rfl (by first | decide | omega) (by first | decide | omega) (fun c39 => ?_) (fun c39 => ?_)
                · skip
                  exfalso; omega
                · skip
                  refine r_ex hX hP 2 (pc' := 51) (st' := [(0, 2), (2, (Ad E 1))]) (lo' := [(0, (2, (Ad E 1))), (1, (0, p)), (2, (0, n)), (3, (0, d)), (4, (0, k))]) rfl ?_
                  refine r_callV gd hX hP rfl cv_12_321 hS (d' := 0) (mc' := 0) (ms' := 0) (as' := [(0, 2)]) (st := []) (by first | decide | omega) (by first | decide | omega) (by first | decide | omega) rfl rfl (Nat.le_of_ble_eq_true rfl) (c_X12_no E S (up (up G 1 (Ad E 1) 1 0) 1 (Ad E 1) 0 0) 2 hS (by first | decide | omega) (by first | decide | omega)) ?_
                  rintro _ _ _ ⟨rfl, ⟨G40, rfl⟩, z41, rfl, rfl⟩
                  exact r_retZ hX hP rfl rfl (by first | decide | omega) (by first | decide | omega) (by first | decide | omega) (by first | decide | omega) ⟨rfl, ⟨_, (hq_call (hq_up (hq_up (hq_refl _ _ _) rfl) rfl) rfl).symm⟩, 0, rfl, names, names_e, latest, latest_e, (by first | decide | omega), (by first | decide | omega), (by first | decide | omega), (fun i hi => ⟨rfl, rfl, rfl, rfl⟩), (Or.inl rfl)⟩
          · skip
            refine r_if_eq hX hP rfl (tgt := 49) rfl (by first | decide | omega) (by first | decide | omega) (fun c42 => ?_) (fun c42 => ?_)
            · skip
              refine r_ex hX hP 2 (pc' := 51) (st' := [(0, 2), (2, (Ad E 1))]) (lo' := [(0, (2, (Ad E 1))), (1, (0, p)), (2, (0, n)), (3, (0, d)), (4, (0, k))]) rfl ?_
              refine r_callV gd hX hP rfl cv_12_321 hS (d' := 0) (mc' := 0) (ms' := 0) (as' := [(0, 2)]) (st := []) (by first | decide | omega) (by first | decide | omega) (by first | decide | omega) rfl rfl (Nat.le_of_ble_eq_true rfl) (c_X12_no E S (up (up G 1 (Ad E 1) 1 0) 1 (Ad E 1) 0 0) 2 hS (by first | decide | omega) (by first | decide | omega)) ?_
              rintro _ _ _ ⟨rfl, ⟨G43, rfl⟩, z44, rfl, rfl⟩
              exact r_retZ hX hP rfl rfl (by first | decide | omega) (by first | decide | omega) (by first | decide | omega) (by first | decide | omega) ⟨rfl, ⟨_, (hq_call (hq_up (hq_up (hq_refl _ _ _) rfl) rfl) rfl).symm⟩, 0, rfl, names, names_e, latest, latest_e, (by first | decide | omega), (by first | decide | omega), (by first | decide | omega), (fun i hi => ⟨rfl, rfl, rfl, rfl⟩), (Or.inl rfl)⟩
            · skip
              exfalso; omega
      · skip
        refine r_if_eq hX hP rfl (tgt := 49) rfl (by first | decide | omega) (by first | decide | omega) (fun c45 => ?_) (fun c45 => ?_)
        · skip
          refine r_ex hX hP 2 (pc' := 51) (st' := [(0, 2), (2, (Ad E 1))]) (lo' := [(0, (2, (Ad E 1))), (1, (0, p)), (2, (0, n)), (3, (0, d)), (4, (0, k))]) rfl ?_
          refine r_callV gd hX hP rfl cv_12_321 hS (d' := 0) (mc' := 0) (ms' := 0) (as' := [(0, 2)]) (st := []) (by first | decide | omega) (by first | decide | omega) (by first | decide | omega) rfl rfl (Nat.le_of_ble_eq_true rfl) (c_X12_no E S (up (up G 1 (Ad E 1) 1 0) 1 (Ad E 1) 0 0) 2 hS (by first | decide | omega) (by first | decide | omega)) ?_
          rintro _ _ _ ⟨rfl, ⟨G46, rfl⟩, z47, rfl, rfl⟩
          exact r_retZ hX hP rfl rfl (by first | decide | omega) (by first | decide | omega) (by first | decide | omega) (by first | decide | omega) ⟨rfl, ⟨_, (hq_call (hq_up (hq_up (hq_refl _ _ _) rfl) rfl) rfl).symm⟩, 0, rfl, names, names_e, latest, latest_e, (by first | decide | omega), (by first | decide | omega), (by first | decide | omega), (fun i hi => ⟨rfl, rfl, rfl, rfl⟩), (Or.inl rfl)⟩
        · skip
          exfalso; omega
    · skip
      exfalso; omega
  · skip
    refine r_if_ne hX hP rfl (tgt := 23) rfl (by first | decide | omega) (by first | decide | omega) (fun c48 => ?_) (fun c48 => ?_)
    · skip
      exfalso; omega
    · skip
      refine r_ex hX hP 2 (pc' := 19) (st' := [(0, 1), (2, (Ad E 1))]) (lo' := [(0, (2, (Ad E 1))), (1, (0, p)), (2, (0, n)), (3, (0, d)), (4, (0, k))]) rfl ?_
      refine r_callV gd hX hP rfl cv_12_321 hS (d' := 0) (mc' := 0) (ms' := 0) (as' := [(0, 1)]) (st := []) (by first | decide | omega) (by first | decide | omega) (by first | decide | omega) rfl rfl (Nat.le_of_ble_eq_true rfl) (c_X12_no E S (up (up G 1 (Ad E 1) 1 0) 1 (Ad E 1) 0 0) 1 hS (by first | decide | omega) (by first | decide | omega)) ?_
      rintro _ _ _ ⟨rfl, ⟨G49, rfl⟩, z50, rfl, rfl⟩
      exact r_retZ hX hP rfl rfl (by first | decide | omega) (by first | decide | omega) (by first | decide | omega) (by first | decide | omega) ⟨rfl, ⟨_, (hq_call (hq_up (hq_up (hq_refl _ _ _) rfl) rfl) rfl).symm⟩, 0, rfl, names, names_e, latest, latest_e, (by first | decide | omega), (by first | decide | omega), (by first | decide | omega), (fun i hi => ⟨rfl, rfl, rfl, rfl⟩), (Or.inl rfl)⟩
set_option maxRecDepth 100000 in
set_option maxHeartbeats 4000000 in
theorem c_X12_choicesT (E : En) (S : Sg) (G : Gh) (e : Int) (hS : S (Ad E 1) = 1) (events : Int) (events_e : events = G 1 (Ad E 1) 9) (e_a : (-2147483648) ≤ e) (e_b : e ≤ 2147483647) : Calls E mX12_choices [(2, (Ad E 1)), (0, e)] S G 2 0 0 (fun r S' G' => S = S' ∧ (∃ G1, hv [0, 1] [] G G1 = G') ∧ ∃ z : Int, r = some (0, z) ∧ (-2147483648) ≤ z ∧ z ≤ 2147483647 ∧ ((0 ≤ e ∧ e < events ∧ z = G 27 (Ad E 27) e) ∨ (z = -1 ∧ ¬ (0 ≤ e ∧ e < events)))) := by
  refine calls_by [(0, (2, (Ad E 1))), (1, (0, e))] rfl rfl (Nat.le_of_ble_eq_true rfl) (fun X hX => ?_)
  have hP := hPX12_choices
  refine r_peekI hX (tl1 9 rfl (by decide)) hS (fun events_o events_oe events_oa events_ob => ?_)
  obtain rfl : events = events_o := events_e.trans events_oe.symm
  refine r_ex hX hP 2 (pc' := 2) (st' := [(0, 0), (2, (Ad E 1))]) (lo' := [(0, (2, (Ad E 1))), (1, (0, e))]) rfl ?_
  refine r_putIK hX hP rfl fp_12_304 hS (by first | decide | omega) (by first | decide | omega) (fun h1 => ?_)
  refine r_ex hX hP 2 (pc' := 7) (st' := [(0, 0), (2, (Ad E 1))]) (lo' := [(0, (2, (Ad E 1))), (1, (0, e))]) rfl ?_
  refine r_putIK hX hP rfl fp_12_307 hS (by first | decide | omega) (by first | decide | omega) (fun h2 => ?_)
  refine r_ex hX hP 2 (pc' := 12) (st' := [(0, e), (2, (Ad E 1))]) (lo' := [(0, (2, (Ad E 1))), (1, (0, e))]) rfl ?_
  refine r_callV gd hX hP rfl cv_12_493 hS (d' := 1) (mc' := 0) (ms' := 0) (as' := [(0, e)]) (st := []) (by first | decide | omega) (by first | decide | omega) (by first | decide | omega) rfl rfl (Nat.le_of_ble_eq_true rfl) (c_X12_isEvent E S (up (up G 1 (Ad E 1) 1 0) 1 (Ad E 1) 0 0) e hS events events_e (by first | decide | omega) (by first | decide | omega)) ?_
  rintro _ _ _ ⟨rfl, rfl, z3, rfl, (⟨rfl, f4, f5⟩ | ⟨rfl, f6⟩)⟩
  · skip
    refine r_if_eq hX hP rfl (tgt := 27) rfl (by first | decide | omega) (by first | decide | omega) (fun c7 => ?_) (fun c7 => ?_)
    · skip
      exfalso; omega
    · skip
      refine r_ex hX hP 1 (pc' := 19) (st' := [(2, (Ad E 1))]) (lo' := [(0, (2, (Ad E 1))), (1, (0, e))]) rfl ?_
      refine r_getC hX hP rfl fl_12_95 hS (fun s8 => ?_)
      refine r_ex hX hP 1 (pc' := 23) (st' := [(0, e), (2, (Ad E 27))]) (lo' := [(0, (2, (Ad E 1))), (1, (0, e))]) rfl ?_
      refine r_iald hX hP rfl al_27 s8 (by first | decide | omega) (by first | decide | omega) (fun x9 x9e x9a x9b => ?_)
      have k10 : x9 = G 27 (Ad E 27) e := x9e
      refine r_ex hX hP 1 (pc' := 32) (st' := [(0, x9)]) (lo' := [(0, (2, (Ad E 1))), (1, (0, e))]) rfl ?_
      exact r_retI hX hP rfl rfl (by first | decide | omega) (by first | decide | omega) ⟨rfl, ⟨_, (hq_up (hq_up (hq_refl _ _ _) rfl) rfl).symm⟩, x9, rfl, (by first | decide | omega), (by first | decide | omega), (by first | decide | omega)⟩
  · skip
    refine r_if_eq hX hP rfl (tgt := 27) rfl (by first | decide | omega) (by first | decide | omega) (fun c11 => ?_) (fun c11 => ?_)
    · skip
      refine r_ex hX hP 2 (pc' := 29) (st' := [(0, 1), (2, (Ad E 1))]) (lo' := [(0, (2, (Ad E 1))), (1, (0, e))]) rfl ?_
      refine r_callV gd hX hP rfl cv_12_327 hS (d' := 0) (mc' := 0) (ms' := 0) (as' := [(0, 1)]) (st := []) (by first | decide | omega) (by first | decide | omega) (by first | decide | omega) rfl rfl (Nat.le_of_ble_eq_true rfl) (c_X12_refuse E S (up (up G 1 (Ad E 1) 1 0) 1 (Ad E 1) 0 0) 1 hS (by first | decide | omega) (by first | decide | omega)) ?_
      rintro _ _ _ ⟨rfl, ⟨G12, rfl⟩, z13, rfl, rfl⟩
      exact r_retI hX hP rfl rfl (by first | decide | omega) (by first | decide | omega) ⟨rfl, ⟨_, (hq_call (hq_up (hq_up (hq_refl _ _ _) rfl) rfl) rfl).symm⟩, (-1), rfl, (by first | decide | omega), (by first | decide | omega), (by first | decide | omega)⟩
    · skip
      exfalso; omega
set_option maxRecDepth 100000 in
set_option maxHeartbeats 4000000 in
theorem c_X12_faultT (E : En) (S : Sg) (G : Gh) (w : Int) (hS : S (Ad E 1) = 1) (faultKind : Int) (faultKind_e : faultKind = G 1 (Ad E 1) 78) (faultAt : Int) (faultAt_e : faultAt = G 1 (Ad E 1) 79) (w_a : (-2147483648) ≤ w) (w_b : w ≤ 2147483647) : Calls E mX12_fault [(2, (Ad E 1)), (0, w)] S G 0 0 0 (fun r S' G' => S = S' ∧ (∃ G1, hv [1] [] G G1 = G') ∧ ∃ z : Int, r = some (0, z) ∧ (-2147483648) ≤ z ∧ z ≤ 2147483647 ∧ ((w = 0 ∧ z = faultKind) ∨ (w = 1 ∧ z = faultAt) ∨ (w ≠ 0 ∧ w ≠ 1 ∧ z = -1))) := by
  refine calls_by [(0, (2, (Ad E 1))), (1, (0, w))] rfl rfl (Nat.le_of_ble_eq_true rfl) (fun X hX => ?_)
  have hP := hPX12_fault
  refine r_peekI hX (tl1 78 rfl (by decide)) hS (fun faultKind_o faultKind_oe faultKind_oa faultKind_ob => ?_)
  obtain rfl : faultKind = faultKind_o := faultKind_e.trans faultKind_oe.symm
  refine r_peekI hX (tl1 79 rfl (by decide)) hS (fun faultAt_o faultAt_oe faultAt_oa faultAt_ob => ?_)
  obtain rfl : faultAt = faultAt_o := faultAt_e.trans faultAt_oe.symm
  refine r_ex hX hP 2 (pc' := 2) (st' := [(0, 0), (2, (Ad E 1))]) (lo' := [(0, (2, (Ad E 1))), (1, (0, w))]) rfl ?_
  refine r_putIK hX hP rfl fp_12_304 hS (by first | decide | omega) (by first | decide | omega) (fun h1 => ?_)
  refine r_ex hX hP 1 (pc' := 6) (st' := [(0, w)]) (lo' := [(0, (2, (Ad E 1))), (1, (0, w))]) rfl ?_
  refine r_if_ne hX hP rfl (tgt := 16) rfl (by first | decide | omega) (by first | decide | omega) (fun c2 => ?_) (fun c2 => ?_)
  · skip
    refine r_ex hX hP 2 (pc' := 18) (st' := [(0, 1), (0, w)]) (lo' := [(0, (2, (Ad E 1))), (1, (0, w))]) rfl ?_
    refine r_ic_ne hX hP rfl (tgt := 28) rfl (by first | decide | omega) (by first | decide | omega) (by first | decide | omega) (by first | decide | omega) (fun c3 => ?_) (fun c3 => ?_)
    · skip
      refine r_ex hX hP 1 (pc' := 29) (st' := [(0, (-1))]) (lo' := [(0, (2, (Ad E 1))), (1, (0, w))]) rfl ?_
      exact r_retI hX hP rfl rfl (by first | decide | omega) (by first | decide | omega) ⟨rfl, ⟨_, (hq_up (hq_refl _ _ _) rfl).symm⟩, (-1), rfl, (by first | decide | omega), (by first | decide | omega), (by first | decide | omega)⟩
    · skip
      refine r_ex hX hP 1 (pc' := 22) (st' := [(2, (Ad E 1))]) (lo' := [(0, (2, (Ad E 1))), (1, (0, w))]) rfl ?_
      refine r_getKI hX hP rfl fl_12_207 hS (x := faultAt) faultAt_e ?_
      refine r_ex hX hP 1 (pc' := 29) (st' := [(0, faultAt)]) (lo' := [(0, (2, (Ad E 1))), (1, (0, w))]) rfl ?_
      exact r_retI hX hP rfl rfl (by first | decide | omega) (by first | decide | omega) ⟨rfl, ⟨_, (hq_up (hq_refl _ _ _) rfl).symm⟩, faultAt, rfl, (by first | decide | omega), (by first | decide | omega), (by first | decide | omega)⟩
  · skip
    refine r_ex hX hP 1 (pc' := 10) (st' := [(2, (Ad E 1))]) (lo' := [(0, (2, (Ad E 1))), (1, (0, w))]) rfl ?_
    refine r_getKI hX hP rfl fl_12_204 hS (x := faultKind) faultKind_e ?_
    refine r_ex hX hP 1 (pc' := 29) (st' := [(0, faultKind)]) (lo' := [(0, (2, (Ad E 1))), (1, (0, w))]) rfl ?_
    exact r_retI hX hP rfl rfl (by first | decide | omega) (by first | decide | omega) ⟨rfl, ⟨_, (hq_up (hq_refl _ _ _) rfl).symm⟩, faultKind, rfl, (by first | decide | omega), (by first | decide | omega), (by first | decide | omega)⟩
set_option maxRecDepth 100000 in
set_option maxHeartbeats 4000000 in
theorem c_X12_chooseT (E : En) (S : Sg) (G : Gh) (e a ch d k : Int) (hS : S (Ad E 1) = 1) (says : Int) (says_e : says = G 1 (Ad E 1) 10) (accounts : Int) (accounts_e : accounts = G 1 (Ad E 1) 6) (events : Int) (events_e : events = G 1 (Ad E 1) 9) (latest : Int) (latest_e : latest = G 1 (Ad E 1) 3) (e_a : (-2147483648) ≤ e) (e_b : e ≤ 2147483647) (a_a : (-2147483648) ≤ a) (a_b : a ≤ 2147483647) (ch_a : (-2147483648) ≤ ch) (ch_b : ch ≤ 2147483647) (d_a : (-2147483648) ≤ d) (d_b : d ≤ 2147483647) (k_a : (-2147483648) ≤ k) (k_b : k ≤ 2147483647) (mi : MI E G) : Calls E mX12_choose [(2, (Ad E 1)), (0, e), (0, a), (0, ch), (0, d), (0, k)] S G 2 0 0 (fun r S' G' => S = S' ∧ (∃ G1, hv [0, 1, 3, 10] [38, 39, 40, 41, 42, 43] G G1 = G') ∧ ∃ z : Int, r = some (0, z) ∧ ∃ c2 : Int, c2 = G' 1 (Ad E 1) 10 ∧ ∃ l2 : Int, l2 = G' 1 (Ad E 1) 3 ∧ (-2147483648) ≤ z ∧ z ≤ 2147483647 ∧ ((0 ≤ e ∧ e < events ∧ 0 ≤ ch ∧ ch < G 27 (Ad E 27) e ∧ 0 ≤ a ∧ a < accounts ∧ 0 ≤ d ∧ d ≤ 40000 ∧ 0 ≤ k ∧ k ≤ 40000 ∧ says < 60 ∧ latest ≤ k ∧ z = says ∧ c2 = says + 1 ∧ l2 = k) ∨ (z = -1 ∧ c2 = says ∧ l2 = latest ∧ ¬ (0 ≤ e ∧ e < events ∧ 0 ≤ ch ∧ ch < G 27 (Ad E 27) e ∧ 0 ≤ a ∧ a < accounts ∧ 0 ≤ d ∧ d ≤ 40000 ∧ 0 ≤ k ∧ k ≤ 40000 ∧ says < 60 ∧ latest ≤ k))) ∧ (∀ i : Int, i ≠ says → G' 43 (Ad E 43) i = G 43 (Ad E 43) i) ∧ (z = -1 ∨ (G' 43 (Ad E 43) says = 1000000000)) ∧ MI E G') := by
  refine calls_by [(0, (2, (Ad E 1))), (1, (0, e)), (2, (0, a)), (3, (0, ch)), (4, (0, d)), (5, (0, k))] rfl rfl (Nat.le_of_ble_eq_true rfl) (fun X hX => ?_)
  have hP := hPX12_choose
  refine r_peekI hX (tl1 10 rfl (by decide)) hS (fun says_o says_oe says_oa says_ob => ?_)
  obtain rfl : says = says_o := says_e.trans says_oe.symm
  refine r_peekI hX (tl1 6 rfl (by decide)) hS (fun accounts_o accounts_oe accounts_oa accounts_ob => ?_)
  obtain rfl : accounts = accounts_o := accounts_e.trans accounts_oe.symm
  refine r_peekI hX (tl1 9 rfl (by decide)) hS (fun events_o events_oe events_oa events_ob => ?_)
  obtain rfl : events = events_o := events_e.trans events_oe.symm
  refine r_peekI hX (tl1 3 rfl (by decide)) hS (fun latest_o latest_oe latest_oa latest_ob => ?_)
  obtain rfl : latest = latest_o := latest_e.trans latest_oe.symm
  refine r_ex hX hP 2 (pc' := 2) (st' := [(0, 0), (2, (Ad E 1))]) (lo' := [(0, (2, (Ad E 1))), (1, (0, e)), (2, (0, a)), (3, (0, ch)), (4, (0, d)), (5, (0, k))]) rfl ?_
  refine r_putIK hX hP rfl fp_12_304 hS (by first | decide | omega) (by first | decide | omega) (fun h1 => ?_)
  refine r_ex hX hP 2 (pc' := 7) (st' := [(0, 0), (2, (Ad E 1))]) (lo' := [(0, (2, (Ad E 1))), (1, (0, e)), (2, (0, a)), (3, (0, ch)), (4, (0, d)), (5, (0, k))]) rfl ?_
  refine r_putIK hX hP rfl fp_12_307 hS (by first | decide | omega) (by first | decide | omega) (fun h2 => ?_)
  refine r_ex hX hP 2 (pc' := 12) (st' := [(0, e), (2, (Ad E 1))]) (lo' := [(0, (2, (Ad E 1))), (1, (0, e)), (2, (0, a)), (3, (0, ch)), (4, (0, d)), (5, (0, k))]) rfl ?_
  refine r_callV gd hX hP rfl cv_12_493 hS (d' := 1) (mc' := 0) (ms' := 0) (as' := [(0, e)]) (st := []) (by first | decide | omega) (by first | decide | omega) (by first | decide | omega) rfl rfl (Nat.le_of_ble_eq_true rfl) (c_X12_isEvent E S (up (up G 1 (Ad E 1) 1 0) 1 (Ad E 1) 0 0) e hS events events_e (by first | decide | omega) (by first | decide | omega)) ?_
  rintro _ _ _ ⟨rfl, rfl, z3, rfl, (⟨rfl, f4, f5⟩ | ⟨rfl, f6⟩)⟩
  · skip
    refine r_if_eq hX hP rfl (tgt := 42) rfl (by first | decide | omega) (by first | decide | omega) (fun c7 => ?_) (fun c7 => ?_)
    · skip
      exfalso; omega
    · skip
      refine r_ex hX hP 2 (pc' := 20) (st' := [(0, a), (2, (Ad E 1))]) (lo' := [(0, (2, (Ad E 1))), (1, (0, e)), (2, (0, a)), (3, (0, ch)), (4, (0, d)), (5, (0, k))]) rfl ?_
      refine r_callV gd hX hP rfl cv_12_324 hS (d' := 1) (mc' := 0) (ms' := 0) (as' := [(0, a)]) (st := []) (by first | decide | omega) (by first | decide | omega) (by first | decide | omega) rfl rfl (Nat.le_of_ble_eq_true rfl) (c_X12_isAccount E S (up (up G 1 (Ad E 1) 1 0) 1 (Ad E 1) 0 0) a hS accounts accounts_e (by first | decide | omega) (by first | decide | omega)) ?_
      rintro _ _ _ ⟨rfl, rfl, z8, rfl, (⟨rfl, f9, f10⟩ | ⟨rfl, f11⟩)⟩
      · skip
        refine r_if_eq hX hP rfl (tgt := 42) rfl (by first | decide | omega) (by first | decide | omega) (fun c12 => ?_) (fun c12 => ?_)
        · skip
          exfalso; omega
        · skip
          refine r_ex hX hP 3 (pc' := 29) (st' := [(2, (Ad E 1)), (0, 0), (0, ch)]) (lo' := [(0, (2, (Ad E 1))), (1, (0, e)), (2, (0, a)), (3, (0, ch)), (4, (0, d)), (5, (0, k))]) rfl ?_
          refine r_getC hX hP rfl fl_12_95 hS (fun s13 => ?_)
          refine r_ex hX hP 1 (pc' := 33) (st' := [(0, e), (2, (Ad E 27)), (0, 0), (0, ch)]) (lo' := [(0, (2, (Ad E 1))), (1, (0, e)), (2, (0, a)), (3, (0, ch)), (4, (0, d)), (5, (0, k))]) rfl ?_
          refine r_iald hX hP rfl al_27 s13 (by first | decide | omega) (by first | decide | omega) (fun x14 x14e x14a x14b => ?_)
          have k15 : x14 = G 27 (Ad E 27) e := x14e
          refine r_ex hX hP 2 (pc' := 36) (st' := [(0, (x14 - 1)), (0, 0), (0, ch)]) (lo' := [(0, (2, (Ad E 1))), (1, (0, e)), (2, (0, a)), (3, (0, ch)), (4, (0, d)), (5, (0, k))]) rfl ?_
          refine r_callS gd hX hP rfl cs_12_310 (d' := 0) (mc' := 0) (ms' := 0) (as' := [(0, ch), (0, 0), (0, (x14 - 1))]) (st := []) (by first | decide | omega) (by first | decide | omega) (by first | decide | omega) rfl rfl (Nat.le_of_ble_eq_true rfl) (c_X12_isIn E S (up (up G 1 (Ad E 1) 1 0) 1 (Ad E 1) 0 0) ch 0 (x14 - 1) (by first | decide | omega) (by first | decide | omega) (by first | decide | omega) (by first | decide | omega) (by first | decide | omega) (by first | decide | omega)) ?_
          rintro _ _ _ ⟨rfl, rfl, z16, rfl, (⟨rfl, f17, f18⟩ | ⟨rfl, f19⟩)⟩
          · skip
            refine r_if_ne hX hP rfl (tgt := 48) rfl (by first | decide | omega) (by first | decide | omega) (fun c20 => ?_) (fun c20 => ?_)
            · skip
              refine r_ex hX hP 1 (pc' := 50) (st' := [(0, d)]) (lo' := [(0, (2, (Ad E 1))), (1, (0, e)), (2, (0, a)), (3, (0, ch)), (4, (0, d)), (5, (0, k))]) rfl ?_
              refine r_callS gd hX hP rfl cs_12_317 (d' := 1) (mc' := 0) (ms' := 0) (as' := [(0, d)]) (st := []) (by first | decide | omega) (by first | decide | omega) (by first | decide | omega) rfl rfl (Nat.le_of_ble_eq_true rfl) (c_X12_isDay E S (up (up G 1 (Ad E 1) 1 0) 1 (Ad E 1) 0 0) d (by first | decide | omega) (by first | decide | omega)) ?_
              rintro _ _ _ ⟨rfl, rfl, z21, rfl, (⟨rfl, f22, f23⟩ | ⟨rfl, f24⟩)⟩
              · skip
                refine r_if_eq hX hP rfl (tgt := 64) rfl (by first | decide | omega) (by first | decide | omega) (fun c25 => ?_) (fun c25 => ?_)
                · skip
                  exfalso; omega
                · skip
                  refine r_ex hX hP 1 (pc' := 58) (st' := [(0, k)]) (lo' := [(0, (2, (Ad E 1))), (1, (0, e)), (2, (0, a)), (3, (0, ch)), (4, (0, d)), (5, (0, k))]) rfl ?_
                  refine r_callS gd hX hP rfl cs_12_317 (d' := 1) (mc' := 0) (ms' := 0) (as' := [(0, k)]) (st := []) (by first | decide | omega) (by first | decide | omega) (by first | decide | omega) rfl rfl (Nat.le_of_ble_eq_true rfl) (c_X12_isDay E S (up (up G 1 (Ad E 1) 1 0) 1 (Ad E 1) 0 0) k (by first | decide | omega) (by first | decide | omega)) ?_
                  rintro _ _ _ ⟨rfl, rfl, z26, rfl, (⟨rfl, f27, f28⟩ | ⟨rfl, f29⟩)⟩
                  · skip
                    refine r_if_ne hX hP rfl (tgt := 70) rfl (by first | decide | omega) (by first | decide | omega) (fun c30 => ?_) (fun c30 => ?_)
                    · skip
                      refine r_ex hX hP 1 (pc' := 71) (st' := [(2, (Ad E 1))]) (lo' := [(0, (2, (Ad E 1))), (1, (0, e)), (2, (0, a)), (3, (0, ch)), (4, (0, d)), (5, (0, k))]) rfl ?_
                      refine r_getKI hX hP rfl fl_12_496 hS (x := says) says_e ?_
                      refine r_ex hX hP 1 (pc' := 76) (st' := [(0, 60), (0, says)]) (lo' := [(0, (2, (Ad E 1))), (1, (0, e)), (2, (0, a)), (3, (0, ch)), (4, (0, d)), (5, (0, k))]) rfl ?_
                      refine r_ic_ne hX hP rfl (tgt := 85) rfl (by first | decide | omega) (by first | decide | omega) (by first | decide | omega) (by first | decide | omega) (fun c31 => ?_) (fun c31 => ?_)
                      · skip
                        refine r_ex hX hP 2 (pc' := 88) (st' := [(2, (Ad E 1)), (0, k)]) (lo' := [(0, (2, (Ad E 1))), (1, (0, e)), (2, (0, a)), (3, (0, ch)), (4, (0, d)), (5, (0, k))]) rfl ?_
                        refine r_getKI hX hP rfl fl_12_339 hS (x := latest) latest_e ?_
                        refine r_ic_ge hX hP rfl (tgt := 100) rfl (by first | decide | omega) (by first | decide | omega) (by first | decide | omega) (by first | decide | omega) (fun c32 => ?_) (fun c32 => ?_)
                        · skip
                          refine r_ex hX hP 1 (pc' := 101) (st' := [(2, (Ad E 1))]) (lo' := [(0, (2, (Ad E 1))), (1, (0, e)), (2, (0, a)), (3, (0, ch)), (4, (0, d)), (5, (0, k))]) rfl ?_
                          refine r_getC hX hP rfl fl_12_128 hS (fun s33 => ?_)
                          refine r_ex hX hP 1 (pc' := 105) (st' := [(2, (Ad E 1)), (2, (Ad E 38))]) (lo' := [(0, (2, (Ad E 1))), (1, (0, e)), (2, (0, a)), (3, (0, ch)), (4, (0, d)), (5, (0, k))]) rfl ?_
                          refine r_getKI hX hP rfl fl_12_496 hS (x := says) says_e ?_
                          refine r_ex hX hP 1 (pc' := 109) (st' := [(0, e), (0, says), (2, (Ad E 38))]) (lo' := [(0, (2, (Ad E 1))), (1, (0, e)), (2, (0, a)), (3, (0, ch)), (4, (0, d)), (5, (0, k))]) rfl ?_
                          refine r_iastK hX hP rfl al_38 s33 (by first | decide | omega) (by first | decide | omega) (by first | decide | omega) (by first | decide | omega) (fun h34 => ?_)
                          refine r_ex hX hP 1 (pc' := 111) (st' := [(2, (Ad E 1))]) (lo' := [(0, (2, (Ad E 1))), (1, (0, e)), (2, (0, a)), (3, (0, ch)), (4, (0, d)), (5, (0, k))]) rfl ?_
                          refine r_getC hX hP rfl fl_12_131 hS (fun s35 => ?_)
                          refine r_ex hX hP 1 (pc' := 115) (st' := [(2, (Ad E 1)), (2, (Ad E 39))]) (lo' := [(0, (2, (Ad E 1))), (1, (0, e)), (2, (0, a)), (3, (0, ch)), (4, (0, d)), (5, (0, k))]) rfl ?_
                          refine r_getKI hX hP rfl fl_12_496 hS (x := says) says_e ?_
                          refine r_ex hX hP 1 (pc' := 119) (st' := [(0, a), (0, says), (2, (Ad E 39))]) (lo' := [(0, (2, (Ad E 1))), (1, (0, e)), (2, (0, a)), (3, (0, ch)), (4, (0, d)), (5, (0, k))]) rfl ?_
                          refine r_iastK hX hP rfl al_39 s35 (by first | decide | omega) (by first | decide | omega) (by first | decide | omega) (by first | decide | omega) (fun h36 => ?_)
                          refine r_ex hX hP 1 (pc' := 121) (st' := [(2, (Ad E 1))]) (lo' := [(0, (2, (Ad E 1))), (1, (0, e)), (2, (0, a)), (3, (0, ch)), (4, (0, d)), (5, (0, k))]) rfl ?_
                          refine r_getC hX hP rfl fl_12_134 hS (fun s37 => ?_)
                          refine r_ex hX hP 1 (pc' := 125) (st' := [(2, (Ad E 1)), (2, (Ad E 40))]) (lo' := [(0, (2, (Ad E 1))), (1, (0, e)), (2, (0, a)), (3, (0, ch)), (4, (0, d)), (5, (0, k))]) rfl ?_
                          refine r_getKI hX hP rfl fl_12_496 hS (x := says) says_e ?_
                          refine r_ex hX hP 1 (pc' := 129) (st' := [(0, ch), (0, says), (2, (Ad E 40))]) (lo' := [(0, (2, (Ad E 1))), (1, (0, e)), (2, (0, a)), (3, (0, ch)), (4, (0, d)), (5, (0, k))]) rfl ?_
                          refine r_iastK hX hP rfl al_40 s37 (by first | decide | omega) (by first | decide | omega) (by first | decide | omega) (by first | decide | omega) (fun h38 => ?_)
                          refine r_ex hX hP 1 (pc' := 131) (st' := [(2, (Ad E 1))]) (lo' := [(0, (2, (Ad E 1))), (1, (0, e)), (2, (0, a)), (3, (0, ch)), (4, (0, d)), (5, (0, k))]) rfl ?_
                          refine r_getC hX hP rfl fl_12_137 hS (fun s39 => ?_)
                          refine r_ex hX hP 1 (pc' := 135) (st' := [(2, (Ad E 1)), (2, (Ad E 41))]) (lo' := [(0, (2, (Ad E 1))), (1, (0, e)), (2, (0, a)), (3, (0, ch)), (4, (0, d)), (5, (0, k))]) rfl ?_
                          refine r_getKI hX hP rfl fl_12_496 hS (x := says) says_e ?_
                          refine r_ex hX hP 1 (pc' := 140) (st' := [(0, d), (0, says), (2, (Ad E 41))]) (lo' := [(0, (2, (Ad E 1))), (1, (0, e)), (2, (0, a)), (3, (0, ch)), (4, (0, d)), (5, (0, k))]) rfl ?_
                          refine r_iastK hX hP rfl al_41 s39 (by first | decide | omega) (by first | decide | omega) (by first | decide | omega) (by first | decide | omega) (fun h40 => ?_)
                          refine r_ex hX hP 1 (pc' := 142) (st' := [(2, (Ad E 1))]) (lo' := [(0, (2, (Ad E 1))), (1, (0, e)), (2, (0, a)), (3, (0, ch)), (4, (0, d)), (5, (0, k))]) rfl ?_
                          refine r_getC hX hP rfl fl_12_140 hS (fun s41 => ?_)
                          refine r_ex hX hP 1 (pc' := 146) (st' := [(2, (Ad E 1)), (2, (Ad E 42))]) (lo' := [(0, (2, (Ad E 1))), (1, (0, e)), (2, (0, a)), (3, (0, ch)), (4, (0, d)), (5, (0, k))]) rfl ?_
                          refine r_getKI hX hP rfl fl_12_496 hS (x := says) says_e ?_
                          refine r_ex hX hP 1 (pc' := 151) (st' := [(0, k), (0, says), (2, (Ad E 42))]) (lo' := [(0, (2, (Ad E 1))), (1, (0, e)), (2, (0, a)), (3, (0, ch)), (4, (0, d)), (5, (0, k))]) rfl ?_
                          refine r_iastK hX hP rfl al_42 s41 (by first | decide | omega) (by first | decide | omega) (by first | decide | omega) (by first | decide | omega) (fun h42 => ?_)
                          refine r_ex hX hP 1 (pc' := 153) (st' := [(2, (Ad E 1))]) (lo' := [(0, (2, (Ad E 1))), (1, (0, e)), (2, (0, a)), (3, (0, ch)), (4, (0, d)), (5, (0, k))]) rfl ?_
                          refine r_getC hX hP rfl fl_12_143 hS (fun s43 => ?_)
                          refine r_ex hX hP 1 (pc' := 157) (st' := [(2, (Ad E 1)), (2, (Ad E 43))]) (lo' := [(0, (2, (Ad E 1))), (1, (0, e)), (2, (0, a)), (3, (0, ch)), (4, (0, d)), (5, (0, k))]) rfl ?_
                          refine r_getKI hX hP rfl fl_12_496 hS (x := says) says_e ?_
                          refine r_ldcw hX hP rfl (v := 1000000000) (tbg sg9 109 rfl rfl) ?_
                          refine r_iastK hX hP rfl al_43 s43 (by first | decide | omega) (by first | decide | omega) (by first | decide | omega) (by first | decide | omega) (fun h44 => ?_)
                          refine r_ex hX hP 2 (pc' := 166) (st' := [(2, (Ad E 1)), (2, (Ad E 1))]) (lo' := [(0, (2, (Ad E 1))), (1, (0, e)), (2, (0, a)), (3, (0, ch)), (4, (0, d)), (5, (0, k))]) rfl ?_
                          refine r_getKI hX hP rfl fl_12_496 hS (x := says) says_e ?_
                          refine r_ex hX hP 2 (pc' := 171) (st' := [(0, (says + 1)), (2, (Ad E 1))]) (lo' := [(0, (2, (Ad E 1))), (1, (0, e)), (2, (0, a)), (3, (0, ch)), (4, (0, d)), (5, (0, k))]) rfl ?_
                          refine r_putIK hX hP rfl fp_12_496 hS (by first | decide | omega) (by first | decide | omega) (fun h45 => ?_)
                          refine r_ex hX hP 2 (pc' := 177) (st' := [(0, k), (2, (Ad E 1))]) (lo' := [(0, (2, (Ad E 1))), (1, (0, e)), (2, (0, a)), (3, (0, ch)), (4, (0, d)), (5, (0, k))]) rfl ?_
                          refine r_putIK hX hP rfl fp_12_339 hS (by first | decide | omega) (by first | decide | omega) (fun h46 => ?_)
                          refine r_ex hX hP 1 (pc' := 181) (st' := [(2, (Ad E 1))]) (lo' := [(0, (2, (Ad E 1))), (1, (0, e)), (2, (0, a)), (3, (0, ch)), (4, (0, d)), (5, (0, k))]) rfl ?_
                          refine r_getKI hX hP rfl fl_12_496 hS (x := (says + 1)) h45 ?_
                          refine r_ex hX hP 2 (pc' := 186) (st' := [(0, ((says + 1) - 1))]) (lo' := [(0, (2, (Ad E 1))), (1, (0, e)), (2, (0, a)), (3, (0, ch)), (4, (0, d)), (5, (0, k))]) rfl ?_
                          exact r_retI hX hP rfl rfl (by first | decide | omega) (by first | decide | omega) ⟨rfl, ⟨_, (hq_up (hq_up (hq_up (hq_up (hq_up (hq_up (hq_up (hq_up (hq_up (hq_up (hq_refl _ _ _) rfl) rfl) rfl) rfl) rfl) rfl) rfl) rfl) rfl) rfl).symm⟩, ((says + 1) - 1), rfl, (says + 1), h45, k, h46, (by first | decide | omega), (by first | decide | omega), (by first | decide | omega), (fun i hi => ((show (up (up (up (up (up (up (up (up G 1 (Ad E 1) 1 0) 1 (Ad E 1) 0 0) 38 (Ad E 38) says e) 39 (Ad E 39) says a) 40 (Ad E 40) says ch) 41 (Ad E 41) says d) 42 (Ad E 42) says k) 43 (Ad E 43) says 1000000000) 43 (Ad E 43) i = _ from up_ne (fun q => absurd q.2.2 (by first | decide | omega))).trans rfl)), (Or.inr (show (up (up (up (up (up (up (up (up G 1 (Ad E 1) 1 0) 1 (Ad E 1) 0 0) 38 (Ad E 38) says e) 39 (Ad E 39) says a) 40 (Ad E 40) says ch) 41 (Ad E 41) says d) 42 (Ad E 42) says k) 43 (Ad E 43) says 1000000000) 43 (Ad E 43) says = 1000000000 from up_self _ _ _ _ _)), (mi_choose mi says_e (by first | decide | omega) rfl rfl rfl (up_self (up (up (up (up (up (up (up (up G 1 (Ad E 1) 1 0) 1 (Ad E 1) 0 0) 38 (Ad E 38) says e) 39 (Ad E 39) says a) 40 (Ad E 40) says ch) 41 (Ad E 41) says d) 42 (Ad E 42) says k) 43 (Ad E 43) says 1000000000) 1 (Ad E 1) 10 (says + 1)) rfl rfl (fun _ => rfl) (fun _ => rfl) (fun _ => rfl) (fun _ => rfl) (fun i hi => show (up (up (up (up G 1 (Ad E 1) 1 0) 1 (Ad E 1) 0 0) 38 (Ad E 38) says e) 39 (Ad E 39) says a) 39 (Ad E 39) i = _ from up_ne (fun q => hi q.2.2)) (show (up (up (up (up G 1 (Ad E 1) 1 0) 1 (Ad E 1) 0 0) 38 (Ad E 38) says e) 39 (Ad E 39) says a) 39 (Ad E 39) says = _ from up_self _ _ _ _ _) (fun _ => rfl) (fun _ => rfl) (fun _ => rfl) (fun _ => rfl) (fun _ => rfl) (fun _ => rfl) (fun _ => rfl) (fun _ => rfl))⟩
                        · skip
                          refine r_ex hX hP 2 (pc' := 96) (st' := [(0, 4), (2, (Ad E 1))]) (lo' := [(0, (2, (Ad E 1))), (1, (0, e)), (2, (0, a)), (3, (0, ch)), (4, (0, d)), (5, (0, k))]) rfl ?_
                          refine r_callV gd hX hP rfl cv_12_327 hS (d' := 0) (mc' := 0) (ms' := 0) (as' := [(0, 4)]) (st := []) (by first | decide | omega) (by first | decide | omega) (by first | decide | omega) rfl rfl (Nat.le_of_ble_eq_true rfl) (c_X12_refuse E S (up (up G 1 (Ad E 1) 1 0) 1 (Ad E 1) 0 0) 4 hS (by first | decide | omega) (by first | decide | omega)) ?_
                          rintro _ _ _ ⟨rfl, ⟨G47, rfl⟩, z48, rfl, rfl⟩
                          have mi49 : MI E (hv [0] [] (up (up G 1 (Ad E 1) 1 0) 1 (Ad E 1) 0 0) G47) := mi_keep mi rfl rfl rfl rfl rfl rfl (fun _ => rfl) (fun _ => rfl) (fun _ => rfl) (fun _ => rfl) (fun _ => rfl) (fun _ => rfl) (fun _ => rfl) (fun _ => rfl) (fun _ => rfl) (fun _ => rfl) (fun _ => rfl) (fun _ => rfl) (fun _ => rfl)
                          exact r_retI hX hP rfl rfl (by first | decide | omega) (by first | decide | omega) ⟨rfl, ⟨_, (hq_call (hq_up (hq_up (hq_refl _ _ _) rfl) rfl) rfl).symm⟩, (-1), rfl, says, says_e, latest, latest_e, (by first | decide | omega), (by first | decide | omega), (by first | decide | omega), (fun i hi => rfl), (Or.inl rfl), mi49⟩
                      · skip
                        refine r_ex hX hP 2 (pc' := 81) (st' := [(0, 3), (2, (Ad E 1))]) (lo' := [(0, (2, (Ad E 1))), (1, (0, e)), (2, (0, a)), (3, (0, ch)), (4, (0, d)), (5, (0, k))]) rfl ?_
                        refine r_callV gd hX hP rfl cv_12_327 hS (d' := 0) (mc' := 0) (ms' := 0) (as' := [(0, 3)]) (st := []) (by first | decide | omega) (by first | decide | omega) (by first | decide | omega) rfl rfl (Nat.le_of_ble_eq_true rfl) (c_X12_refuse E S (up (up G 1 (Ad E 1) 1 0) 1 (Ad E 1) 0 0) 3 hS (by first | decide | omega) (by first | decide | omega)) ?_
                        rintro _ _ _ ⟨rfl, ⟨G50, rfl⟩, z51, rfl, rfl⟩
                        have mi52 : MI E (hv [0] [] (up (up G 1 (Ad E 1) 1 0) 1 (Ad E 1) 0 0) G50) := mi_keep mi rfl rfl rfl rfl rfl rfl (fun _ => rfl) (fun _ => rfl) (fun _ => rfl) (fun _ => rfl) (fun _ => rfl) (fun _ => rfl) (fun _ => rfl) (fun _ => rfl) (fun _ => rfl) (fun _ => rfl) (fun _ => rfl) (fun _ => rfl) (fun _ => rfl)
                        exact r_retI hX hP rfl rfl (by first | decide | omega) (by first | decide | omega) ⟨rfl, ⟨_, (hq_call (hq_up (hq_up (hq_refl _ _ _) rfl) rfl) rfl).symm⟩, (-1), rfl, says, says_e, latest, latest_e, (by first | decide | omega), (by first | decide | omega), (by first | decide | omega), (fun i hi => rfl), (Or.inl rfl), mi52⟩
                    · skip
                      exfalso; omega
                  · skip
                    refine r_if_ne hX hP rfl (tgt := 70) rfl (by first | decide | omega) (by first | decide | omega) (fun c53 => ?_) (fun c53 => ?_)
                    · skip
                      exfalso; omega
                    · skip
                      refine r_ex hX hP 2 (pc' := 66) (st' := [(0, 2), (2, (Ad E 1))]) (lo' := [(0, (2, (Ad E 1))), (1, (0, e)), (2, (0, a)), (3, (0, ch)), (4, (0, d)), (5, (0, k))]) rfl ?_
                      refine r_callV gd hX hP rfl cv_12_327 hS (d' := 0) (mc' := 0) (ms' := 0) (as' := [(0, 2)]) (st := []) (by first | decide | omega) (by first | decide | omega) (by first | decide | omega) rfl rfl (Nat.le_of_ble_eq_true rfl) (c_X12_refuse E S (up (up G 1 (Ad E 1) 1 0) 1 (Ad E 1) 0 0) 2 hS (by first | decide | omega) (by first | decide | omega)) ?_
                      rintro _ _ _ ⟨rfl, ⟨G54, rfl⟩, z55, rfl, rfl⟩
                      have mi56 : MI E (hv [0] [] (up (up G 1 (Ad E 1) 1 0) 1 (Ad E 1) 0 0) G54) := mi_keep mi rfl rfl rfl rfl rfl rfl (fun _ => rfl) (fun _ => rfl) (fun _ => rfl) (fun _ => rfl) (fun _ => rfl) (fun _ => rfl) (fun _ => rfl) (fun _ => rfl) (fun _ => rfl) (fun _ => rfl) (fun _ => rfl) (fun _ => rfl) (fun _ => rfl)
                      exact r_retI hX hP rfl rfl (by first | decide | omega) (by first | decide | omega) ⟨rfl, ⟨_, (hq_call (hq_up (hq_up (hq_refl _ _ _) rfl) rfl) rfl).symm⟩, (-1), rfl, says, says_e, latest, latest_e, (by first | decide | omega), (by first | decide | omega), (by first | decide | omega), (fun i hi => rfl), (Or.inl rfl), mi56⟩
              · skip
                refine r_if_eq hX hP rfl (tgt := 64) rfl (by first | decide | omega) (by first | decide | omega) (fun c57 => ?_) (fun c57 => ?_)
                · skip
                  refine r_ex hX hP 2 (pc' := 66) (st' := [(0, 2), (2, (Ad E 1))]) (lo' := [(0, (2, (Ad E 1))), (1, (0, e)), (2, (0, a)), (3, (0, ch)), (4, (0, d)), (5, (0, k))]) rfl ?_
                  refine r_callV gd hX hP rfl cv_12_327 hS (d' := 0) (mc' := 0) (ms' := 0) (as' := [(0, 2)]) (st := []) (by first | decide | omega) (by first | decide | omega) (by first | decide | omega) rfl rfl (Nat.le_of_ble_eq_true rfl) (c_X12_refuse E S (up (up G 1 (Ad E 1) 1 0) 1 (Ad E 1) 0 0) 2 hS (by first | decide | omega) (by first | decide | omega)) ?_
                  rintro _ _ _ ⟨rfl, ⟨G58, rfl⟩, z59, rfl, rfl⟩
                  have mi60 : MI E (hv [0] [] (up (up G 1 (Ad E 1) 1 0) 1 (Ad E 1) 0 0) G58) := mi_keep mi rfl rfl rfl rfl rfl rfl (fun _ => rfl) (fun _ => rfl) (fun _ => rfl) (fun _ => rfl) (fun _ => rfl) (fun _ => rfl) (fun _ => rfl) (fun _ => rfl) (fun _ => rfl) (fun _ => rfl) (fun _ => rfl) (fun _ => rfl) (fun _ => rfl)
                  exact r_retI hX hP rfl rfl (by first | decide | omega) (by first | decide | omega) ⟨rfl, ⟨_, (hq_call (hq_up (hq_up (hq_refl _ _ _) rfl) rfl) rfl).symm⟩, (-1), rfl, says, says_e, latest, latest_e, (by first | decide | omega), (by first | decide | omega), (by first | decide | omega), (fun i hi => rfl), (Or.inl rfl), mi60⟩
                · skip
                  exfalso; omega
            · skip
              exfalso; omega
          · skip
            refine r_if_ne hX hP rfl (tgt := 48) rfl (by first | decide | omega) (by first | decide | omega) (fun c61 => ?_) (fun c61 => ?_)
            · skip
              exfalso; omega
            · skip
              refine r_ex hX hP 2 (pc' := 44) (st' := [(0, 1), (2, (Ad E 1))]) (lo' := [(0, (2, (Ad E 1))), (1, (0, e)), (2, (0, a)), (3, (0, ch)), (4, (0, d)), (5, (0, k))]) rfl ?_
              refine r_callV gd hX hP rfl cv_12_327 hS (d' := 0) (mc' := 0) (ms' := 0) (as' := [(0, 1)]) (st := []) (by first | decide | omega) (by first | decide | omega) (by first | decide | omega) rfl rfl (Nat.le_of_ble_eq_true rfl) (c_X12_refuse E S (up (up G 1 (Ad E 1) 1 0) 1 (Ad E 1) 0 0) 1 hS (by first | decide | omega) (by first | decide | omega)) ?_
              rintro _ _ _ ⟨rfl, ⟨G62, rfl⟩, z63, rfl, rfl⟩
              have mi64 : MI E (hv [0] [] (up (up G 1 (Ad E 1) 1 0) 1 (Ad E 1) 0 0) G62) := mi_keep mi rfl rfl rfl rfl rfl rfl (fun _ => rfl) (fun _ => rfl) (fun _ => rfl) (fun _ => rfl) (fun _ => rfl) (fun _ => rfl) (fun _ => rfl) (fun _ => rfl) (fun _ => rfl) (fun _ => rfl) (fun _ => rfl) (fun _ => rfl) (fun _ => rfl)
              exact r_retI hX hP rfl rfl (by first | decide | omega) (by first | decide | omega) ⟨rfl, ⟨_, (hq_call (hq_up (hq_up (hq_refl _ _ _) rfl) rfl) rfl).symm⟩, (-1), rfl, says, says_e, latest, latest_e, (by first | decide | omega), (by first | decide | omega), (by first | decide | omega), (fun i hi => rfl), (Or.inl rfl), mi64⟩
      · skip
        refine r_if_eq hX hP rfl (tgt := 42) rfl (by first | decide | omega) (by first | decide | omega) (fun c65 => ?_) (fun c65 => ?_)
        · skip
          refine r_ex hX hP 2 (pc' := 44) (st' := [(0, 1), (2, (Ad E 1))]) (lo' := [(0, (2, (Ad E 1))), (1, (0, e)), (2, (0, a)), (3, (0, ch)), (4, (0, d)), (5, (0, k))]) rfl ?_
          refine r_callV gd hX hP rfl cv_12_327 hS (d' := 0) (mc' := 0) (ms' := 0) (as' := [(0, 1)]) (st := []) (by first | decide | omega) (by first | decide | omega) (by first | decide | omega) rfl rfl (Nat.le_of_ble_eq_true rfl) (c_X12_refuse E S (up (up G 1 (Ad E 1) 1 0) 1 (Ad E 1) 0 0) 1 hS (by first | decide | omega) (by first | decide | omega)) ?_
          rintro _ _ _ ⟨rfl, ⟨G66, rfl⟩, z67, rfl, rfl⟩
          have mi68 : MI E (hv [0] [] (up (up G 1 (Ad E 1) 1 0) 1 (Ad E 1) 0 0) G66) := mi_keep mi rfl rfl rfl rfl rfl rfl (fun _ => rfl) (fun _ => rfl) (fun _ => rfl) (fun _ => rfl) (fun _ => rfl) (fun _ => rfl) (fun _ => rfl) (fun _ => rfl) (fun _ => rfl) (fun _ => rfl) (fun _ => rfl) (fun _ => rfl) (fun _ => rfl)
          exact r_retI hX hP rfl rfl (by first | decide | omega) (by first | decide | omega) ⟨rfl, ⟨_, (hq_call (hq_up (hq_up (hq_refl _ _ _) rfl) rfl) rfl).symm⟩, (-1), rfl, says, says_e, latest, latest_e, (by first | decide | omega), (by first | decide | omega), (by first | decide | omega), (fun i hi => rfl), (Or.inl rfl), mi68⟩
        · skip
          exfalso; omega
  · skip
    refine r_if_eq hX hP rfl (tgt := 42) rfl (by first | decide | omega) (by first | decide | omega) (fun c69 => ?_) (fun c69 => ?_)
    · skip
      refine r_ex hX hP 2 (pc' := 44) (st' := [(0, 1), (2, (Ad E 1))]) (lo' := [(0, (2, (Ad E 1))), (1, (0, e)), (2, (0, a)), (3, (0, ch)), (4, (0, d)), (5, (0, k))]) rfl ?_
      refine r_callV gd hX hP rfl cv_12_327 hS (d' := 0) (mc' := 0) (ms' := 0) (as' := [(0, 1)]) (st := []) (by first | decide | omega) (by first | decide | omega) (by first | decide | omega) rfl rfl (Nat.le_of_ble_eq_true rfl) (c_X12_refuse E S (up (up G 1 (Ad E 1) 1 0) 1 (Ad E 1) 0 0) 1 hS (by first | decide | omega) (by first | decide | omega)) ?_
      rintro _ _ _ ⟨rfl, ⟨G70, rfl⟩, z71, rfl, rfl⟩
      have mi72 : MI E (hv [0] [] (up (up G 1 (Ad E 1) 1 0) 1 (Ad E 1) 0 0) G70) := mi_keep mi rfl rfl rfl rfl rfl rfl (fun _ => rfl) (fun _ => rfl) (fun _ => rfl) (fun _ => rfl) (fun _ => rfl) (fun _ => rfl) (fun _ => rfl) (fun _ => rfl) (fun _ => rfl) (fun _ => rfl) (fun _ => rfl) (fun _ => rfl) (fun _ => rfl)
      exact r_retI hX hP rfl rfl (by first | decide | omega) (by first | decide | omega) ⟨rfl, ⟨_, (hq_call (hq_up (hq_up (hq_refl _ _ _) rfl) rfl) rfl).symm⟩, (-1), rfl, says, says_e, latest, latest_e, (by first | decide | omega), (by first | decide | omega), (by first | decide | omega), (fun i hi => rfl), (Or.inl rfl), mi72⟩
    · skip
      exfalso; omega
