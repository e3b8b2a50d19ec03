set_option maxRecDepth 100000 in
set_option maxHeartbeats 4000000 in
theorem c_X12_doesOne (E : En) (S : Sg) (G : Gh) (e t i ch : Int) (hS : S (Ad E 1) = 1) (two_i : Int) (two_i_e : two_i = G 31 (Ad E 31) i) (e_a : 0 ≤ e) (e_b : e ≤ 15) (t_a : 0 ≤ t) (t_b : t ≤ 19) (i_a : 0 ≤ i) (i_b : i ≤ 479) (ch_a : (-1) ≤ ch) (ch_b : ch ≤ 2) (pre0 : 1 ≤ two_i) (mi : MI E G) : Calls E mX12_doesOne [(2, (Ad E 1)), (0, e), (0, t), (0, i), (0, ch)] S G 3 0 0 (fun r S' G' => S = S' ∧ (∃ G1, hv [120] [73, 79, 80, 81, 82, 83, 84, 85, 88, 90, 91] G G1 = G') ∧ r = none ∧ True) := by
  refine calls_by [(0, (2, (Ad E 1))), (1, (0, e)), (2, (0, t)), (3, (0, i)), (4, (0, ch))] rfl rfl (Nat.le_of_ble_eq_true rfl) (fun X hX => ?_)
  have hP := hPX12_doesOne
  refine r_labC hX (tl1 43 rfl (by decide)) hS (fun s1 => ?_)
  refine r_apeekI hX al_31 s1 (i := i) (by first | decide | omega) (by first | decide | omega) (fun two_i_o two_i_oe two_i_oa two_i_ob => ?_)
  obtain rfl : two_i = two_i_o := two_i_e.trans two_i_oe.symm
  refine r_ex hX hP 4 (pc' := 5) (st' := [(0, t), (0, ch), (0, e), (2, (Ad E 1))]) (lo' := [(0, (2, (Ad E 1))), (1, (0, e)), (2, (0, t)), (3, (0, i)), (4, (0, ch))]) rfl ?_
  refine r_callV gd hX hP rfl cv_12_577 hS (d' := 1) (mc' := 0) (ms' := 0) (as' := [(0, e), (0, ch), (0, t)]) (st := []) (by first | decide | omega) (by first | decide | omega) (by first | decide | omega) rfl rfl (Nat.le_of_ble_eq_true rfl) (c_X12_lay_ E S G e ch t hS (by first | decide | omega) (by first | decide | omega) (by first | decide | omega) (by first | decide | omega) (by first | decide | omega) (by first | decide | omega) mi) ?_
  rintro _ _ _ ⟨rfl, ⟨G2, rfl⟩, rfl, -⟩
  refine r_ex hX hP 1 (pc' := 9) (st' := [(2, (Ad E 1))]) (lo' := [(0, (2, (Ad E 1))), (1, (0, e)), (2, (0, t)), (3, (0, i)), (4, (0, ch))]) rfl ?_
  refine r_callV gd hX hP rfl cv_12_521 hS (d' := 0) (mc' := 0) (ms' := 0) (as' := []) (st := []) (by first | decide | omega) (by first | decide | omega) (by first | decide | omega) rfl rfl (Nat.le_of_ble_eq_true rfl) (c_X12_sumUp E S (hv [] [81] G G2)  hS) ?_
  rintro _ _ _ ⟨rfl, ⟨G3, rfl⟩, rfl, -⟩
  refine r_ex hX hP 1 (pc' := 13) (st' := [(2, (Ad E 1))]) (lo' := [(0, (2, (Ad E 1))), (1, (0, e)), (2, (0, t)), (3, (0, i)), (4, (0, ch))]) rfl ?_
  refine r_getC hX hP rfl fl_12_277 hS (fun s4 => ?_)
  refine r_ex hX hP 1 (pc' := 17) (st' := [(0, t), (2, (Ad E 84))]) (lo' := [(0, (2, (Ad E 1))), (1, (0, e)), (2, (0, t)), (3, (0, i)), (4, (0, ch))]) rfl ?_
  refine r_lald hX hP rfl al_84 s4 (by first | decide | omega) (by first | decide | omega) (fun x5 x5e x5a x5b => ?_)
  refine r_ex hX hP 2 (pc' := 21) (st' := [(2, (Ad E 1))]) (lo' := [(0, (2, (Ad E 1))), (1, (0, e)), (2, (0, t)), (3, (0, i)), (4, (0, ch)), (5, (1, x5))]) rfl ?_
  refine r_getC hX hP rfl fl_12_74 hS (fun s6 => ?_)
  refine r_ex hX hP 1 (pc' := 25) (st' := [(0, e), (2, (Ad E 20))]) (lo' := [(0, (2, (Ad E 1))), (1, (0, e)), (2, (0, t)), (3, (0, i)), (4, (0, ch)), (5, (1, x5))]) rfl ?_
  refine r_iald hX hP rfl al_20 s6 (by first | decide | omega) (by first | decide | omega) (fun x7 x7e x7a x7b => ?_)
  refine r_ex hX hP 2 (pc' := 29) (st' := [(2, (Ad E 1))]) (lo' := [(0, (2, (Ad E 1))), (1, (0, e)), (2, (0, t)), (3, (0, i)), (4, (0, ch)), (5, (1, x5)), (7, (0, x7))]) rfl ?_
  refine r_getC hX hP rfl fl_12_101 hS (fun s8 => ?_)
  refine r_ex hX hP 1 (pc' := 33) (st' := [(0, i), (2, (Ad E 29))]) (lo' := [(0, (2, (Ad E 1))), (1, (0, e)), (2, (0, t)), (3, (0, i)), (4, (0, ch)), (5, (1, x5)), (7, (0, x7))]) rfl ?_
  refine r_iald hX hP rfl al_29 s8 (by first | decide | omega) (by first | decide | omega) (fun x9 x9e x9a x9b => ?_)
  rcases (by omega : x9 < 0 ∨ 5 < x9 ∨ x9 = 0 ∨ x9 = 1 ∨ x9 = 2 ∨ x9 = 3 ∨ x9 = 4 ∨ x9 = 5) with cT | cT | cT | cT | cT | cT | cT | cT
  · skip
    exfalso; omega
  · skip
    refine r_tsOut hX hP rfl (tgt := 506) (by first | decide | omega) (by first | decide | omega) (by first | decide | omega) rfl ?_
    exact r_retV hX hP rfl rfl (by first | decide | omega) (by first | decide | omega) ⟨rfl, ⟨_, (hq_call (hq_call (hq_refl _ _ _) rfl) rfl).symm⟩, rfl, trivial⟩
  · skip
    refine r_tsIn hX hP rfl (tgt := 72) (off := 38) (by first | decide | omega) (by first | decide | omega) (by first | decide | omega) (by first | decide | omega) (by rw [cT]; rfl) rfl ?_
    refine r_ex hX hP 2 (pc' := 75) (st' := [(2, (Ad E 1)), (1, x5)]) (lo' := [(0, (2, (Ad E 1))), (1, (0, e)), (2, (0, t)), (3, (0, i)), (4, (0, ch)), (5, (1, x5)), (7, (0, x7))]) rfl ?_
    refine r_getC hX hP rfl fl_12_104 hS (fun s10 => ?_)
    refine r_ex hX hP 1 (pc' := 79) (st' := [(0, i), (2, (Ad E 30)), (1, x5)]) (lo' := [(0, (2, (Ad E 1))), (1, (0, e)), (2, (0, t)), (3, (0, i)), (4, (0, ch)), (5, (1, x5)), (7, (0, x7))]) rfl ?_
    refine r_iald hX hP rfl al_30 s10 (by first | decide | omega) (by first | decide | omega) (fun x11 x11e x11a x11b => ?_)
    refine r_i2l hX hP rfl (by first | decide | omega) (by first | decide | omega) ?_
    refine r_ex hX hP 1 (pc' := 82) (st' := [(1, (x5 * x11))]) (lo' := [(0, (2, (Ad E 1))), (1, (0, e)), (2, (0, t)), (3, (0, i)), (4, (0, ch)), (5, (1, x5)), (7, (0, x7))]) rfl ?_
    refine r_hvL hX (fun w12 w12a w12b w12e => ?_)
    refine r_ex hX hP 1 (pc' := 83) (st' := [(2, (Ad E 1)), (1, w12)]) (lo' := [(0, (2, (Ad E 1))), (1, (0, e)), (2, (0, t)), (3, (0, i)), (4, (0, ch)), (5, (1, x5)), (7, (0, x7))]) rfl ?_
    refine r_getC hX hP rfl fl_12_107 hS (fun _ => ?_)
    refine r_ex hX hP 1 (pc' := 87) (st' := [(0, i), (2, (Ad E 31)), (1, w12)]) (lo' := [(0, (2, (Ad E 1))), (1, (0, e)), (2, (0, t)), (3, (0, i)), (4, (0, ch)), (5, (1, x5)), (7, (0, x7))]) rfl ?_
    refine r_ialdK hX hP rfl al_31 s1 (by first | decide | omega) (by first | decide | omega) (x := two_i) two_i_e ?_
    refine r_i2l hX hP rfl (by first | decide | omega) (by first | decide | omega) ?_
    refine r_lrem hX hP rfl (by first | decide | omega) (by first | decide | omega) (by first | decide | omega) (by first | decide | omega) (by first | decide | omega) ?_
    obtain ⟨q13, q13e⟩ : ∃ q : Int, q = (Int.tmod w12 two_i) := ⟨_, rfl⟩
    rw [← q13e]
    have q13b := tm_gen q13e (by first | decide | omega)
    refine r_ex hX hP 3 (pc' := 95) (st' := [(2, (Ad E 1)), (1, x5)]) (lo' := [(0, (2, (Ad E 1))), (1, (0, e)), (2, (0, t)), (3, (0, i)), (4, (0, ch)), (5, (1, x5)), (7, (0, x7)), (8, (1, q13))]) rfl ?_
    refine r_getC hX hP rfl fl_12_104 hS (fun _ => ?_)
    refine r_ex hX hP 1 (pc' := 99) (st' := [(0, i), (2, (Ad E 30)), (1, x5)]) (lo' := [(0, (2, (Ad E 1))), (1, (0, e)), (2, (0, t)), (3, (0, i)), (4, (0, ch)), (5, (1, x5)), (7, (0, x7)), (8, (1, q13))]) rfl ?_
    refine r_ialdK hX hP rfl al_30 s10 (by first | decide | omega) (by first | decide | omega) (x := x11) x11e ?_
    refine r_i2l hX hP rfl (by first | decide | omega) (by first | decide | omega) ?_
    refine r_ex hX hP 1 (pc' := 102) (st' := [(1, (x5 * x11))]) (lo' := [(0, (2, (Ad E 1))), (1, (0, e)), (2, (0, t)), (3, (0, i)), (4, (0, ch)), (5, (1, x5)), (7, (0, x7)), (8, (1, q13))]) rfl ?_
    refine r_hvL hX (fun w14 w14a w14b w14e => ?_)
    refine r_ex hX hP 1 (pc' := 103) (st' := [(2, (Ad E 1)), (1, w14)]) (lo' := [(0, (2, (Ad E 1))), (1, (0, e)), (2, (0, t)), (3, (0, i)), (4, (0, ch)), (5, (1, x5)), (7, (0, x7)), (8, (1, q13))]) rfl ?_
    refine r_getC hX hP rfl fl_12_107 hS (fun _ => ?_)
    refine r_ex hX hP 1 (pc' := 107) (st' := [(0, i), (2, (Ad E 31)), (1, w14)]) (lo' := [(0, (2, (Ad E 1))), (1, (0, e)), (2, (0, t)), (3, (0, i)), (4, (0, ch)), (5, (1, x5)), (7, (0, x7)), (8, (1, q13))]) rfl ?_
    refine r_ialdK hX hP rfl al_31 s1 (by first | decide | omega) (by first | decide | omega) (x := two_i) two_i_e ?_
    refine r_i2l hX hP rfl (by first | decide | omega) (by first | decide | omega) ?_
    refine r_ldiv hX hP rfl (by first | decide | omega) (by first | decide | omega) (by first | decide | omega) (by first | decide | omega) (by first | decide | omega) ?_
    obtain ⟨q15, q15e⟩ : ∃ q : Int, q = (Int.tdiv w14 two_i) := ⟨_, rfl⟩
    rw [← q15e]
    have q15b := td_gen q15e (by first | decide | omega)
    refine r_hvL hX (fun w16 w16a w16b w16e => ?_)
    have j157 : ∀ (k0_j157 k1_j157 : Int), 0 ≤ k0_j157 → k0_j157 ≤ 1 → (-9223372036854775808) ≤ k1_j157 → k1_j157 ≤ 9223372036854775807 → X 0 0 157 [(1, k0_j157), (1, k1_j157)] [(0, (2, (Ad E 1))), (1, (0, e)), (2, (0, t)), (3, (0, i)), (4, (0, ch)), (5, (1, x5)), (7, (0, x7)), (8, (1, q13))] S (hv [] [84] (hv [] [81] G G2) G3) := by
      intro k0_j157 k1_j157 yj157_0 yj157_1 yj157_2 yj157_3
      refine r_ex hX hP 1 (pc' := 158) (st' := [(1, (k1_j157 + k0_j157))]) (lo' := [(0, (2, (Ad E 1))), (1, (0, e)), (2, (0, t)), (3, (0, i)), (4, (0, ch)), (5, (1, x5)), (7, (0, x7)), (8, (1, q13))]) rfl ?_
      refine r_hvL hX (fun w17 w17a w17b w17e => ?_)
      refine r_ex hX hP 4 (pc' := 164) (st' := [(0, t), (1, w17), (2, (Ad E 1))]) (lo' := [(0, (2, (Ad E 1))), (1, (0, e)), (2, (0, t)), (3, (0, i)), (4, (0, ch)), (5, (1, x5)), (7, (0, x7)), (8, (1, q13)), (10, (1, w17))]) rfl ?_
      refine r_callV gd hX hP rfl cv_12_557 hS (d' := 1) (mc' := 0) (ms' := 0) (as' := [(1, w17), (0, t)]) (st := []) (by first | decide | omega) (by first | decide | omega) (by first | decide | omega) rfl rfl (Nat.le_of_ble_eq_true rfl) (c_X12_parts E S (hv [] [84] (hv [] [81] G G2) G3) w17 t hS (by first | decide | omega) (by first | decide | omega) (by first | decide | omega) (by first | decide | omega)) ?_
      rintro _ _ _ ⟨rfl, ⟨G18, rfl⟩, rfl, -⟩
      refine r_ex hX hP 2 (pc' := 170) (st' := []) (lo' := [(0, (2, (Ad E 1))), (1, (0, e)), (2, (0, t)), (3, (0, i)), (4, (0, ch)), (5, (1, x5)), (7, (0, x7)), (8, (1, q13)), (10, (1, w17)), (12, (0, 0))]) rfl ?_
      have loop170 : ∀ (nF : Nat) (l12_h170 : Int) (Gh170 : Gh), 0 ≤ l12_h170 → l12_h170 ≤ 20 → 20 - l12_h170 < (nF : Int) → X 0 0 170 [] [(0, (2, (Ad E 1))), (1, (0, e)), (2, (0, t)), (3, (0, i)), (4, (0, ch)), (5, (1, x5)), (7, (0, x7)), (8, (1, q13)), (10, (1, w17)), (12, (0, l12_h170))] S (hv [] [79, 88] (hv [] [82, 83, 84, 90, 91] (hv [] [84] (hv [] [81] G G2) G3) G18) Gh170) := by
        intro nF
        induction nF with
        | zero => intro l12_h170 Gh170 yh170_0 yh170_1 ym170; exfalso; omega
        | succ nF ih170 =>
          intro l12_h170 Gh170 yh170_0 yh170_1 ym170
          refine r_ex hX hP 2 (pc' := 173) (st' := [(2, (Ad E 1)), (0, l12_h170)]) (lo' := [(0, (2, (Ad E 1))), (1, (0, e)), (2, (0, t)), (3, (0, i)), (4, (0, ch)), (5, (1, x5)), (7, (0, x7)), (8, (1, q13)), (10, (1, w17)), (12, (0, l12_h170))]) rfl ?_
          refine r_getI hX hP rfl fl_12_314 hS (fun af19 af19e af19a af19b => ?_)
          refine r_ic_ge hX hP rfl (tgt := 247) rfl (by first | decide | omega) (by first | decide | omega) (by first | decide | omega) (by first | decide | omega) (fun c20 => ?_) (fun c20 => ?_)
          · skip
            refine r_ex hX hP 1 (pc' := 248) (st' := [(2, (Ad E 1))]) (lo' := [(0, (2, (Ad E 1))), (1, (0, e)), (2, (0, t)), (3, (0, i)), (4, (0, ch)), (5, (1, x5)), (7, (0, x7)), (8, (1, q13)), (10, (1, w17)), (12, (0, l12_h170))]) rfl ?_
            refine r_getI hX hP rfl fl_12_566 hS (fun rf21 rf21e rf21a rf21b => ?_)
            refine r_if_lt hX hP rfl (tgt := 506) rfl (by first | decide | omega) (by first | decide | omega) (fun c22 => ?_) (fun c22 => ?_)
            · skip
              exact r_retV hX hP rfl rfl (by first | decide | omega) (by first | decide | omega) ⟨rfl, ⟨_, (hq_loop (hq_call (hq_call (hq_call (hq_refl _ _ _) rfl) rfl) rfl) rfl).symm⟩, rfl, trivial⟩
            · skip
              refine r_ex hX hP 2 (pc' := 256) (st' := [(2, (Ad E 1)), (2, (Ad E 1))]) (lo' := [(0, (2, (Ad E 1))), (1, (0, e)), (2, (0, t)), (3, (0, i)), (4, (0, ch)), (5, (1, x5)), (7, (0, x7)), (8, (1, q13)), (10, (1, w17)), (12, (0, l12_h170))]) rfl ?_
              refine r_getKI hX hP rfl fl_12_566 hS (x := rf21) rf21e ?_
              refine r_i2l hX hP rfl (by first | decide | omega) (by first | decide | omega) ?_
              refine r_ex hX hP 2 (pc' := 263) (st' := [(1, (rf21 * q13)), (2, (Ad E 1))]) (lo' := [(0, (2, (Ad E 1))), (1, (0, e)), (2, (0, t)), (3, (0, i)), (4, (0, ch)), (5, (1, x5)), (7, (0, x7)), (8, (1, q13)), (10, (1, w17)), (12, (0, l12_h170))]) rfl ?_
              refine r_hvL hX (fun w23 w23a w23b w23e => ?_)
              refine r_ex hX hP 1 (pc' := 264) (st' := [(2, (Ad E 1)), (1, w23), (2, (Ad E 1))]) (lo' := [(0, (2, (Ad E 1))), (1, (0, e)), (2, (0, t)), (3, (0, i)), (4, (0, ch)), (5, (1, x5)), (7, (0, x7)), (8, (1, q13)), (10, (1, w17)), (12, (0, l12_h170))]) rfl ?_
              refine r_getC hX hP rfl fl_12_107 hS (fun _ => ?_)
              refine r_ex hX hP 1 (pc' := 268) (st' := [(0, i), (2, (Ad E 31)), (1, w23), (2, (Ad E 1))]) (lo' := [(0, (2, (Ad E 1))), (1, (0, e)), (2, (0, t)), (3, (0, i)), (4, (0, ch)), (5, (1, x5)), (7, (0, x7)), (8, (1, q13)), (10, (1, w17)), (12, (0, l12_h170))]) rfl ?_
              refine r_ialdK hX hP rfl al_31 s1 (by first | decide | omega) (by first | decide | omega) (x := two_i) two_i_e ?_
              refine r_i2l hX hP rfl (by first | decide | omega) (by first | decide | omega) ?_
              refine r_ldiv hX hP rfl (by first | decide | omega) (by first | decide | omega) (by first | decide | omega) (by first | decide | omega) (by first | decide | omega) ?_
              obtain ⟨q24, q24e⟩ : ∃ q : Int, q = (Int.tdiv w23 two_i) := ⟨_, rfl⟩
              rw [← q24e]
              have q24b := td_gen q24e (by first | decide | omega)
              refine r_hvL hX (fun w25 w25a w25b w25e => ?_)
              refine r_ex hX hP 2 (pc' := 273) (st' := [(1, 1), (0, t), (1, w25), (2, (Ad E 1))]) (lo' := [(0, (2, (Ad E 1))), (1, (0, e)), (2, (0, t)), (3, (0, i)), (4, (0, ch)), (5, (1, x5)), (7, (0, x7)), (8, (1, q13)), (10, (1, w17)), (12, (0, l12_h170))]) rfl ?_
              refine r_callV gd hX hP rfl cv_12_591 hS (d' := 2) (mc' := 0) (ms' := 0) (as' := [(1, w25), (0, t), (1, 1)]) (st := []) (by first | decide | omega) (by first | decide | omega) (by first | decide | omega) rfl rfl (Nat.le_of_ble_eq_true rfl) (c_X12_pays E S (hv [] [79, 88] (hv [] [82, 83, 84, 90, 91] (hv [] [84] (hv [] [81] G G2) G3) G18) Gh170) w25 t 1 hS (by first | decide | omega) (by first | decide | omega) (by first | decide | omega) (by first | decide | omega) (by first | decide | omega) (by first | decide | omega)) ?_
              rintro _ _ _ ⟨rfl, ⟨G26, rfl⟩, rfl, -⟩
              refine r_ex hX hP 1 (pc' := 506) (st' := []) (lo' := [(0, (2, (Ad E 1))), (1, (0, e)), (2, (0, t)), (3, (0, i)), (4, (0, ch)), (5, (1, x5)), (7, (0, x7)), (8, (1, q13)), (10, (1, w17)), (12, (0, l12_h170))]) rfl ?_
              exact r_retV hX hP rfl rfl (by first | decide | omega) (by first | decide | omega) ⟨rfl, ⟨_, (hq_call (hq_loop (hq_call (hq_call (hq_call (hq_refl _ _ _) rfl) rfl) rfl) rfl) rfl).symm⟩, rfl, trivial⟩
          · skip
            refine r_ex hX hP 1 (pc' := 180) (st' := [(2, (Ad E 1))]) (lo' := [(0, (2, (Ad E 1))), (1, (0, e)), (2, (0, t)), (3, (0, i)), (4, (0, ch)), (5, (1, x5)), (7, (0, x7)), (8, (1, q13)), (10, (1, w17)), (12, (0, l12_h170))]) rfl ?_
            refine r_getC hX hP rfl fl_12_262 hS (fun s27 => ?_)
            refine r_ex hX hP 4 (pc' := 189) (st' := [(2, (Ad E 1)), (0, (20 * l12_h170)), (2, (Ad E 79))]) (lo' := [(0, (2, (Ad E 1))), (1, (0, e)), (2, (0, t)), (3, (0, i)), (4, (0, ch)), (5, (1, x5)), (7, (0, x7)), (8, (1, q13)), (10, (1, w17)), (12, (0, l12_h170))]) rfl ?_
            refine r_getC hX hP rfl fl_12_110 hS (fun s28 => ?_)
            refine r_ex hX hP 1 (pc' := 193) (st' := [(0, i), (2, (Ad E 32)), (0, (20 * l12_h170)), (2, (Ad E 79))]) (lo' := [(0, (2, (Ad E 1))), (1, (0, e)), (2, (0, t)), (3, (0, i)), (4, (0, ch)), (5, (1, x5)), (7, (0, x7)), (8, (1, q13)), (10, (1, w17)), (12, (0, l12_h170))]) rfl ?_
            refine r_iald hX hP rfl al_32 s28 (by first | decide | omega) (by first | decide | omega) (fun x29 x29e x29a x29b => ?_)
            refine r_ex hX hP 2 (pc' := 196) (st' := [(0, ((20 * l12_h170) + x29)), (2, (Ad E 79)), (0, ((20 * l12_h170) + x29)), (2, (Ad E 79))]) (lo' := [(0, (2, (Ad E 1))), (1, (0, e)), (2, (0, t)), (3, (0, i)), (4, (0, ch)), (5, (1, x5)), (7, (0, x7)), (8, (1, q13)), (10, (1, w17)), (12, (0, l12_h170))]) rfl ?_
            refine r_lald hX hP rfl al_79 s27 (by first | decide | omega) (by first | decide | omega) (fun x30 x30e x30a x30b => ?_)
            refine r_ex hX hP 1 (pc' := 198) (st' := [(2, (Ad E 1)), (1, x30), (0, ((20 * l12_h170) + x29)), (2, (Ad E 79))]) (lo' := [(0, (2, (Ad E 1))), (1, (0, e)), (2, (0, t)), (3, (0, i)), (4, (0, ch)), (5, (1, x5)), (7, (0, x7)), (8, (1, q13)), (10, (1, w17)), (12, (0, l12_h170))]) rfl ?_
            refine r_getC hX hP rfl fl_12_271 hS (fun s31 => ?_)
            refine r_ex hX hP 1 (pc' := 203) (st' := [(0, l12_h170), (2, (Ad E 82)), (1, x30), (0, ((20 * l12_h170) + x29)), (2, (Ad E 79))]) (lo' := [(0, (2, (Ad E 1))), (1, (0, e)), (2, (0, t)), (3, (0, i)), (4, (0, ch)), (5, (1, x5)), (7, (0, x7)), (8, (1, q13)), (10, (1, w17)), (12, (0, l12_h170))]) rfl ?_
            refine r_lald hX hP rfl al_82 s31 (by first | decide | omega) (by first | decide | omega) (fun x32 x32e x32a x32b => ?_)
            refine r_ex hX hP 1 (pc' := 205) (st' := [(1, (x30 + x32)), (0, ((20 * l12_h170) + x29)), (2, (Ad E 79))]) (lo' := [(0, (2, (Ad E 1))), (1, (0, e)), (2, (0, t)), (3, (0, i)), (4, (0, ch)), (5, (1, x5)), (7, (0, x7)), (8, (1, q13)), (10, (1, w17)), (12, (0, l12_h170))]) rfl ?_
            refine r_hvL hX (fun w33 w33a w33b w33e => ?_)
            refine r_lastK hX hP rfl al_79 s27 (by first | decide | omega) (by first | decide | omega) (by first | decide | omega) (by first | decide | omega) (fun h34 => ?_)
            refine r_ex hX hP 1 (pc' := 207) (st' := [(2, (Ad E 1))]) (lo' := [(0, (2, (Ad E 1))), (1, (0, e)), (2, (0, t)), (3, (0, i)), (4, (0, ch)), (5, (1, x5)), (7, (0, x7)), (8, (1, q13)), (10, (1, w17)), (12, (0, l12_h170))]) rfl ?_
            refine r_getC hX hP rfl fl_12_271 hS (fun _ => ?_)
            refine r_ex hX hP 1 (pc' := 212) (st' := [(0, l12_h170), (2, (Ad E 82))]) (lo' := [(0, (2, (Ad E 1))), (1, (0, e)), (2, (0, t)), (3, (0, i)), (4, (0, ch)), (5, (1, x5)), (7, (0, x7)), (8, (1, q13)), (10, (1, w17)), (12, (0, l12_h170))]) rfl ?_
            refine r_laldK hX hP rfl al_82 s31 (by first | decide | omega) (by first | decide | omega) (x := x32) x32e ?_
            refine r_ex hX hP 1 (pc' := 214) (st' := [(1, 0), (1, x32)]) (lo' := [(0, (2, (Ad E 1))), (1, (0, e)), (2, (0, t)), (3, (0, i)), (4, (0, ch)), (5, (1, x5)), (7, (0, x7)), (8, (1, q13)), (10, (1, w17)), (12, (0, l12_h170))]) rfl ?_
            refine r_lc_le hX hP rfl rfl (tgt := 241) rfl (by first | decide | omega) (by first | decide | omega) (by first | decide | omega) (by first | decide | omega) (fun c35 => ?_) (fun c35 => ?_)
            · skip
              refine r_ex hX hP 2 (pc' := 170) (st' := []) (lo' := [(0, (2, (Ad E 1))), (1, (0, e)), (2, (0, t)), (3, (0, i)), (4, (0, ch)), (5, (1, x5)), (7, (0, x7)), (8, (1, q13)), (10, (1, w17)), (12, (0, (l12_h170 + 1)))]) rfl ?_
              refine r_eqG (X := X) (hq_up (hq_base _ _ _ _) rfl) ?_
              exact ih170 (l12_h170 + 1) _ (by first | decide | omega) (by first | decide | omega) (by first | decide | omega)
            · skip
              refine r_ex hX hP 1 (pc' := 219) (st' := [(2, (Ad E 1))]) (lo' := [(0, (2, (Ad E 1))), (1, (0, e)), (2, (0, t)), (3, (0, i)), (4, (0, ch)), (5, (1, x5)), (7, (0, x7)), (8, (1, q13)), (10, (1, w17)), (12, (0, l12_h170))]) rfl ?_
              refine r_getC hX hP rfl fl_12_289 hS (fun s36 => ?_)
              refine r_ex hX hP 1 (pc' := 224) (st' := [(0, l12_h170), (2, (Ad E 88))]) (lo' := [(0, (2, (Ad E 1))), (1, (0, e)), (2, (0, t)), (3, (0, i)), (4, (0, ch)), (5, (1, x5)), (7, (0, x7)), (8, (1, q13)), (10, (1, w17)), (12, (0, l12_h170))]) rfl ?_
              refine r_iald hX hP rfl al_88 s36 (by first | decide | omega) (by first | decide | omega) (fun x37 x37e x37a x37b => ?_)
              refine r_if_ge hX hP rfl (tgt := 241) rfl (by first | decide | omega) (by first | decide | omega) (fun c38 => ?_) (fun c38 => ?_)
              · skip
                refine r_ex hX hP 2 (pc' := 170) (st' := []) (lo' := [(0, (2, (Ad E 1))), (1, (0, e)), (2, (0, t)), (3, (0, i)), (4, (0, ch)), (5, (1, x5)), (7, (0, x7)), (8, (1, q13)), (10, (1, w17)), (12, (0, (l12_h170 + 1)))]) rfl ?_
                refine r_eqG (X := X) (hq_up (hq_base _ _ _ _) rfl) ?_
                exact ih170 (l12_h170 + 1) _ (by first | decide | omega) (by first | decide | omega) (by first | decide | omega)
              · skip
                refine r_ex hX hP 1 (pc' := 229) (st' := [(2, (Ad E 1))]) (lo' := [(0, (2, (Ad E 1))), (1, (0, e)), (2, (0, t)), (3, (0, i)), (4, (0, ch)), (5, (1, x5)), (7, (0, x7)), (8, (1, q13)), (10, (1, w17)), (12, (0, l12_h170))]) rfl ?_
                refine r_getC hX hP rfl fl_12_289 hS (fun _ => ?_)
                refine r_ex hX hP 2 (pc' := 235) (st' := [(2, (Ad E 1)), (0, l12_h170), (2, (Ad E 88))]) (lo' := [(0, (2, (Ad E 1))), (1, (0, e)), (2, (0, t)), (3, (0, i)), (4, (0, ch)), (5, (1, x5)), (7, (0, x7)), (8, (1, q13)), (10, (1, w17)), (12, (0, l12_h170))]) rfl ?_
                refine r_getC hX hP rfl fl_12_110 hS (fun _ => ?_)
                refine r_ex hX hP 1 (pc' := 239) (st' := [(0, i), (2, (Ad E 32)), (0, l12_h170), (2, (Ad E 88))]) (lo' := [(0, (2, (Ad E 1))), (1, (0, e)), (2, (0, t)), (3, (0, i)), (4, (0, ch)), (5, (1, x5)), (7, (0, x7)), (8, (1, q13)), (10, (1, w17)), (12, (0, l12_h170))]) rfl ?_
                refine r_ialdK hX hP rfl al_32 s28 (by first | decide | omega) (by first | decide | omega) (x := x29) x29e ?_
                refine r_iastK hX hP rfl al_88 s36 (by first | decide | omega) (by first | decide | omega) (by first | decide | omega) (by first | decide | omega) (fun h39 => ?_)
                refine r_ex hX hP 2 (pc' := 170) (st' := []) (lo' := [(0, (2, (Ad E 1))), (1, (0, e)), (2, (0, t)), (3, (0, i)), (4, (0, ch)), (5, (1, x5)), (7, (0, x7)), (8, (1, q13)), (10, (1, w17)), (12, (0, (l12_h170 + 1)))]) rfl ?_
                refine r_eqG (X := X) (hq_up (hq_up (hq_base _ _ _ _) rfl) rfl) ?_
                exact ih170 (l12_h170 + 1) _ (by first | decide | omega) (by first | decide | omega) (by first | decide | omega)
      refine r_eqG (X := X) (hq_refl [] [79, 88] _) ?_
      exact loop170 ((20 - 0) + 1 : Int).toNat 0 _ (by first | decide | omega) (by first | decide | omega) (by first | decide | omega)
    refine r_ex hX hP 1 (pc' := 111) (st' := [(2, (Ad E 1)), (1, w16)]) (lo' := [(0, (2, (Ad E 1))), (1, (0, e)), (2, (0, t)), (3, (0, i)), (4, (0, ch)), (5, (1, x5)), (7, (0, x7)), (8, (1, q13))]) rfl ?_
    refine r_getI hX hP rfl fl_12_566 hS (fun rf40 rf40e rf40a rf40b => ?_)
    refine r_ex hX hP 1 (pc' := 116) (st' := [(0, (-2)), (0, rf40), (1, w16)]) (lo' := [(0, (2, (Ad E 1))), (1, (0, e)), (2, (0, t)), (3, (0, i)), (4, (0, ch)), (5, (1, x5)), (7, (0, x7)), (8, (1, q13))]) rfl ?_
    refine r_ic_ne hX hP rfl (tgt := 126) rfl (by first | decide | omega) (by first | decide | omega) (by first | decide | omega) (by first | decide | omega) (fun c41 => ?_) (fun c41 => ?_)
    · skip
      refine r_ex hX hP 1 (pc' := 127) (st' := [(2, (Ad E 1)), (1, w16)]) (lo' := [(0, (2, (Ad E 1))), (1, (0, e)), (2, (0, t)), (3, (0, i)), (4, (0, ch)), (5, (1, x5)), (7, (0, x7)), (8, (1, q13))]) rfl ?_
      refine r_getKI hX hP rfl fl_12_566 hS (x := rf40) rf40e ?_
      refine r_ex hX hP 1 (pc' := 132) (st' := [(0, (-3)), (0, rf40), (1, w16)]) (lo' := [(0, (2, (Ad E 1))), (1, (0, e)), (2, (0, t)), (3, (0, i)), (4, (0, ch)), (5, (1, x5)), (7, (0, x7)), (8, (1, q13))]) rfl ?_
      refine r_ic_ne hX hP rfl (tgt := 156) rfl (by first | decide | omega) (by first | decide | omega) (by first | decide | omega) (by first | decide | omega) (fun c42 => ?_) (fun c42 => ?_)
      · skip
        refine r_ex hX hP 1 (pc' := 157) (st' := [(1, 0), (1, w16)]) (lo' := [(0, (2, (Ad E 1))), (1, (0, e)), (2, (0, t)), (3, (0, i)), (4, (0, ch)), (5, (1, x5)), (7, (0, x7)), (8, (1, q13))]) rfl ?_
        exact j157 0 w16 (by first | decide | omega) (by first | decide | omega) (by first | decide | omega) (by first | decide | omega)
      · skip
        refine r_ldc2 hX hP rfl (v := 2) (tbg sg10 113 rfl rfl) ?_
        refine r_ex hX hP 3 (pc' := 142) (st' := [(2, (Ad E 1)), (1, (2 * q13)), (1, w16)]) (lo' := [(0, (2, (Ad E 1))), (1, (0, e)), (2, (0, t)), (3, (0, i)), (4, (0, ch)), (5, (1, x5)), (7, (0, x7)), (8, (1, q13))]) rfl ?_
        refine r_getC hX hP rfl fl_12_107 hS (fun _ => ?_)
        refine r_ex hX hP 1 (pc' := 146) (st' := [(0, i), (2, (Ad E 31)), (1, (2 * q13)), (1, w16)]) (lo' := [(0, (2, (Ad E 1))), (1, (0, e)), (2, (0, t)), (3, (0, i)), (4, (0, ch)), (5, (1, x5)), (7, (0, x7)), (8, (1, q13))]) rfl ?_
        refine r_ialdK hX hP rfl al_31 s1 (by first | decide | omega) (by first | decide | omega) (x := two_i) two_i_e ?_
        refine r_i2l hX hP rfl (by first | decide | omega) (by first | decide | omega) ?_
        refine r_lc_lt hX hP rfl rfl (tgt := 156) rfl (by first | decide | omega) (by first | decide | omega) (by first | decide | omega) (by first | decide | omega) (fun c43 => ?_) (fun c43 => ?_)
        · skip
          refine r_ex hX hP 1 (pc' := 157) (st' := [(1, 0), (1, w16)]) (lo' := [(0, (2, (Ad E 1))), (1, (0, e)), (2, (0, t)), (3, (0, i)), (4, (0, ch)), (5, (1, x5)), (7, (0, x7)), (8, (1, q13))]) rfl ?_
          exact j157 0 w16 (by first | decide | omega) (by first | decide | omega) (by first | decide | omega) (by first | decide | omega)
        · skip
          refine r_ex hX hP 2 (pc' := 157) (st' := [(1, 1), (1, w16)]) (lo' := [(0, (2, (Ad E 1))), (1, (0, e)), (2, (0, t)), (3, (0, i)), (4, (0, ch)), (5, (1, x5)), (7, (0, x7)), (8, (1, q13))]) rfl ?_
          exact j157 1 w16 (by first | decide | omega) (by first | decide | omega) (by first | decide | omega) (by first | decide | omega)
    · skip
      refine r_ex hX hP 2 (pc' := 122) (st' := [(1, 0), (1, q13), (1, w16)]) (lo' := [(0, (2, (Ad E 1))), (1, (0, e)), (2, (0, t)), (3, (0, i)), (4, (0, ch)), (5, (1, x5)), (7, (0, x7)), (8, (1, q13))]) rfl ?_
      refine r_lc_gt hX hP rfl rfl (tgt := 152) rfl (by first | decide | omega) (by first | decide | omega) (by first | decide | omega) (by first | decide | omega) (fun c44 => ?_) (fun c44 => ?_)
      · skip
        refine r_ex hX hP 2 (pc' := 157) (st' := [(1, 1), (1, w16)]) (lo' := [(0, (2, (Ad E 1))), (1, (0, e)), (2, (0, t)), (3, (0, i)), (4, (0, ch)), (5, (1, x5)), (7, (0, x7)), (8, (1, q13))]) rfl ?_
        exact j157 1 w16 (by first | decide | omega) (by first | decide | omega) (by first | decide | omega) (by first | decide | omega)
      · skip
        refine r_ex hX hP 1 (pc' := 127) (st' := [(2, (Ad E 1)), (1, w16)]) (lo' := [(0, (2, (Ad E 1))), (1, (0, e)), (2, (0, t)), (3, (0, i)), (4, (0, ch)), (5, (1, x5)), (7, (0, x7)), (8, (1, q13))]) rfl ?_
        refine r_getKI hX hP rfl fl_12_566 hS (x := rf40) rf40e ?_
        refine r_ex hX hP 1 (pc' := 132) (st' := [(0, (-3)), (0, rf40), (1, w16)]) (lo' := [(0, (2, (Ad E 1))), (1, (0, e)), (2, (0, t)), (3, (0, i)), (4, (0, ch)), (5, (1, x5)), (7, (0, x7)), (8, (1, q13))]) rfl ?_
        refine r_ic_ne hX hP rfl (tgt := 156) rfl (by first | decide | omega) (by first | decide | omega) (by first | decide | omega) (by first | decide | omega) (fun c45 => ?_) (fun c45 => ?_)
        · skip
          refine r_ex hX hP 1 (pc' := 157) (st' := [(1, 0), (1, w16)]) (lo' := [(0, (2, (Ad E 1))), (1, (0, e)), (2, (0, t)), (3, (0, i)), (4, (0, ch)), (5, (1, x5)), (7, (0, x7)), (8, (1, q13))]) rfl ?_
          exact j157 0 w16 (by first | decide | omega) (by first | decide | omega) (by first | decide | omega) (by first | decide | omega)
        · skip
          exfalso; omega
  · skip
    refine r_tsIn hX hP rfl (tgt := 279) (off := 245) (by first | decide | omega) (by first | decide | omega) (by first | decide | omega) (by first | decide | omega) (by rw [cT]; rfl) rfl ?_
    refine r_ex hX hP 1 (pc' := 280) (st' := [(2, (Ad E 1))]) (lo' := [(0, (2, (Ad E 1))), (1, (0, e)), (2, (0, t)), (3, (0, i)), (4, (0, ch)), (5, (1, x5)), (7, (0, x7))]) rfl ?_
    refine r_getC hX hP rfl fl_12_280 hS (fun s46 => ?_)
    refine r_ex hX hP 1 (pc' := 285) (st' := [(0, ch), (2, (Ad E 85))]) (lo' := [(0, (2, (Ad E 1))), (1, (0, e)), (2, (0, t)), (3, (0, i)), (4, (0, ch)), (5, (1, x5)), (7, (0, x7))]) rfl ?_
    refine r_if_ge hX hP rfl (tgt := 292) rfl (by first | decide | omega) (by first | decide | omega) (fun c47 => ?_) (fun c47 => ?_)
    · skip
      refine r_ex hX hP 2 (pc' := 295) (st' := [(0, ch), (2, (Ad E 85)), (0, ch), (2, (Ad E 85))]) (lo' := [(0, (2, (Ad E 1))), (1, (0, e)), (2, (0, t)), (3, (0, i)), (4, (0, ch)), (5, (1, x5)), (7, (0, x7))]) rfl ?_
      refine r_lald hX hP rfl al_85 s46 (by first | decide | omega) (by first | decide | omega) (fun x48 x48e x48a x48b => ?_)
      refine r_ex hX hP 2 (pc' := 299) (st' := [(2, (Ad E 1)), (1, x5), (1, x48), (0, ch), (2, (Ad E 85))]) (lo' := [(0, (2, (Ad E 1))), (1, (0, e)), (2, (0, t)), (3, (0, i)), (4, (0, ch)), (5, (1, x5)), (7, (0, x7))]) rfl ?_
      refine r_getC hX hP rfl fl_12_104 hS (fun s49 => ?_)
      refine r_ex hX hP 1 (pc' := 303) (st' := [(0, i), (2, (Ad E 30)), (1, x5), (1, x48), (0, ch), (2, (Ad E 85))]) (lo' := [(0, (2, (Ad E 1))), (1, (0, e)), (2, (0, t)), (3, (0, i)), (4, (0, ch)), (5, (1, x5)), (7, (0, x7))]) rfl ?_
      refine r_iald hX hP rfl al_30 s49 (by first | decide | omega) (by first | decide | omega) (fun x50 x50e x50a x50b => ?_)
      refine r_i2l hX hP rfl (by first | decide | omega) (by first | decide | omega) ?_
      refine r_ex hX hP 1 (pc' := 306) (st' := [(1, (x5 * x50)), (1, x48), (0, ch), (2, (Ad E 85))]) (lo' := [(0, (2, (Ad E 1))), (1, (0, e)), (2, (0, t)), (3, (0, i)), (4, (0, ch)), (5, (1, x5)), (7, (0, x7))]) rfl ?_
      refine r_hvL hX (fun w51 w51a w51b w51e => ?_)
      refine r_ex hX hP 1 (pc' := 307) (st' := [(2, (Ad E 1)), (1, w51), (1, x48), (0, ch), (2, (Ad E 85))]) (lo' := [(0, (2, (Ad E 1))), (1, (0, e)), (2, (0, t)), (3, (0, i)), (4, (0, ch)), (5, (1, x5)), (7, (0, x7))]) rfl ?_
      refine r_getC hX hP rfl fl_12_107 hS (fun _ => ?_)
      refine r_ex hX hP 1 (pc' := 311) (st' := [(0, i), (2, (Ad E 31)), (1, w51), (1, x48), (0, ch), (2, (Ad E 85))]) (lo' := [(0, (2, (Ad E 1))), (1, (0, e)), (2, (0, t)), (3, (0, i)), (4, (0, ch)), (5, (1, x5)), (7, (0, x7))]) rfl ?_
      refine r_ialdK hX hP rfl al_31 s1 (by first | decide | omega) (by first | decide | omega) (x := two_i) two_i_e ?_
      refine r_i2l hX hP rfl (by first | decide | omega) (by first | decide | omega) ?_
      refine r_ldiv hX hP rfl (by first | decide | omega) (by first | decide | omega) (by first | decide | omega) (by first | decide | omega) (by first | decide | omega) ?_
      obtain ⟨q52, q52e⟩ : ∃ q : Int, q = (Int.tdiv w51 two_i) := ⟨_, rfl⟩
      rw [← q52e]
      have q52b := td_gen q52e (by first | decide | omega)
      refine r_hvL hX (fun w53 w53a w53b w53e => ?_)
      refine r_ex hX hP 1 (pc' := 315) (st' := [(1, (x48 + w53)), (0, ch), (2, (Ad E 85))]) (lo' := [(0, (2, (Ad E 1))), (1, (0, e)), (2, (0, t)), (3, (0, i)), (4, (0, ch)), (5, (1, x5)), (7, (0, x7))]) rfl ?_
      refine r_hvL hX (fun w54 w54a w54b w54e => ?_)
      refine r_lastK hX hP rfl al_85 s46 (by first | decide | omega) (by first | decide | omega) (by first | decide | omega) (by first | decide | omega) (fun h55 => ?_)
      refine r_ex hX hP 1 (pc' := 506) (st' := []) (lo' := [(0, (2, (Ad E 1))), (1, (0, e)), (2, (0, t)), (3, (0, i)), (4, (0, ch)), (5, (1, x5)), (7, (0, x7))]) rfl ?_
      exact r_retV hX hP rfl rfl (by first | decide | omega) (by first | decide | omega) ⟨rfl, ⟨_, (hq_up (hq_call (hq_call (hq_refl _ _ _) rfl) rfl) rfl).symm⟩, rfl, trivial⟩
    · skip
      refine r_ex hX hP 3 (pc' := 295) (st' := [(0, 3), (2, (Ad E 85)), (0, 3), (2, (Ad E 85))]) (lo' := [(0, (2, (Ad E 1))), (1, (0, e)), (2, (0, t)), (3, (0, i)), (4, (0, ch)), (5, (1, x5)), (7, (0, x7))]) rfl ?_
      refine r_lald hX hP rfl al_85 s46 (by first | decide | omega) (by first | decide | omega) (fun x56 x56e x56a x56b => ?_)
      refine r_ex hX hP 2 (pc' := 299) (st' := [(2, (Ad E 1)), (1, x5), (1, x56), (0, 3), (2, (Ad E 85))]) (lo' := [(0, (2, (Ad E 1))), (1, (0, e)), (2, (0, t)), (3, (0, i)), (4, (0, ch)), (5, (1, x5)), (7, (0, x7))]) rfl ?_
      refine r_getC hX hP rfl fl_12_104 hS (fun s57 => ?_)
      refine r_ex hX hP 1 (pc' := 303) (st' := [(0, i), (2, (Ad E 30)), (1, x5), (1, x56), (0, 3), (2, (Ad E 85))]) (lo' := [(0, (2, (Ad E 1))), (1, (0, e)), (2, (0, t)), (3, (0, i)), (4, (0, ch)), (5, (1, x5)), (7, (0, x7))]) rfl ?_
      refine r_iald hX hP rfl al_30 s57 (by first | decide | omega) (by first | decide | omega) (fun x58 x58e x58a x58b => ?_)
      refine r_i2l hX hP rfl (by first | decide | omega) (by first | decide | omega) ?_
      refine r_ex hX hP 1 (pc' := 306) (st' := [(1, (x5 * x58)), (1, x56), (0, 3), (2, (Ad E 85))]) (lo' := [(0, (2, (Ad E 1))), (1, (0, e)), (2, (0, t)), (3, (0, i)), (4, (0, ch)), (5, (1, x5)), (7, (0, x7))]) rfl ?_
      refine r_hvL hX (fun w59 w59a w59b w59e => ?_)
      refine r_ex hX hP 1 (pc' := 307) (st' := [(2, (Ad E 1)), (1, w59), (1, x56), (0, 3), (2, (Ad E 85))]) (lo' := [(0, (2, (Ad E 1))), (1, (0, e)), (2, (0, t)), (3, (0, i)), (4, (0, ch)), (5, (1, x5)), (7, (0, x7))]) rfl ?_
      refine r_getC hX hP rfl fl_12_107 hS (fun _ => ?_)
      refine r_ex hX hP 1 (pc' := 311) (st' := [(0, i), (2, (Ad E 31)), (1, w59), (1, x56), (0, 3), (2, (Ad E 85))]) (lo' := [(0, (2, (Ad E 1))), (1, (0, e)), (2, (0, t)), (3, (0, i)), (4, (0, ch)), (5, (1, x5)), (7, (0, x7))]) rfl ?_
      refine r_ialdK hX hP rfl al_31 s1 (by first | decide | omega) (by first | decide | omega) (x := two_i) two_i_e ?_
      refine r_i2l hX hP rfl (by first | decide | omega) (by first | decide | omega) ?_
      refine r_ldiv hX hP rfl (by first | decide | omega) (by first | decide | omega) (by first | decide | omega) (by first | decide | omega) (by first | decide | omega) ?_
      obtain ⟨q60, q60e⟩ : ∃ q : Int, q = (Int.tdiv w59 two_i) := ⟨_, rfl⟩
      rw [← q60e]
      have q60b := td_gen q60e (by first | decide | omega)
      refine r_hvL hX (fun w61 w61a w61b w61e => ?_)
      refine r_ex hX hP 1 (pc' := 315) (st' := [(1, (x56 + w61)), (0, 3), (2, (Ad E 85))]) (lo' := [(0, (2, (Ad E 1))), (1, (0, e)), (2, (0, t)), (3, (0, i)), (4, (0, ch)), (5, (1, x5)), (7, (0, x7))]) rfl ?_
      refine r_hvL hX (fun w62 w62a w62b w62e => ?_)
      refine r_lastK hX hP rfl al_85 s46 (by first | decide | omega) (by first | decide | omega) (by first | decide | omega) (by first | decide | omega) (fun h63 => ?_)
      refine r_ex hX hP 1 (pc' := 506) (st' := []) (lo' := [(0, (2, (Ad E 1))), (1, (0, e)), (2, (0, t)), (3, (0, i)), (4, (0, ch)), (5, (1, x5)), (7, (0, x7))]) rfl ?_
      exact r_retV hX hP rfl rfl (by first | decide | omega) (by first | decide | omega) ⟨rfl, ⟨_, (hq_up (hq_call (hq_call (hq_refl _ _ _) rfl) rfl) rfl).symm⟩, rfl, trivial⟩
  · skip
    refine r_tsIn hX hP rfl (tgt := 319) (off := 285) (by first | decide | omega) (by first | decide | omega) (by first | decide | omega) (by first | decide | omega) (by rw [cT]; rfl) rfl ?_
    refine r_ex hX hP 3 (pc' := 323) (st' := [(2, (Ad E 1)), (1, x5), (2, (Ad E 1))]) (lo' := [(0, (2, (Ad E 1))), (1, (0, e)), (2, (0, t)), (3, (0, i)), (4, (0, ch)), (5, (1, x5)), (7, (0, x7))]) rfl ?_
    refine r_getC hX hP rfl fl_12_104 hS (fun s64 => ?_)
    refine r_ex hX hP 1 (pc' := 327) (st' := [(0, i), (2, (Ad E 30)), (1, x5), (2, (Ad E 1))]) (lo' := [(0, (2, (Ad E 1))), (1, (0, e)), (2, (0, t)), (3, (0, i)), (4, (0, ch)), (5, (1, x5)), (7, (0, x7))]) rfl ?_
    refine r_iald hX hP rfl al_30 s64 (by first | decide | omega) (by first | decide | omega) (fun x65 x65e x65a x65b => ?_)
    refine r_i2l hX hP rfl (by first | decide | omega) (by first | decide | omega) ?_
    refine r_ex hX hP 1 (pc' := 330) (st' := [(1, (x5 * x65)), (2, (Ad E 1))]) (lo' := [(0, (2, (Ad E 1))), (1, (0, e)), (2, (0, t)), (3, (0, i)), (4, (0, ch)), (5, (1, x5)), (7, (0, x7))]) rfl ?_
    refine r_hvL hX (fun w66 w66a w66b w66e => ?_)
    refine r_ex hX hP 1 (pc' := 331) (st' := [(2, (Ad E 1)), (1, w66), (2, (Ad E 1))]) (lo' := [(0, (2, (Ad E 1))), (1, (0, e)), (2, (0, t)), (3, (0, i)), (4, (0, ch)), (5, (1, x5)), (7, (0, x7))]) rfl ?_
    refine r_getC hX hP rfl fl_12_107 hS (fun _ => ?_)
    refine r_ex hX hP 1 (pc' := 335) (st' := [(0, i), (2, (Ad E 31)), (1, w66), (2, (Ad E 1))]) (lo' := [(0, (2, (Ad E 1))), (1, (0, e)), (2, (0, t)), (3, (0, i)), (4, (0, ch)), (5, (1, x5)), (7, (0, x7))]) rfl ?_
    refine r_ialdK hX hP rfl al_31 s1 (by first | decide | omega) (by first | decide | omega) (x := two_i) two_i_e ?_
    refine r_i2l hX hP rfl (by first | decide | omega) (by first | decide | omega) ?_
    refine r_ldiv hX hP rfl (by first | decide | omega) (by first | decide | omega) (by first | decide | omega) (by first | decide | omega) (by first | decide | omega) ?_
    obtain ⟨q67, q67e⟩ : ∃ q : Int, q = (Int.tdiv w66 two_i) := ⟨_, rfl⟩
    rw [← q67e]
    have q67b := td_gen q67e (by first | decide | omega)
    refine r_hvL hX (fun w68 w68a w68b w68e => ?_)
    refine r_ex hX hP 2 (pc' := 340) (st' := [(1, 1), (0, t), (1, w68), (2, (Ad E 1))]) (lo' := [(0, (2, (Ad E 1))), (1, (0, e)), (2, (0, t)), (3, (0, i)), (4, (0, ch)), (5, (1, x5)), (7, (0, x7))]) rfl ?_
    refine r_callV gd hX hP rfl cv_12_591 hS (d' := 2) (mc' := 0) (ms' := 0) (as' := [(1, w68), (0, t), (1, 1)]) (st := []) (by first | decide | omega) (by first | decide | omega) (by first | decide | omega) rfl rfl (Nat.le_of_ble_eq_true rfl) (c_X12_pays E S (hv [] [84] (hv [] [81] G G2) G3) w68 t 1 hS (by first | decide | omega) (by first | decide | omega) (by first | decide | omega) (by first | decide | omega) (by first | decide | omega) (by first | decide | omega)) ?_
    rintro _ _ _ ⟨rfl, ⟨G69, rfl⟩, rfl, -⟩
    refine r_ex hX hP 1 (pc' := 506) (st' := []) (lo' := [(0, (2, (Ad E 1))), (1, (0, e)), (2, (0, t)), (3, (0, i)), (4, (0, ch)), (5, (1, x5)), (7, (0, x7))]) rfl ?_
    exact r_retV hX hP rfl rfl (by first | decide | omega) (by first | decide | omega) ⟨rfl, ⟨_, (hq_call (hq_call (hq_call (hq_refl _ _ _) rfl) rfl) rfl).symm⟩, rfl, trivial⟩
  · skip
    refine r_tsIn hX hP rfl (tgt := 346) (off := 312) (by first | decide | omega) (by first | decide | omega) (by first | decide | omega) (by first | decide | omega) (by rw [cT]; rfl) rfl ?_
    refine r_ex hX hP 3 (pc' := 350) (st' := [(2, (Ad E 1)), (1, x5), (2, (Ad E 1))]) (lo' := [(0, (2, (Ad E 1))), (1, (0, e)), (2, (0, t)), (3, (0, i)), (4, (0, ch)), (5, (1, x5)), (7, (0, x7))]) rfl ?_
    refine r_getC hX hP rfl fl_12_104 hS (fun s70 => ?_)
    refine r_ex hX hP 1 (pc' := 354) (st' := [(0, i), (2, (Ad E 30)), (1, x5), (2, (Ad E 1))]) (lo' := [(0, (2, (Ad E 1))), (1, (0, e)), (2, (0, t)), (3, (0, i)), (4, (0, ch)), (5, (1, x5)), (7, (0, x7))]) rfl ?_
    refine r_iald hX hP rfl al_30 s70 (by first | decide | omega) (by first | decide | omega) (fun x71 x71e x71a x71b => ?_)
    refine r_i2l hX hP rfl (by first | decide | omega) (by first | decide | omega) ?_
    refine r_ex hX hP 1 (pc' := 357) (st' := [(1, (x5 * x71)), (2, (Ad E 1))]) (lo' := [(0, (2, (Ad E 1))), (1, (0, e)), (2, (0, t)), (3, (0, i)), (4, (0, ch)), (5, (1, x5)), (7, (0, x7))]) rfl ?_
    refine r_hvL hX (fun w72 w72a w72b w72e => ?_)
    refine r_ex hX hP 1 (pc' := 358) (st' := [(2, (Ad E 1)), (1, w72), (2, (Ad E 1))]) (lo' := [(0, (2, (Ad E 1))), (1, (0, e)), (2, (0, t)), (3, (0, i)), (4, (0, ch)), (5, (1, x5)), (7, (0, x7))]) rfl ?_
    refine r_getC hX hP rfl fl_12_107 hS (fun _ => ?_)
    refine r_ex hX hP 1 (pc' := 362) (st' := [(0, i), (2, (Ad E 31)), (1, w72), (2, (Ad E 1))]) (lo' := [(0, (2, (Ad E 1))), (1, (0, e)), (2, (0, t)), (3, (0, i)), (4, (0, ch)), (5, (1, x5)), (7, (0, x7))]) rfl ?_
    refine r_ialdK hX hP rfl al_31 s1 (by first | decide | omega) (by first | decide | omega) (x := two_i) two_i_e ?_
    refine r_i2l hX hP rfl (by first | decide | omega) (by first | decide | omega) ?_
    refine r_ldiv hX hP rfl (by first | decide | omega) (by first | decide | omega) (by first | decide | omega) (by first | decide | omega) (by first | decide | omega) ?_
    obtain ⟨q73, q73e⟩ : ∃ q : Int, q = (Int.tdiv w72 two_i) := ⟨_, rfl⟩
    rw [← q73e]
    have q73b := td_gen q73e (by first | decide | omega)
    refine r_hvL hX (fun w74 w74a w74b w74e => ?_)
    refine r_ex hX hP 1 (pc' := 366) (st' := [(0, t), (1, w74), (2, (Ad E 1))]) (lo' := [(0, (2, (Ad E 1))), (1, (0, e)), (2, (0, t)), (3, (0, i)), (4, (0, ch)), (5, (1, x5)), (7, (0, x7))]) rfl ?_
    refine r_ldc2 hX hP rfl (v := (-1)) (tbg sg9 135 rfl rfl) ?_
    refine r_callV gd hX hP rfl cv_12_591 hS (d' := 2) (mc' := 0) (ms' := 0) (as' := [(1, w74), (0, t), (1, (-1))]) (st := []) (by first | decide | omega) (by first | decide | omega) (by first | decide | omega) rfl rfl (Nat.le_of_ble_eq_true rfl) (c_X12_pays E S (hv [] [84] (hv [] [81] G G2) G3) w74 t (-1) hS (by first | decide | omega) (by first | decide | omega) (by first | decide | omega) (by first | decide | omega) (by first | decide | omega) (by first | decide | omega)) ?_
    rintro _ _ _ ⟨rfl, ⟨G75, rfl⟩, rfl, -⟩
    refine r_ex hX hP 1 (pc' := 506) (st' := []) (lo' := [(0, (2, (Ad E 1))), (1, (0, e)), (2, (0, t)), (3, (0, i)), (4, (0, ch)), (5, (1, x5)), (7, (0, x7))]) rfl ?_
    exact r_retV hX hP rfl rfl (by first | decide | omega) (by first | decide | omega) ⟨rfl, ⟨_, (hq_call (hq_call (hq_call (hq_refl _ _ _) rfl) rfl) rfl).symm⟩, rfl, trivial⟩
  · skip
    refine r_tsIn hX hP rfl (tgt := 375) (off := 341) (by first | decide | omega) (by first | decide | omega) (by first | decide | omega) (by first | decide | omega) (by rw [cT]; rfl) rfl ?_
    refine r_ex hX hP 2 (pc' := 378) (st' := []) (lo' := [(0, (2, (Ad E 1))), (1, (0, e)), (2, (0, t)), (3, (0, i)), (4, (0, ch)), (5, (1, x5)), (7, (0, x7)), (8, (0, 0))]) rfl ?_
    have loop378 : ∀ (nF : Nat) (l8_h378 : Int) (Gh378 : Gh), 0 ≤ l8_h378 → l8_h378 ≤ 20 → 20 - l8_h378 < (nF : Int) → X 0 0 378 [] [(0, (2, (Ad E 1))), (1, (0, e)), (2, (0, t)), (3, (0, i)), (4, (0, ch)), (5, (1, x5)), (7, (0, x7)), (8, (0, l8_h378))] S (hv [] [73] (hv [] [84] (hv [] [81] G G2) G3) Gh378) := by
      intro nF
      induction nF with
      | zero => intro l8_h378 Gh378 yh378_0 yh378_1 ym378; exfalso; omega
      | succ nF ih378 =>
        intro l8_h378 Gh378 yh378_0 yh378_1 ym378
        refine r_ex hX hP 2 (pc' := 381) (st' := [(2, (Ad E 1)), (0, l8_h378)]) (lo' := [(0, (2, (Ad E 1))), (1, (0, e)), (2, (0, t)), (3, (0, i)), (4, (0, ch)), (5, (1, x5)), (7, (0, x7)), (8, (0, l8_h378))]) rfl ?_
        refine r_getI hX hP rfl fl_12_314 hS (fun af76 af76e af76a af76b => ?_)
        refine r_ic_ge hX hP rfl (tgt := 490) rfl (by first | decide | omega) (by first | decide | omega) (by first | decide | omega) (by first | decide | omega) (fun c77 => ?_) (fun c77 => ?_)
        · skip
          refine r_ex hX hP 1 (pc' := 506) (st' := []) (lo' := [(0, (2, (Ad E 1))), (1, (0, e)), (2, (0, t)), (3, (0, i)), (4, (0, ch)), (5, (1, x5)), (7, (0, x7)), (8, (0, l8_h378))]) rfl ?_
          exact r_retV hX hP rfl rfl (by first | decide | omega) (by first | decide | omega) ⟨rfl, ⟨_, (hq_loop (hq_call (hq_call (hq_refl _ _ _) rfl) rfl) rfl).symm⟩, rfl, trivial⟩
        · skip
          refine r_ex hX hP 3 (pc' := 391) (st' := [(0, t), (0, l8_h378), (2, (Ad E 1))]) (lo' := [(0, (2, (Ad E 1))), (1, (0, e)), (2, (0, t)), (3, (0, i)), (4, (0, ch)), (5, (1, x5)), (7, (0, x7)), (8, (0, l8_h378))]) rfl ?_
          have mi78 : MI E (hv [] [73] (hv [] [84] (hv [] [81] G G2) G3) Gh378) := mi_keep mi rfl rfl rfl rfl rfl rfl (fun _ => rfl) (fun _ => rfl) (fun _ => rfl) (fun _ => rfl) (fun _ => rfl) (fun _ => rfl) (fun _ => rfl) (fun _ => rfl) (fun _ => rfl) (fun _ => rfl) (fun _ => rfl) (fun _ => rfl) (fun _ => rfl)
          refine r_callV gd hX hP rfl cv_12_582 hS (d' := 0) (mc' := 0) (ms' := 0) (as' := [(0, l8_h378), (0, t)]) (st := []) (by first | decide | omega) (by first | decide | omega) (by first | decide | omega) rfl rfl (Nat.le_of_ble_eq_true rfl) (c_X12_isBelow E S (hv [] [73] (hv [] [84] (hv [] [81] G G2) G3) Gh378) l8_h378 t hS af76 af76e (by first | decide | omega) (by first | decide | omega) (by first | decide | omega) (by first | decide | omega) (by first | decide | omega) mi78) ?_
          rintro _ _ _ ⟨rfl, rfl, z79, rfl, z79a, z79b⟩
          refine r_if_eq hX hP rfl (tgt := 484) rfl (by first | decide | omega) (by first | decide | omega) (fun c80 => ?_) (fun c80 => ?_)
          · skip
            refine r_ex hX hP 2 (pc' := 378) (st' := []) (lo' := [(0, (2, (Ad E 1))), (1, (0, e)), (2, (0, t)), (3, (0, i)), (4, (0, ch)), (5, (1, x5)), (7, (0, x7)), (8, (0, (l8_h378 + 1)))]) rfl ?_
            refine r_eqG (X := X) (hq_base _ _ _ _) ?_
            exact ih378 (l8_h378 + 1) _ (by first | decide | omega) (by first | decide | omega) (by first | decide | omega)
          · skip
            refine r_ex hX hP 1 (pc' := 399) (st' := [(0, ch)]) (lo' := [(0, (2, (Ad E 1))), (1, (0, e)), (2, (0, t)), (3, (0, i)), (4, (0, ch)), (5, (1, x5)), (7, (0, x7)), (8, (0, l8_h378))]) rfl ?_
            refine r_if_lt hX hP rfl (tgt := 417) rfl (by first | decide | omega) (by first | decide | omega) (fun c81 => ?_) (fun c81 => ?_)
            · skip
              refine r_ex hX hP 1 (pc' := 418) (st' := [(2, (Ad E 1))]) (lo' := [(0, (2, (Ad E 1))), (1, (0, e)), (2, (0, t)), (3, (0, i)), (4, (0, ch)), (5, (1, x5)), (7, (0, x7)), (8, (0, l8_h378))]) rfl ?_
              refine r_getC hX hP rfl fl_12_244 hS (fun s82 => ?_)
              refine r_ex hX hP 5 (pc' := 429) (st' := [(0, ((20 * l8_h378) + x7)), (2, (Ad E 73))]) (lo' := [(0, (2, (Ad E 1))), (1, (0, e)), (2, (0, t)), (3, (0, i)), (4, (0, ch)), (5, (1, x5)), (7, (0, x7)), (8, (0, l8_h378))]) rfl ?_
              refine r_lald hX hP rfl al_73 s82 (by first | decide | omega) (by first | decide | omega) (fun x83 x83e x83a x83b => ?_)
              refine r_ex hX hP 1 (pc' := 431) (st' := [(2, (Ad E 1)), (1, x83)]) (lo' := [(0, (2, (Ad E 1))), (1, (0, e)), (2, (0, t)), (3, (0, i)), (4, (0, ch)), (5, (1, x5)), (7, (0, x7)), (8, (0, l8_h378))]) rfl ?_
              refine r_getC hX hP rfl fl_12_104 hS (fun s84 => ?_)
              refine r_ex hX hP 1 (pc' := 435) (st' := [(0, i), (2, (Ad E 30)), (1, x83)]) (lo' := [(0, (2, (Ad E 1))), (1, (0, e)), (2, (0, t)), (3, (0, i)), (4, (0, ch)), (5, (1, x5)), (7, (0, x7)), (8, (0, l8_h378))]) rfl ?_
              refine r_iald hX hP rfl al_30 s84 (by first | decide | omega) (by first | decide | omega) (fun x85 x85e x85a x85b => ?_)
              refine r_i2l hX hP rfl (by first | decide | omega) (by first | decide | omega) ?_
              refine r_ex hX hP 1 (pc' := 438) (st' := [(1, (x83 * x85))]) (lo' := [(0, (2, (Ad E 1))), (1, (0, e)), (2, (0, t)), (3, (0, i)), (4, (0, ch)), (5, (1, x5)), (7, (0, x7)), (8, (0, l8_h378))]) rfl ?_
              refine r_hvL hX (fun w86 w86a w86b w86e => ?_)
              refine r_ldc2 hX hP rfl (v := 1000) (tbg sg10 118 rfl rfl) ?_
              refine r_ldiv hX hP rfl (by first | decide | omega) (by first | decide | omega) (by first | decide | omega) (by first | decide | omega) (by first | decide | omega) ?_
              obtain ⟨q87, q87e⟩ : ∃ q : Int, q = (Int.tdiv w86 1000) := ⟨_, rfl⟩
              rw [← q87e]
              have q87b := td_gen q87e (by first | decide | omega)
              refine r_hvL hX (fun w88 w88a w88b w88e => ?_)
              refine r_ex hX hP 2 (pc' := 445) (st' := [(2, (Ad E 1))]) (lo' := [(0, (2, (Ad E 1))), (1, (0, e)), (2, (0, t)), (3, (0, i)), (4, (0, ch)), (5, (1, x5)), (7, (0, x7)), (8, (0, l8_h378)), (9, (1, w88))]) rfl ?_
              refine r_getC hX hP rfl fl_12_244 hS (fun _ => ?_)
              refine r_ex hX hP 6 (pc' := 457) (st' := [(0, ((20 * l8_h378) + x7)), (2, (Ad E 73)), (0, ((20 * l8_h378) + x7)), (2, (Ad E 73))]) (lo' := [(0, (2, (Ad E 1))), (1, (0, e)), (2, (0, t)), (3, (0, i)), (4, (0, ch)), (5, (1, x5)), (7, (0, x7)), (8, (0, l8_h378)), (9, (1, w88))]) rfl ?_
              refine r_laldK hX hP rfl al_73 s82 (by first | decide | omega) (by first | decide | omega) (x := x83) x83e ?_
              refine r_ex hX hP 2 (pc' := 461) (st' := [(1, (x83 - w88)), (0, ((20 * l8_h378) + x7)), (2, (Ad E 73))]) (lo' := [(0, (2, (Ad E 1))), (1, (0, e)), (2, (0, t)), (3, (0, i)), (4, (0, ch)), (5, (1, x5)), (7, (0, x7)), (8, (0, l8_h378)), (9, (1, w88))]) rfl ?_
              refine r_hvL hX (fun w89 w89a w89b w89e => ?_)
              refine r_lastK hX hP rfl al_73 s82 (by first | decide | omega) (by first | decide | omega) (by first | decide | omega) (by first | decide | omega) (fun h90 => ?_)
              refine r_ex hX hP 1 (pc' := 463) (st' := [(2, (Ad E 1))]) (lo' := [(0, (2, (Ad E 1))), (1, (0, e)), (2, (0, t)), (3, (0, i)), (4, (0, ch)), (5, (1, x5)), (7, (0, x7)), (8, (0, l8_h378)), (9, (1, w88))]) rfl ?_
              refine r_getC hX hP rfl fl_12_244 hS (fun _ => ?_)
              refine r_ex hX hP 4 (pc' := 472) (st' := [(2, (Ad E 1)), (0, (20 * l8_h378)), (2, (Ad E 73))]) (lo' := [(0, (2, (Ad E 1))), (1, (0, e)), (2, (0, t)), (3, (0, i)), (4, (0, ch)), (5, (1, x5)), (7, (0, x7)), (8, (0, l8_h378)), (9, (1, w88))]) rfl ?_
              refine r_getC hX hP rfl fl_12_110 hS (fun s91 => ?_)
              refine r_ex hX hP 1 (pc' := 476) (st' := [(0, i), (2, (Ad E 32)), (0, (20 * l8_h378)), (2, (Ad E 73))]) (lo' := [(0, (2, (Ad E 1))), (1, (0, e)), (2, (0, t)), (3, (0, i)), (4, (0, ch)), (5, (1, x5)), (7, (0, x7)), (8, (0, l8_h378)), (9, (1, w88))]) rfl ?_
              refine r_iald hX hP rfl al_32 s91 (by first | decide | omega) (by first | decide | omega) (fun x92 x92e x92a x92b => ?_)
              refine r_ex hX hP 2 (pc' := 479) (st' := [(0, ((20 * l8_h378) + x92)), (2, (Ad E 73)), (0, ((20 * l8_h378) + x92)), (2, (Ad E 73))]) (lo' := [(0, (2, (Ad E 1))), (1, (0, e)), (2, (0, t)), (3, (0, i)), (4, (0, ch)), (5, (1, x5)), (7, (0, x7)), (8, (0, l8_h378)), (9, (1, w88))]) rfl ?_
              refine r_lald hX hP rfl al_73 s82 (by first | decide | omega) (by first | decide | omega) (fun x93 x93e x93a x93b => ?_)
              refine r_ex hX hP 2 (pc' := 483) (st' := [(1, (x93 + w88)), (0, ((20 * l8_h378) + x92)), (2, (Ad E 73))]) (lo' := [(0, (2, (Ad E 1))), (1, (0, e)), (2, (0, t)), (3, (0, i)), (4, (0, ch)), (5, (1, x5)), (7, (0, x7)), (8, (0, l8_h378)), (9, (1, w88))]) rfl ?_
              refine r_hvL hX (fun w94 w94a w94b w94e => ?_)
              refine r_lastK hX hP rfl al_73 s82 (by first | decide | omega) (by first | decide | omega) (by first | decide | omega) (by first | decide | omega) (fun h95 => ?_)
              refine r_ex hX hP 2 (pc' := 378) (st' := []) (lo' := [(0, (2, (Ad E 1))), (1, (0, e)), (2, (0, t)), (3, (0, i)), (4, (0, ch)), (5, (1, x5)), (7, (0, x7)), (8, (0, (l8_h378 + 1))), (9, (1, w88))]) rfl ?_
              refine r_pick hX [0, 1, 2, 3, 4, 5, 6, 7] (lo' := [(0, (2, (Ad E 1))), (1, (0, e)), (2, (0, t)), (3, (0, i)), (4, (0, ch)), (5, (1, x5)), (7, (0, x7)), (8, (0, (l8_h378 + 1)))]) rfl ?_
              refine r_eqG (X := X) (hq_up (hq_up (hq_base _ _ _ _) rfl) rfl) ?_
              exact ih378 (l8_h378 + 1) _ (by first | decide | omega) (by first | decide | omega) (by first | decide | omega)
            · skip
              refine r_ex hX hP 1 (pc' := 403) (st' := [(2, (Ad E 1))]) (lo' := [(0, (2, (Ad E 1))), (1, (0, e)), (2, (0, t)), (3, (0, i)), (4, (0, ch)), (5, (1, x5)), (7, (0, x7)), (8, (0, l8_h378))]) rfl ?_
              refine r_getC hX hP rfl fl_12_268 hS (fun s96 => ?_)
              refine r_ex hX hP 1 (pc' := 408) (st' := [(0, l8_h378), (2, (Ad E 81))]) (lo' := [(0, (2, (Ad E 1))), (1, (0, e)), (2, (0, t)), (3, (0, i)), (4, (0, ch)), (5, (1, x5)), (7, (0, x7)), (8, (0, l8_h378))]) rfl ?_
              refine r_lald hX hP rfl al_81 s96 (by first | decide | omega) (by first | decide | omega) (fun x97 x97e x97a x97b => ?_)
              refine r_ex hX hP 1 (pc' := 410) (st' := [(1, 0), (1, x97)]) (lo' := [(0, (2, (Ad E 1))), (1, (0, e)), (2, (0, t)), (3, (0, i)), (4, (0, ch)), (5, (1, x5)), (7, (0, x7)), (8, (0, l8_h378))]) rfl ?_
              refine r_lc_ne hX hP rfl rfl (tgt := 417) rfl (by first | decide | omega) (by first | decide | omega) (by first | decide | omega) (by first | decide | omega) (fun c98 => ?_) (fun c98 => ?_)
              · skip
                refine r_ex hX hP 1 (pc' := 418) (st' := [(2, (Ad E 1))]) (lo' := [(0, (2, (Ad E 1))), (1, (0, e)), (2, (0, t)), (3, (0, i)), (4, (0, ch)), (5, (1, x5)), (7, (0, x7)), (8, (0, l8_h378))]) rfl ?_
                refine r_getC hX hP rfl fl_12_244 hS (fun s99 => ?_)
                refine r_ex hX hP 5 (pc' := 429) (st' := [(0, ((20 * l8_h378) + x7)), (2, (Ad E 73))]) (lo' := [(0, (2, (Ad E 1))), (1, (0, e)), (2, (0, t)), (3, (0, i)), (4, (0, ch)), (5, (1, x5)), (7, (0, x7)), (8, (0, l8_h378))]) rfl ?_
                refine r_lald hX hP rfl al_73 s99 (by first | decide | omega) (by first | decide | omega) (fun x100 x100e x100a x100b => ?_)
                refine r_ex hX hP 1 (pc' := 431) (st' := [(2, (Ad E 1)), (1, x100)]) (lo' := [(0, (2, (Ad E 1))), (1, (0, e)), (2, (0, t)), (3, (0, i)), (4, (0, ch)), (5, (1, x5)), (7, (0, x7)), (8, (0, l8_h378))]) rfl ?_
                refine r_getC hX hP rfl fl_12_104 hS (fun s101 => ?_)
                refine r_ex hX hP 1 (pc' := 435) (st' := [(0, i), (2, (Ad E 30)), (1, x100)]) (lo' := [(0, (2, (Ad E 1))), (1, (0, e)), (2, (0, t)), (3, (0, i)), (4, (0, ch)), (5, (1, x5)), (7, (0, x7)), (8, (0, l8_h378))]) rfl ?_
                refine r_iald hX hP rfl al_30 s101 (by first | decide | omega) (by first | decide | omega) (fun x102 x102e x102a x102b => ?_)
                refine r_i2l hX hP rfl (by first | decide | omega) (by first | decide | omega) ?_
                refine r_ex hX hP 1 (pc' := 438) (st' := [(1, (x100 * x102))]) (lo' := [(0, (2, (Ad E 1))), (1, (0, e)), (2, (0, t)), (3, (0, i)), (4, (0, ch)), (5, (1, x5)), (7, (0, x7)), (8, (0, l8_h378))]) rfl ?_
                refine r_hvL hX (fun w103 w103a w103b w103e => ?_)
                refine r_ldc2 hX hP rfl (v := 1000) (tbg sg10 118 rfl rfl) ?_
                refine r_ldiv hX hP rfl (by first | decide | omega) (by first | decide | omega) (by first | decide | omega) (by first | decide | omega) (by first | decide | omega) ?_
                obtain ⟨q104, q104e⟩ : ∃ q : Int, q = (Int.tdiv w103 1000) := ⟨_, rfl⟩
                rw [← q104e]
                have q104b := td_gen q104e (by first | decide | omega)
                refine r_hvL hX (fun w105 w105a w105b w105e => ?_)
                refine r_ex hX hP 2 (pc' := 445) (st' := [(2, (Ad E 1))]) (lo' := [(0, (2, (Ad E 1))), (1, (0, e)), (2, (0, t)), (3, (0, i)), (4, (0, ch)), (5, (1, x5)), (7, (0, x7)), (8, (0, l8_h378)), (9, (1, w105))]) rfl ?_
                refine r_getC hX hP rfl fl_12_244 hS (fun _ => ?_)
                refine r_ex hX hP 6 (pc' := 457) (st' := [(0, ((20 * l8_h378) + x7)), (2, (Ad E 73)), (0, ((20 * l8_h378) + x7)), (2, (Ad E 73))]) (lo' := [(0, (2, (Ad E 1))), (1, (0, e)), (2, (0, t)), (3, (0, i)), (4, (0, ch)), (5, (1, x5)), (7, (0, x7)), (8, (0, l8_h378)), (9, (1, w105))]) rfl ?_
                refine r_laldK hX hP rfl al_73 s99 (by first | decide | omega) (by first | decide | omega) (x := x100) x100e ?_
                refine r_ex hX hP 2 (pc' := 461) (st' := [(1, (x100 - w105)), (0, ((20 * l8_h378) + x7)), (2, (Ad E 73))]) (lo' := [(0, (2, (Ad E 1))), (1, (0, e)), (2, (0, t)), (3, (0, i)), (4, (0, ch)), (5, (1, x5)), (7, (0, x7)), (8, (0, l8_h378)), (9, (1, w105))]) rfl ?_
                refine r_hvL hX (fun w106 w106a w106b w106e => ?_)
                refine r_lastK hX hP rfl al_73 s99 (by first | decide | omega) (by first | decide | omega) (by first | decide | omega) (by first | decide | omega) (fun h107 => ?_)
                refine r_ex hX hP 1 (pc' := 463) (st' := [(2, (Ad E 1))]) (lo' := [(0, (2, (Ad E 1))), (1, (0, e)), (2, (0, t)), (3, (0, i)), (4, (0, ch)), (5, (1, x5)), (7, (0, x7)), (8, (0, l8_h378)), (9, (1, w105))]) rfl ?_
                refine r_getC hX hP rfl fl_12_244 hS (fun _ => ?_)
                refine r_ex hX hP 4 (pc' := 472) (st' := [(2, (Ad E 1)), (0, (20 * l8_h378)), (2, (Ad E 73))]) (lo' := [(0, (2, (Ad E 1))), (1, (0, e)), (2, (0, t)), (3, (0, i)), (4, (0, ch)), (5, (1, x5)), (7, (0, x7)), (8, (0, l8_h378)), (9, (1, w105))]) rfl ?_
                refine r_getC hX hP rfl fl_12_110 hS (fun s108 => ?_)
                refine r_ex hX hP 1 (pc' := 476) (st' := [(0, i), (2, (Ad E 32)), (0, (20 * l8_h378)), (2, (Ad E 73))]) (lo' := [(0, (2, (Ad E 1))), (1, (0, e)), (2, (0, t)), (3, (0, i)), (4, (0, ch)), (5, (1, x5)), (7, (0, x7)), (8, (0, l8_h378)), (9, (1, w105))]) rfl ?_
                refine r_iald hX hP rfl al_32 s108 (by first | decide | omega) (by first | decide | omega) (fun x109 x109e x109a x109b => ?_)
                refine r_ex hX hP 2 (pc' := 479) (st' := [(0, ((20 * l8_h378) + x109)), (2, (Ad E 73)), (0, ((20 * l8_h378) + x109)), (2, (Ad E 73))]) (lo' := [(0, (2, (Ad E 1))), (1, (0, e)), (2, (0, t)), (3, (0, i)), (4, (0, ch)), (5, (1, x5)), (7, (0, x7)), (8, (0, l8_h378)), (9, (1, w105))]) rfl ?_
                refine r_lald hX hP rfl al_73 s99 (by first | decide | omega) (by first | decide | omega) (fun x110 x110e x110a x110b => ?_)
                refine r_ex hX hP 2 (pc' := 483) (st' := [(1, (x110 + w105)), (0, ((20 * l8_h378) + x109)), (2, (Ad E 73))]) (lo' := [(0, (2, (Ad E 1))), (1, (0, e)), (2, (0, t)), (3, (0, i)), (4, (0, ch)), (5, (1, x5)), (7, (0, x7)), (8, (0, l8_h378)), (9, (1, w105))]) rfl ?_
                refine r_hvL hX (fun w111 w111a w111b w111e => ?_)
                refine r_lastK hX hP rfl al_73 s99 (by first | decide | omega) (by first | decide | omega) (by first | decide | omega) (by first | decide | omega) (fun h112 => ?_)
                refine r_ex hX hP 2 (pc' := 378) (st' := []) (lo' := [(0, (2, (Ad E 1))), (1, (0, e)), (2, (0, t)), (3, (0, i)), (4, (0, ch)), (5, (1, x5)), (7, (0, x7)), (8, (0, (l8_h378 + 1))), (9, (1, w105))]) rfl ?_
                refine r_pick hX [0, 1, 2, 3, 4, 5, 6, 7] (lo' := [(0, (2, (Ad E 1))), (1, (0, e)), (2, (0, t)), (3, (0, i)), (4, (0, ch)), (5, (1, x5)), (7, (0, x7)), (8, (0, (l8_h378 + 1)))]) rfl ?_
                refine r_eqG (X := X) (hq_up (hq_up (hq_base _ _ _ _) rfl) rfl) ?_
                exact ih378 (l8_h378 + 1) _ (by first | decide | omega) (by first | decide | omega) (by first | decide | omega)
              · skip
                refine r_ex hX hP 3 (pc' := 378) (st' := []) (lo' := [(0, (2, (Ad E 1))), (1, (0, e)), (2, (0, t)), (3, (0, i)), (4, (0, ch)), (5, (1, x5)), (7, (0, x7)), (8, (0, (l8_h378 + 1)))]) rfl ?_
                refine r_eqG (X := X) (hq_base _ _ _ _) ?_
                exact ih378 (l8_h378 + 1) _ (by first | decide | omega) (by first | decide | omega) (by first | decide | omega)
    refine r_eqG (X := X) (hq_refl [] [73] _) ?_
    exact loop378 ((20 - 0) + 1 : Int).toNat 0 _ (by first | decide | omega) (by first | decide | omega) (by first | decide | omega)
  · skip
    refine r_tsIn hX hP rfl (tgt := 493) (off := 459) (by first | decide | omega) (by first | decide | omega) (by first | decide | omega) (by first | decide | omega) (by rw [cT]; rfl) rfl ?_
    refine r_ex hX hP 2 (pc' := 495) (st' := [(2, (Ad E 1)), (2, (Ad E 1))]) (lo' := [(0, (2, (Ad E 1))), (1, (0, e)), (2, (0, t)), (3, (0, i)), (4, (0, ch)), (5, (1, x5)), (7, (0, x7))]) rfl ?_
    refine r_getC hX hP rfl fl_12_104 hS (fun s113 => ?_)
    refine r_ex hX hP 1 (pc' := 499) (st' := [(0, i), (2, (Ad E 30)), (2, (Ad E 1))]) (lo' := [(0, (2, (Ad E 1))), (1, (0, e)), (2, (0, t)), (3, (0, i)), (4, (0, ch)), (5, (1, x5)), (7, (0, x7))]) rfl ?_
    refine r_iald hX hP rfl al_30 s113 (by first | decide | omega) (by first | decide | omega) (fun x114 x114e x114a x114b => ?_)
    refine r_putIK hX hP rfl fp_12_566 hS (by first | decide | omega) (by first | decide | omega) (fun h115 => ?_)
    refine r_ex hX hP 1 (pc' := 506) (st' := []) (lo' := [(0, (2, (Ad E 1))), (1, (0, e)), (2, (0, t)), (3, (0, i)), (4, (0, ch)), (5, (1, x5)), (7, (0, x7))]) rfl ?_
    exact r_retV hX hP rfl rfl (by first | decide | omega) (by first | decide | omega) ⟨rfl, ⟨_, (hq_up (hq_call (hq_call (hq_refl _ _ _) rfl) rfl) rfl).symm⟩, rfl, trivial⟩
set_option maxRecDepth 100000 in
set_option maxHeartbeats 4000000 in
theorem c_X12_does (E : En) (S : Sg) : ∀ (nR : Nat) (G : Gh) (e t fr to ch has : Int) (hS : S (Ad E 1) = 1) (events : Int) (events_e : events = G 1 (Ad E 1) 9) (cm : Int) (cm_e : cm = G 26 (Ad E 26) e) (e_a : 0 ≤ e) (e_b : e ≤ 15) (t_a : 0 ≤ t) (t_b : t ≤ 19) (fr_a : 0 ≤ fr) (fr_b : fr ≤ 30) (to_a : 0 ≤ to) (to_b : to ≤ 30) (ch_a : (-1) ≤ ch) (ch_b : ch ≤ 2) (has_a : (-9223372036854775808) ≤ has) (has_b : has ≤ 9223372036854775807) (pre0 : e < events) (pre1 : to ≤ cm) (mi : MI E G) (mR : 30 - fr < (nR : Int)), Calls E mX12_does [(2, (Ad E 1)), (0, e), (0, t), (0, fr), (0, to), (0, ch), (1, has)] S G (5 + nR) 0 0 (fun r S' G' => S = S' ∧ (∃ G1, hv [120] [73, 79, 80, 81, 82, 83, 84, 85, 88, 90, 91] G G1 = G') ∧ r = none ∧ True) := by
  intro nR
  induction nR with
  | zero => intro G e t fr to ch has hS events events_e cm cm_e e_a e_b t_a t_b fr_a fr_b to_a to_b ch_a ch_b has_a has_b pre0 pre1 mi mR; exfalso; omega
  | succ nR ihR =>
    intro G e t fr to ch has hS events events_e cm cm_e e_a e_b t_a t_b fr_a fr_b to_a to_b ch_a ch_b has_a has_b pre0 pre1 mi mR
    refine calls_by [(0, (2, (Ad E 1))), (1, (0, e)), (2, (0, t)), (3, (0, fr)), (4, (0, to)), (5, (0, ch)), (6, (1, has))] rfl rfl (Nat.le_of_ble_eq_true rfl) (fun X hX => ?_)
    have hP := hPX12_does
    refine r_peekI hX (tl1 9 rfl (by decide)) hS (fun events_o events_oe events_oa events_ob => ?_)
    obtain rfl : events = events_o := events_e.trans events_oe.symm
    refine r_labC hX (tl1 38 rfl (by decide)) hS (fun s1 => ?_)
    refine r_apeekI hX al_26 s1 (i := e) (by first | decide | omega) (by first | decide | omega) (fun cm_o cm_oe cm_oa cm_ob => ?_)
    obtain rfl : cm = cm_o := cm_e.trans cm_oe.symm
    refine r_ex hX hP 2 (pc' := 3) (st' := []) (lo' := [(0, (2, (Ad E 1))), (1, (0, e)), (2, (0, t)), (3, (0, fr)), (4, (0, to)), (5, (0, ch)), (6, (1, has)), (8, (0, fr))]) rfl ?_
    have loop3 : ∀ (nF : Nat) (l8_h3 : Int) (Gh3 : Gh), 0 ≤ l8_h3 → l8_h3 ≤ 30 → fr ≤ l8_h3 → 30 - l8_h3 < (nF : Int) → X 0 0 3 [] [(0, (2, (Ad E 1))), (1, (0, e)), (2, (0, t)), (3, (0, fr)), (4, (0, to)), (5, (0, ch)), (6, (1, has)), (8, (0, l8_h3))] S (hv [120] [73, 79, 80, 81, 82, 83, 84, 85, 88, 90, 91] G Gh3) := by
      intro nF
      induction nF with
      | zero => intro l8_h3 Gh3 yh3_0 yh3_1 yh3_2 ym3; exfalso; omega
      | succ nF ih3 =>
        intro l8_h3 Gh3 yh3_0 yh3_1 yh3_2 ym3
        refine r_ex hX hP 2 (pc' := 7) (st' := [(0, to), (0, l8_h3)]) (lo' := [(0, (2, (Ad E 1))), (1, (0, e)), (2, (0, t)), (3, (0, fr)), (4, (0, to)), (5, (0, ch)), (6, (1, has)), (8, (0, l8_h3))]) rfl ?_
        refine r_ic_ge hX hP rfl (tgt := 231) rfl (by first | decide | omega) (by first | decide | omega) (by first | decide | omega) (by first | decide | omega) (fun c2 => ?_) (fun c2 => ?_)
        · skip
          exact r_retV hX hP rfl rfl (by first | decide | omega) (by first | decide | omega) ⟨rfl, ⟨_, (hq_loop (hq_refl _ _ _) rfl).symm⟩, rfl, trivial⟩
        · skip
          refine r_ex hX hP 6 (pc' := 19) (st' := []) (lo' := [(0, (2, (Ad E 1))), (1, (0, e)), (2, (0, t)), (3, (0, fr)), (4, (0, to)), (5, (0, ch)), (6, (1, has)), (8, (0, l8_h3)), (9, (0, ((30 * e) + l8_h3)))]) rfl ?_
          refine r_labC hX (tl1 41 rfl (by decide)) hS (fun s3 => ?_)
          refine r_apeekI hX al_29 s3 (i := ((30 * e) + l8_h3)) (by first | decide | omega) (by first | decide | omega) (fun kik4 kik4e kik4a kik4b => ?_)
          refine r_labC hX (tl1 42 rfl (by decide)) hS (fun s5 => ?_)
          refine r_apeekI hX al_30 s5 (i := ((30 * e) + l8_h3)) (by first | decide | omega) (by first | decide | omega) (fun onk6 onk6e onk6a onk6b => ?_)
          refine r_labC hX (tl1 43 rfl (by decide)) hS (fun s7 => ?_)
          refine r_apeekI hX al_31 s7 (i := ((30 * e) + l8_h3)) (by first | decide | omega) (by first | decide | omega) (fun twk8 twk8e twk8a twk8b => ?_)
          refine r_labC hX (tl1 45 rfl (by decide)) hS (fun s9 => ?_)
          refine r_apeekI hX al_33 s9 (i := ((30 * e) + l8_h3)) (by first | decide | omega) (by first | decide | omega) (fun mik10 mik10e mik10a mik10b => ?_)
          refine r_labC hX (tl1 46 rfl (by decide)) hS (fun s11 => ?_)
          refine r_apeekI hX al_34 s11 (i := ((30 * e) + l8_h3)) (by first | decide | omega) (by first | decide | omega) (fun enk12 enk12e enk12a enk12b => ?_)
          have mi13 : MI E (hv [120] [73, 79, 80, 81, 82, 83, 84, 85, 88, 90, 91] G Gh3) := mi_keep mi rfl rfl rfl rfl rfl rfl (fun _ => rfl) (fun _ => rfl) (fun _ => rfl) (fun _ => rfl) (fun _ => rfl) (fun _ => rfl) (fun _ => rfl) (fun _ => rfl) (fun _ => rfl) (fun _ => rfl) (fun _ => rfl) (fun _ => rfl) (fun _ => rfl)
          have cl14 := mi_cls mi13 events_e cm_e kik4e onk6e twk8e mik10e enk12e (by first | decide | omega) (by first | decide | omega) (by first | decide | omega) (by first | decide | omega)
          refine r_ex hX hP 1 (pc' := 20) (st' := [(2, (Ad E 1))]) (lo' := [(0, (2, (Ad E 1))), (1, (0, e)), (2, (0, t)), (3, (0, fr)), (4, (0, to)), (5, (0, ch)), (6, (1, has)), (8, (0, l8_h3)), (9, (0, ((30 * e) + l8_h3)))]) rfl ?_
          refine r_getC hX hP rfl fl_12_101 hS (fun _ => ?_)
          refine r_ex hX hP 1 (pc' := 25) (st' := [(0, ((30 * e) + l8_h3)), (2, (Ad E 29))]) (lo' := [(0, (2, (Ad E 1))), (1, (0, e)), (2, (0, t)), (3, (0, fr)), (4, (0, to)), (5, (0, ch)), (6, (1, has)), (8, (0, l8_h3)), (9, (0, ((30 * e) + l8_h3)))]) rfl ?_
          refine r_ialdK hX hP rfl al_29 s3 (by first | decide | omega) (by first | decide | omega) (x := kik4) kik4e ?_
          refine r_ex hX hP 1 (pc' := 28) (st' := [(0, 6), (0, kik4)]) (lo' := [(0, (2, (Ad E 1))), (1, (0, e)), (2, (0, t)), (3, (0, fr)), (4, (0, to)), (5, (0, ch)), (6, (1, has)), (8, (0, l8_h3)), (9, (0, ((30 * e) + l8_h3)))]) rfl ?_
          refine r_ic_ne hX hP rfl (tgt := 140) rfl (by first | decide | omega) (by first | decide | omega) (by first | decide | omega) (by first | decide | omega) (fun c15 => ?_) (fun c15 => ?_)
          · skip
            refine r_ex hX hP 1 (pc' := 141) (st' := [(2, (Ad E 1))]) (lo' := [(0, (2, (Ad E 1))), (1, (0, e)), (2, (0, t)), (3, (0, fr)), (4, (0, to)), (5, (0, ch)), (6, (1, has)), (8, (0, l8_h3)), (9, (0, ((30 * e) + l8_h3)))]) rfl ?_
            refine r_getC hX hP rfl fl_12_101 hS (fun _ => ?_)
            refine r_ex hX hP 1 (pc' := 146) (st' := [(0, ((30 * e) + l8_h3)), (2, (Ad E 29))]) (lo' := [(0, (2, (Ad E 1))), (1, (0, e)), (2, (0, t)), (3, (0, fr)), (4, (0, to)), (5, (0, ch)), (6, (1, has)), (8, (0, l8_h3)), (9, (0, ((30 * e) + l8_h3)))]) rfl ?_
            refine r_ialdK hX hP rfl al_29 s3 (by first | decide | omega) (by first | decide | omega) (x := kik4) kik4e ?_
            refine r_ex hX hP 1 (pc' := 149) (st' := [(0, 7), (0, kik4)]) (lo' := [(0, (2, (Ad E 1))), (1, (0, e)), (2, (0, t)), (3, (0, fr)), (4, (0, to)), (5, (0, ch)), (6, (1, has)), (8, (0, l8_h3)), (9, (0, ((30 * e) + l8_h3)))]) rfl ?_
            refine r_ic_ne hX hP rfl (tgt := 209) rfl (by first | decide | omega) (by first | decide | omega) (by first | decide | omega) (by first | decide | omega) (fun c16 => ?_) (fun c16 => ?_)
            · skip
              refine r_ex hX hP 5 (pc' := 216) (st' := [(0, ch), (0, ((30 * e) + l8_h3)), (0, t), (0, e), (2, (Ad E 1))]) (lo' := [(0, (2, (Ad E 1))), (1, (0, e)), (2, (0, t)), (3, (0, fr)), (4, (0, to)), (5, (0, ch)), (6, (1, has)), (8, (0, l8_h3)), (9, (0, ((30 * e) + l8_h3)))]) rfl ?_
              refine r_callV gd hX hP rfl cv_12_585 hS (d' := 3) (mc' := 0) (ms' := 0) (as' := [(0, e), (0, t), (0, ((30 * e) + l8_h3)), (0, ch)]) (st := []) (by first | decide | omega) (by first | decide | omega) (by first | decide | omega) rfl rfl (Nat.le_of_ble_eq_true rfl) (c_X12_doesOne E S (hv [120] [73, 79, 80, 81, 82, 83, 84, 85, 88, 90, 91] G Gh3) e t ((30 * e) + l8_h3) ch hS twk8 twk8e (by first | decide | omega) (by first | decide | omega) (by first | decide | omega) (by first | decide | omega) (by first | decide | omega) (by first | decide | omega) (by first | decide | omega) (by first | decide | omega) (by first | decide | omega) mi13) ?_
              rintro _ _ _ ⟨rfl, ⟨G17, rfl⟩, rfl, -⟩
              refine r_ex hX hP 1 (pc' := 220) (st' := [(2, (Ad E 1))]) (lo' := [(0, (2, (Ad E 1))), (1, (0, e)), (2, (0, t)), (3, (0, fr)), (4, (0, to)), (5, (0, ch)), (6, (1, has)), (8, (0, l8_h3)), (9, (0, ((30 * e) + l8_h3)))]) rfl ?_
              refine r_getC hX hP rfl fl_12_116 hS (fun _ => ?_)
              refine r_ex hX hP 1 (pc' := 225) (st' := [(0, ((30 * e) + l8_h3)), (2, (Ad E 34))]) (lo' := [(0, (2, (Ad E 1))), (1, (0, e)), (2, (0, t)), (3, (0, fr)), (4, (0, to)), (5, (0, ch)), (6, (1, has)), (8, (0, l8_h3)), (9, (0, ((30 * e) + l8_h3)))]) rfl ?_
              refine r_ialdK hX hP rfl al_34 s11 (by first | decide | omega) (by first | decide | omega) (x := enk12) enk12e ?_
              refine r_ex hX hP 2 (pc' := 3) (st' := []) (lo' := [(0, (2, (Ad E 1))), (1, (0, e)), (2, (0, t)), (3, (0, fr)), (4, (0, to)), (5, (0, ch)), (6, (1, has)), (8, (0, enk12)), (9, (0, ((30 * e) + l8_h3)))]) rfl ?_
              refine r_pick hX [0, 1, 2, 3, 4, 5, 6, 7] (lo' := [(0, (2, (Ad E 1))), (1, (0, e)), (2, (0, t)), (3, (0, fr)), (4, (0, to)), (5, (0, ch)), (6, (1, has)), (8, (0, enk12))]) rfl ?_
              refine r_eqG (X := X) (hq_call (hq_base _ _ _ _) rfl) ?_
              exact ih3 enk12 _ (by first | decide | omega) (by first | decide | omega) (by first | decide | omega) (by first | decide | omega)
            · skip
              refine r_ex hX hP 3 (pc' := 155) (st' := [(2, (Ad E 1)), (0, e), (2, (Ad E 1))]) (lo' := [(0, (2, (Ad E 1))), (1, (0, e)), (2, (0, t)), (3, (0, fr)), (4, (0, to)), (5, (0, ch)), (6, (1, has)), (8, (0, l8_h3)), (9, (0, ((30 * e) + l8_h3)))]) rfl ?_
              refine r_getC hX hP rfl fl_12_104 hS (fun _ => ?_)
              refine r_ex hX hP 1 (pc' := 160) (st' := [(0, ((30 * e) + l8_h3)), (2, (Ad E 30)), (0, e), (2, (Ad E 1))]) (lo' := [(0, (2, (Ad E 1))), (1, (0, e)), (2, (0, t)), (3, (0, fr)), (4, (0, to)), (5, (0, ch)), (6, (1, has)), (8, (0, l8_h3)), (9, (0, ((30 * e) + l8_h3)))]) rfl ?_
              refine r_ialdK hX hP rfl al_30 s5 (by first | decide | omega) (by first | decide | omega) (x := onk6) onk6e ?_
              refine r_ex hX hP 1 (pc' := 162) (st' := [(0, t), (0, onk6), (0, e), (2, (Ad E 1))]) (lo' := [(0, (2, (Ad E 1))), (1, (0, e)), (2, (0, t)), (3, (0, fr)), (4, (0, to)), (5, (0, ch)), (6, (1, has)), (8, (0, l8_h3)), (9, (0, ((30 * e) + l8_h3)))]) rfl ?_
              refine r_callV gd hX hP rfl cv_12_577 hS (d' := 1) (mc' := 0) (ms' := 0) (as' := [(0, e), (0, onk6), (0, t)]) (st := []) (by first | decide | omega) (by first | decide | omega) (by first | decide | omega) rfl rfl (Nat.le_of_ble_eq_true rfl) (c_X12_lay_ E S (hv [120] [73, 79, 80, 81, 82, 83, 84, 85, 88, 90, 91] G Gh3) e onk6 t hS (by first | decide | omega) (by first | decide | omega) (by first | decide | omega) (by first | decide | omega) (by first | decide | omega) (by first | decide | omega) mi13) ?_
              rintro _ _ _ ⟨rfl, ⟨G18, rfl⟩, rfl, -⟩
              refine r_ex hX hP 1 (pc' := 166) (st' := [(2, (Ad E 1))]) (lo' := [(0, (2, (Ad E 1))), (1, (0, e)), (2, (0, t)), (3, (0, fr)), (4, (0, to)), (5, (0, ch)), (6, (1, has)), (8, (0, l8_h3)), (9, (0, ((30 * e) + l8_h3)))]) rfl ?_
              refine r_callV gd hX hP rfl cv_12_521 hS (d' := 0) (mc' := 0) (ms' := 0) (as' := []) (st := []) (by first | decide | omega) (by first | decide | omega) (by first | decide | omega) rfl rfl (Nat.le_of_ble_eq_true rfl) (c_X12_sumUp E S (hv [] [81] (hv [120] [73, 79, 80, 81, 82, 83, 84, 85, 88, 90, 91] G Gh3) G18)  hS) ?_
              rintro _ _ _ ⟨rfl, ⟨G19, rfl⟩, rfl, -⟩
              refine r_ex hX hP 1 (pc' := 170) (st' := [(2, (Ad E 1))]) (lo' := [(0, (2, (Ad E 1))), (1, (0, e)), (2, (0, t)), (3, (0, fr)), (4, (0, to)), (5, (0, ch)), (6, (1, has)), (8, (0, l8_h3)), (9, (0, ((30 * e) + l8_h3)))]) rfl ?_
              refine r_getC hX hP rfl fl_12_277 hS (fun s20 => ?_)
              refine r_ex hX hP 1 (pc' := 174) (st' := [(0, t), (2, (Ad E 84))]) (lo' := [(0, (2, (Ad E 1))), (1, (0, e)), (2, (0, t)), (3, (0, fr)), (4, (0, to)), (5, (0, ch)), (6, (1, has)), (8, (0, l8_h3)), (9, (0, ((30 * e) + l8_h3)))]) rfl ?_
              refine r_lald hX hP rfl al_84 s20 (by first | decide | omega) (by first | decide | omega) (fun x21 x21e x21a x21b => ?_)
              refine r_ex hX hP 1 (pc' := 176) (st' := [(1, 0), (1, x21)]) (lo' := [(0, (2, (Ad E 1))), (1, (0, e)), (2, (0, t)), (3, (0, fr)), (4, (0, to)), (5, (0, ch)), (6, (1, has)), (8, (0, l8_h3)), (9, (0, ((30 * e) + l8_h3)))]) rfl ?_
              refine r_lc_le hX hP rfl rfl (tgt := 219) rfl (by first | decide | omega) (by first | decide | omega) (by first | decide | omega) (by first | decide | omega) (fun c22 => ?_) (fun c22 => ?_)
              · skip
                refine r_ex hX hP 1 (pc' := 220) (st' := [(2, (Ad E 1))]) (lo' := [(0, (2, (Ad E 1))), (1, (0, e)), (2, (0, t)), (3, (0, fr)), (4, (0, to)), (5, (0, ch)), (6, (1, has)), (8, (0, l8_h3)), (9, (0, ((30 * e) + l8_h3)))]) rfl ?_
                refine r_getC hX hP rfl fl_12_116 hS (fun _ => ?_)
                refine r_ex hX hP 1 (pc' := 225) (st' := [(0, ((30 * e) + l8_h3)), (2, (Ad E 34))]) (lo' := [(0, (2, (Ad E 1))), (1, (0, e)), (2, (0, t)), (3, (0, fr)), (4, (0, to)), (5, (0, ch)), (6, (1, has)), (8, (0, l8_h3)), (9, (0, ((30 * e) + l8_h3)))]) rfl ?_
                refine r_ialdK hX hP rfl al_34 s11 (by first | decide | omega) (by first | decide | omega) (x := enk12) enk12e ?_
                refine r_ex hX hP 2 (pc' := 3) (st' := []) (lo' := [(0, (2, (Ad E 1))), (1, (0, e)), (2, (0, t)), (3, (0, fr)), (4, (0, to)), (5, (0, ch)), (6, (1, has)), (8, (0, enk12)), (9, (0, ((30 * e) + l8_h3)))]) rfl ?_
                refine r_pick hX [0, 1, 2, 3, 4, 5, 6, 7] (lo' := [(0, (2, (Ad E 1))), (1, (0, e)), (2, (0, t)), (3, (0, fr)), (4, (0, to)), (5, (0, ch)), (6, (1, has)), (8, (0, enk12))]) rfl ?_
                refine r_eqG (X := X) (hq_call (hq_call (hq_base _ _ _ _) rfl) rfl) ?_
                exact ih3 enk12 _ (by first | decide | omega) (by first | decide | omega) (by first | decide | omega) (by first | decide | omega)
              · skip
                refine r_ex hX hP 7 (pc' := 188) (st' := [(2, (Ad E 1)), (0, (l8_h3 + 1)), (0, t), (0, e), (2, (Ad E 1))]) (lo' := [(0, (2, (Ad E 1))), (1, (0, e)), (2, (0, t)), (3, (0, fr)), (4, (0, to)), (5, (0, ch)), (6, (1, has)), (8, (0, l8_h3)), (9, (0, ((30 * e) + l8_h3)))]) rfl ?_
                refine r_getC hX hP rfl fl_12_116 hS (fun _ => ?_)
                refine r_ex hX hP 1 (pc' := 193) (st' := [(0, ((30 * e) + l8_h3)), (2, (Ad E 34)), (0, (l8_h3 + 1)), (0, t), (0, e), (2, (Ad E 1))]) (lo' := [(0, (2, (Ad E 1))), (1, (0, e)), (2, (0, t)), (3, (0, fr)), (4, (0, to)), (5, (0, ch)), (6, (1, has)), (8, (0, l8_h3)), (9, (0, ((30 * e) + l8_h3)))]) rfl ?_
                refine r_ialdK hX hP rfl al_34 s11 (by first | decide | omega) (by first | decide | omega) (x := enk12) enk12e ?_
                refine r_ex hX hP 1 (pc' := 195) (st' := [(2, (Ad E 1)), (0, enk12), (0, (l8_h3 + 1)), (0, t), (0, e), (2, (Ad E 1))]) (lo' := [(0, (2, (Ad E 1))), (1, (0, e)), (2, (0, t)), (3, (0, fr)), (4, (0, to)), (5, (0, ch)), (6, (1, has)), (8, (0, l8_h3)), (9, (0, ((30 * e) + l8_h3)))]) rfl ?_
                refine r_getC hX hP rfl fl_12_104 hS (fun _ => ?_)
                refine r_ex hX hP 1 (pc' := 200) (st' := [(0, ((30 * e) + l8_h3)), (2, (Ad E 30)), (0, enk12), (0, (l8_h3 + 1)), (0, t), (0, e), (2, (Ad E 1))]) (lo' := [(0, (2, (Ad E 1))), (1, (0, e)), (2, (0, t)), (3, (0, fr)), (4, (0, to)), (5, (0, ch)), (6, (1, has)), (8, (0, l8_h3)), (9, (0, ((30 * e) + l8_h3)))]) rfl ?_
                refine r_ialdK hX hP rfl al_30 s5 (by first | decide | omega) (by first | decide | omega) (x := onk6) onk6e ?_
                refine r_ex hX hP 1 (pc' := 203) (st' := [(1, has), (0, onk6), (0, enk12), (0, (l8_h3 + 1)), (0, t), (0, e), (2, (Ad E 1))]) (lo' := [(0, (2, (Ad E 1))), (1, (0, e)), (2, (0, t)), (3, (0, fr)), (4, (0, to)), (5, (0, ch)), (6, (1, has)), (8, (0, l8_h3)), (9, (0, ((30 * e) + l8_h3)))]) rfl ?_
                have mi23 : MI E (hv [] [84] (hv [] [81] (hv [120] [73, 79, 80, 81, 82, 83, 84, 85, 88, 90, 91] G Gh3) G18) G19) := mi_keep mi13 rfl rfl rfl rfl rfl rfl (fun _ => rfl) (fun _ => rfl) (fun _ => rfl) (fun _ => rfl) (fun _ => rfl) (fun _ => rfl) (fun _ => rfl) (fun _ => rfl) (fun _ => rfl) (fun _ => rfl) (fun _ => rfl) (fun _ => rfl) (fun _ => rfl)
                refine r_callV gd hX hP rfl cv_12_573 hS (d' := 5 + nR) (mc' := 0) (ms' := 0) (as' := [(0, e), (0, t), (0, (l8_h3 + 1)), (0, enk12), (0, onk6), (1, has)]) (st := []) (by first | decide | omega) (by first | decide | omega) (by first | decide | omega) rfl rfl (Nat.le_of_ble_eq_true rfl) (ihR (hv [] [84] (hv [] [81] (hv [120] [73, 79, 80, 81, 82, 83, 84, 85, 88, 90, 91] G Gh3) G18) G19) e t (l8_h3 + 1) enk12 onk6 has hS events events_e cm cm_e (by first | decide | omega) (by first | decide | omega) (by first | decide | omega) (by first | decide | omega) (by first | decide | omega) (by first | decide | omega) (by first | decide | omega) (by first | decide | omega) (by first | decide | omega) (by first | decide | omega) (by first | decide | omega) (by first | decide | omega) (by first | decide | omega) (by first | decide | omega) mi23 (by first | decide | omega)) ?_
                rintro _ _ _ ⟨rfl, ⟨G24, rfl⟩, rfl, -⟩
                refine r_ex hX hP 2 (pc' := 220) (st' := [(2, (Ad E 1))]) (lo' := [(0, (2, (Ad E 1))), (1, (0, e)), (2, (0, t)), (3, (0, fr)), (4, (0, to)), (5, (0, ch)), (6, (1, has)), (8, (0, l8_h3)), (9, (0, ((30 * e) + l8_h3)))]) rfl ?_
                refine r_getC hX hP rfl fl_12_116 hS (fun _ => ?_)
                refine r_ex hX hP 1 (pc' := 225) (st' := [(0, ((30 * e) + l8_h3)), (2, (Ad E 34))]) (lo' := [(0, (2, (Ad E 1))), (1, (0, e)), (2, (0, t)), (3, (0, fr)), (4, (0, to)), (5, (0, ch)), (6, (1, has)), (8, (0, l8_h3)), (9, (0, ((30 * e) + l8_h3)))]) rfl ?_
                refine r_ialdK hX hP rfl al_34 s11 (by first | decide | omega) (by first | decide | omega) (x := enk12) enk12e ?_
                refine r_ex hX hP 2 (pc' := 3) (st' := []) (lo' := [(0, (2, (Ad E 1))), (1, (0, e)), (2, (0, t)), (3, (0, fr)), (4, (0, to)), (5, (0, ch)), (6, (1, has)), (8, (0, enk12)), (9, (0, ((30 * e) + l8_h3)))]) rfl ?_
                refine r_pick hX [0, 1, 2, 3, 4, 5, 6, 7] (lo' := [(0, (2, (Ad E 1))), (1, (0, e)), (2, (0, t)), (3, (0, fr)), (4, (0, to)), (5, (0, ch)), (6, (1, has)), (8, (0, enk12))]) rfl ?_
                refine r_eqG (X := X) (hq_call (hq_call (hq_call (hq_base _ _ _ _) rfl) rfl) rfl) ?_
                exact ih3 enk12 _ (by first | decide | omega) (by first | decide | omega) (by first | decide | omega) (by first | decide | omega)
          · skip
            have j82 : ∀ (k0_j82 : Int), 0 ≤ k0_j82 → k0_j82 ≤ 1 → X 0 0 82 [(0, k0_j82)] [(0, (2, (Ad E 1))), (1, (0, e)), (2, (0, t)), (3, (0, fr)), (4, (0, to)), (5, (0, ch)), (6, (1, has)), (8, (0, l8_h3)), (9, (0, ((30 * e) + l8_h3)))] S (hv [120] [73, 79, 80, 81, 82, 83, 84, 85, 88, 90, 91] G Gh3) := by
              intro k0_j82 yj82_0 yj82_1
              refine r_ex hX hP 2 (pc' := 86) (st' := [(0, k0_j82)]) (lo' := [(0, (2, (Ad E 1))), (1, (0, e)), (2, (0, t)), (3, (0, fr)), (4, (0, to)), (5, (0, ch)), (6, (1, has)), (8, (0, l8_h3)), (9, (0, ((30 * e) + l8_h3))), (10, (0, k0_j82))]) rfl ?_
              refine r_if_eq hX hP rfl (tgt := 113) rfl (by first | decide | omega) (by first | decide | omega) (fun c25 => ?_) (fun c25 => ?_)
              · skip
                refine r_ex hX hP 4 (pc' := 117) (st' := [(2, (Ad E 1)), (0, t), (0, e), (2, (Ad E 1))]) (lo' := [(0, (2, (Ad E 1))), (1, (0, e)), (2, (0, t)), (3, (0, fr)), (4, (0, to)), (5, (0, ch)), (6, (1, has)), (8, (0, l8_h3)), (9, (0, ((30 * e) + l8_h3))), (10, (0, k0_j82))]) rfl ?_
                refine r_getC hX hP rfl fl_12_113 hS (fun _ => ?_)
                refine r_ex hX hP 1 (pc' := 122) (st' := [(0, ((30 * e) + l8_h3)), (2, (Ad E 33)), (0, t), (0, e), (2, (Ad E 1))]) (lo' := [(0, (2, (Ad E 1))), (1, (0, e)), (2, (0, t)), (3, (0, fr)), (4, (0, to)), (5, (0, ch)), (6, (1, has)), (8, (0, l8_h3)), (9, (0, ((30 * e) + l8_h3))), (10, (0, k0_j82))]) rfl ?_
                refine r_ialdK hX hP rfl al_33 s9 (by first | decide | omega) (by first | decide | omega) (x := mik10) mik10e ?_
                refine r_ex hX hP 1 (pc' := 124) (st' := [(2, (Ad E 1)), (0, mik10), (0, t), (0, e), (2, (Ad E 1))]) (lo' := [(0, (2, (Ad E 1))), (1, (0, e)), (2, (0, t)), (3, (0, fr)), (4, (0, to)), (5, (0, ch)), (6, (1, has)), (8, (0, l8_h3)), (9, (0, ((30 * e) + l8_h3))), (10, (0, k0_j82))]) rfl ?_
                refine r_getC hX hP rfl fl_12_116 hS (fun _ => ?_)
                refine r_ex hX hP 1 (pc' := 129) (st' := [(0, ((30 * e) + l8_h3)), (2, (Ad E 34)), (0, mik10), (0, t), (0, e), (2, (Ad E 1))]) (lo' := [(0, (2, (Ad E 1))), (1, (0, e)), (2, (0, t)), (3, (0, fr)), (4, (0, to)), (5, (0, ch)), (6, (1, has)), (8, (0, l8_h3)), (9, (0, ((30 * e) + l8_h3))), (10, (0, k0_j82))]) rfl ?_
                refine r_ialdK hX hP rfl al_34 s11 (by first | decide | omega) (by first | decide | omega) (x := enk12) enk12e ?_
                refine r_ex hX hP 2 (pc' := 134) (st' := [(1, has), (0, ch), (0, enk12), (0, mik10), (0, t), (0, e), (2, (Ad E 1))]) (lo' := [(0, (2, (Ad E 1))), (1, (0, e)), (2, (0, t)), (3, (0, fr)), (4, (0, to)), (5, (0, ch)), (6, (1, has)), (8, (0, l8_h3)), (9, (0, ((30 * e) + l8_h3))), (10, (0, k0_j82))]) rfl ?_
                refine r_callV gd hX hP rfl cv_12_573 hS (d' := 5 + nR) (mc' := 0) (ms' := 0) (as' := [(0, e), (0, t), (0, mik10), (0, enk12), (0, ch), (1, has)]) (st := []) (by first | decide | omega) (by first | decide | omega) (by first | decide | omega) rfl rfl (Nat.le_of_ble_eq_true rfl) (ihR (hv [120] [73, 79, 80, 81, 82, 83, 84, 85, 88, 90, 91] G Gh3) e t mik10 enk12 ch has hS events events_e cm cm_e (by first | decide | omega) (by first | decide | omega) (by first | decide | omega) (by first | decide | omega) (by first | decide | omega) (by first | decide | omega) (by first | decide | omega) (by first | decide | omega) (by first | decide | omega) (by first | decide | omega) (by first | decide | omega) (by first | decide | omega) (by first | decide | omega) (by first | decide | omega) mi13 (by first | decide | omega)) ?_
                rintro _ _ _ ⟨rfl, ⟨G26, rfl⟩, rfl, -⟩
                refine r_ex hX hP 2 (pc' := 220) (st' := [(2, (Ad E 1))]) (lo' := [(0, (2, (Ad E 1))), (1, (0, e)), (2, (0, t)), (3, (0, fr)), (4, (0, to)), (5, (0, ch)), (6, (1, has)), (8, (0, l8_h3)), (9, (0, ((30 * e) + l8_h3))), (10, (0, k0_j82))]) rfl ?_
                refine r_getC hX hP rfl fl_12_116 hS (fun _ => ?_)
                refine r_ex hX hP 1 (pc' := 225) (st' := [(0, ((30 * e) + l8_h3)), (2, (Ad E 34))]) (lo' := [(0, (2, (Ad E 1))), (1, (0, e)), (2, (0, t)), (3, (0, fr)), (4, (0, to)), (5, (0, ch)), (6, (1, has)), (8, (0, l8_h3)), (9, (0, ((30 * e) + l8_h3))), (10, (0, k0_j82))]) rfl ?_
                refine r_ialdK hX hP rfl al_34 s11 (by first | decide | omega) (by first | decide | omega) (x := enk12) enk12e ?_
                refine r_ex hX hP 2 (pc' := 3) (st' := []) (lo' := [(0, (2, (Ad E 1))), (1, (0, e)), (2, (0, t)), (3, (0, fr)), (4, (0, to)), (5, (0, ch)), (6, (1, has)), (8, (0, enk12)), (9, (0, ((30 * e) + l8_h3))), (10, (0, k0_j82))]) rfl ?_
                refine r_pick hX [0, 1, 2, 3, 4, 5, 6, 7] (lo' := [(0, (2, (Ad E 1))), (1, (0, e)), (2, (0, t)), (3, (0, fr)), (4, (0, to)), (5, (0, ch)), (6, (1, has)), (8, (0, enk12))]) rfl ?_
                refine r_eqG (X := X) (hq_call (hq_base _ _ _ _) rfl) ?_
                exact ih3 enk12 _ (by first | decide | omega) (by first | decide | omega) (by first | decide | omega) (by first | decide | omega)
              · skip
                refine r_ex hX hP 7 (pc' := 97) (st' := [(2, (Ad E 1)), (0, (l8_h3 + 1)), (0, t), (0, e), (2, (Ad E 1))]) (lo' := [(0, (2, (Ad E 1))), (1, (0, e)), (2, (0, t)), (3, (0, fr)), (4, (0, to)), (5, (0, ch)), (6, (1, has)), (8, (0, l8_h3)), (9, (0, ((30 * e) + l8_h3))), (10, (0, k0_j82))]) rfl ?_
                refine r_getC hX hP rfl fl_12_113 hS (fun _ => ?_)
                refine r_ex hX hP 1 (pc' := 102) (st' := [(0, ((30 * e) + l8_h3)), (2, (Ad E 33)), (0, (l8_h3 + 1)), (0, t), (0, e), (2, (Ad E 1))]) (lo' := [(0, (2, (Ad E 1))), (1, (0, e)), (2, (0, t)), (3, (0, fr)), (4, (0, to)), (5, (0, ch)), (6, (1, has)), (8, (0, l8_h3)), (9, (0, ((30 * e) + l8_h3))), (10, (0, k0_j82))]) rfl ?_
                refine r_ialdK hX hP rfl al_33 s9 (by first | decide | omega) (by first | decide | omega) (x := mik10) mik10e ?_
                refine r_ex hX hP 2 (pc' := 107) (st' := [(1, has), (0, ch), (0, mik10), (0, (l8_h3 + 1)), (0, t), (0, e), (2, (Ad E 1))]) (lo' := [(0, (2, (Ad E 1))), (1, (0, e)), (2, (0, t)), (3, (0, fr)), (4, (0, to)), (5, (0, ch)), (6, (1, has)), (8, (0, l8_h3)), (9, (0, ((30 * e) + l8_h3))), (10, (0, k0_j82))]) rfl ?_
                refine r_callV gd hX hP rfl cv_12_573 hS (d' := 5 + nR) (mc' := 0) (ms' := 0) (as' := [(0, e), (0, t), (0, (l8_h3 + 1)), (0, mik10), (0, ch), (1, has)]) (st := []) (by first | decide | omega) (by first | decide | omega) (by first | decide | omega) rfl rfl (Nat.le_of_ble_eq_true rfl) (ihR (hv [120] [73, 79, 80, 81, 82, 83, 84, 85, 88, 90, 91] G Gh3) e t (l8_h3 + 1) mik10 ch has hS events events_e cm cm_e (by first | decide | omega) (by first | decide | omega) (by first | decide | omega) (by first | decide | omega) (by first | decide | omega) (by first | decide | omega) (by first | decide | omega) (by first | decide | omega) (by first | decide | omega) (by first | decide | omega) (by first | decide | omega) (by first | decide | omega) (by first | decide | omega) (by first | decide | omega) mi13 (by first | decide | omega)) ?_
                rintro _ _ _ ⟨rfl, ⟨G27, rfl⟩, rfl, -⟩
                refine r_ex hX hP 3 (pc' := 220) (st' := [(2, (Ad E 1))]) (lo' := [(0, (2, (Ad E 1))), (1, (0, e)), (2, (0, t)), (3, (0, fr)), (4, (0, to)), (5, (0, ch)), (6, (1, has)), (8, (0, l8_h3)), (9, (0, ((30 * e) + l8_h3))), (10, (0, k0_j82))]) rfl ?_
                refine r_getC hX hP rfl fl_12_116 hS (fun _ => ?_)
                refine r_ex hX hP 1 (pc' := 225) (st' := [(0, ((30 * e) + l8_h3)), (2, (Ad E 34))]) (lo' := [(0, (2, (Ad E 1))), (1, (0, e)), (2, (0, t)), (3, (0, fr)), (4, (0, to)), (5, (0, ch)), (6, (1, has)), (8, (0, l8_h3)), (9, (0, ((30 * e) + l8_h3))), (10, (0, k0_j82))]) rfl ?_
                refine r_ialdK hX hP rfl al_34 s11 (by first | decide | omega) (by first | decide | omega) (x := enk12) enk12e ?_
                refine r_ex hX hP 2 (pc' := 3) (st' := []) (lo' := [(0, (2, (Ad E 1))), (1, (0, e)), (2, (0, t)), (3, (0, fr)), (4, (0, to)), (5, (0, ch)), (6, (1, has)), (8, (0, enk12)), (9, (0, ((30 * e) + l8_h3))), (10, (0, k0_j82))]) rfl ?_
                refine r_pick hX [0, 1, 2, 3, 4, 5, 6, 7] (lo' := [(0, (2, (Ad E 1))), (1, (0, e)), (2, (0, t)), (3, (0, fr)), (4, (0, to)), (5, (0, ch)), (6, (1, has)), (8, (0, enk12))]) rfl ?_
                refine r_eqG (X := X) (hq_call (hq_base _ _ _ _) rfl) ?_
                exact ih3 enk12 _ (by first | decide | omega) (by first | decide | omega) (by first | decide | omega) (by first | decide | omega)
            refine r_ex hX hP 1 (pc' := 32) (st' := [(2, (Ad E 1))]) (lo' := [(0, (2, (Ad E 1))), (1, (0, e)), (2, (0, t)), (3, (0, fr)), (4, (0, to)), (5, (0, ch)), (6, (1, has)), (8, (0, l8_h3)), (9, (0, ((30 * e) + l8_h3)))]) rfl ?_
            refine r_getC hX hP rfl fl_12_107 hS (fun _ => ?_)
            refine r_ex hX hP 1 (pc' := 37) (st' := [(0, ((30 * e) + l8_h3)), (2, (Ad E 31))]) (lo' := [(0, (2, (Ad E 1))), (1, (0, e)), (2, (0, t)), (3, (0, fr)), (4, (0, to)), (5, (0, ch)), (6, (1, has)), (8, (0, l8_h3)), (9, (0, ((30 * e) + l8_h3)))]) rfl ?_
            refine r_ialdK hX hP rfl al_31 s7 (by first | decide | omega) (by first | decide | omega) (x := twk8) twk8e ?_
            refine r_if_ne hX hP rfl (tgt := 63) rfl (by first | decide | omega) (by first | decide | omega) (fun c28 => ?_) (fun c28 => ?_)
            · skip
              refine r_ex hX hP 2 (pc' := 66) (st' := [(2, (Ad E 1)), (1, has)]) (lo' := [(0, (2, (Ad E 1))), (1, (0, e)), (2, (0, t)), (3, (0, fr)), (4, (0, to)), (5, (0, ch)), (6, (1, has)), (8, (0, l8_h3)), (9, (0, ((30 * e) + l8_h3)))]) rfl ?_
              refine r_getC hX hP rfl fl_12_104 hS (fun _ => ?_)
              refine r_ex hX hP 1 (pc' := 71) (st' := [(0, ((30 * e) + l8_h3)), (2, (Ad E 30)), (1, has)]) (lo' := [(0, (2, (Ad E 1))), (1, (0, e)), (2, (0, t)), (3, (0, fr)), (4, (0, to)), (5, (0, ch)), (6, (1, has)), (8, (0, l8_h3)), (9, (0, ((30 * e) + l8_h3)))]) rfl ?_
              refine r_ialdK hX hP rfl al_30 s5 (by first | decide | omega) (by first | decide | omega) (x := onk6) onk6e ?_
              refine r_i2l hX hP rfl (by first | decide | omega) (by first | decide | omega) ?_
              refine r_lc_le hX hP rfl rfl (tgt := 81) rfl (by first | decide | omega) (by first | decide | omega) (by first | decide | omega) (by first | decide | omega) (fun c29 => ?_) (fun c29 => ?_)
              · skip
                refine r_ex hX hP 1 (pc' := 82) (st' := [(0, 0)]) (lo' := [(0, (2, (Ad E 1))), (1, (0, e)), (2, (0, t)), (3, (0, fr)), (4, (0, to)), (5, (0, ch)), (6, (1, has)), (8, (0, l8_h3)), (9, (0, ((30 * e) + l8_h3)))]) rfl ?_
                exact j82 0 (by first | decide | omega) (by first | decide | omega)
              · skip
                refine r_ex hX hP 2 (pc' := 82) (st' := [(0, 1)]) (lo' := [(0, (2, (Ad E 1))), (1, (0, e)), (2, (0, t)), (3, (0, fr)), (4, (0, to)), (5, (0, ch)), (6, (1, has)), (8, (0, l8_h3)), (9, (0, ((30 * e) + l8_h3)))]) rfl ?_
                exact j82 1 (by first | decide | omega) (by first | decide | omega)
            · skip
              refine r_ex hX hP 2 (pc' := 44) (st' := [(2, (Ad E 1)), (1, has)]) (lo' := [(0, (2, (Ad E 1))), (1, (0, e)), (2, (0, t)), (3, (0, fr)), (4, (0, to)), (5, (0, ch)), (6, (1, has)), (8, (0, l8_h3)), (9, (0, ((30 * e) + l8_h3)))]) rfl ?_
              refine r_getC hX hP rfl fl_12_104 hS (fun _ => ?_)
              refine r_ex hX hP 1 (pc' := 49) (st' := [(0, ((30 * e) + l8_h3)), (2, (Ad E 30)), (1, has)]) (lo' := [(0, (2, (Ad E 1))), (1, (0, e)), (2, (0, t)), (3, (0, fr)), (4, (0, to)), (5, (0, ch)), (6, (1, has)), (8, (0, l8_h3)), (9, (0, ((30 * e) + l8_h3)))]) rfl ?_
              refine r_ialdK hX hP rfl al_30 s5 (by first | decide | omega) (by first | decide | omega) (x := onk6) onk6e ?_
              refine r_i2l hX hP rfl (by first | decide | omega) (by first | decide | omega) ?_
              refine r_lc_ge hX hP rfl rfl (tgt := 59) rfl (by first | decide | omega) (by first | decide | omega) (by first | decide | omega) (by first | decide | omega) (fun c30 => ?_) (fun c30 => ?_)
              · skip
                refine r_ex hX hP 2 (pc' := 82) (st' := [(0, 0)]) (lo' := [(0, (2, (Ad E 1))), (1, (0, e)), (2, (0, t)), (3, (0, fr)), (4, (0, to)), (5, (0, ch)), (6, (1, has)), (8, (0, l8_h3)), (9, (0, ((30 * e) + l8_h3)))]) rfl ?_
                exact j82 0 (by first | decide | omega) (by first | decide | omega)
              · skip
                refine r_ex hX hP 2 (pc' := 82) (st' := [(0, 1)]) (lo' := [(0, (2, (Ad E 1))), (1, (0, e)), (2, (0, t)), (3, (0, fr)), (4, (0, to)), (5, (0, ch)), (6, (1, has)), (8, (0, l8_h3)), (9, (0, ((30 * e) + l8_h3)))]) rfl ?_
                exact j82 1 (by first | decide | omega) (by first | decide | omega)
    refine r_eqG (X := X) (hq_refl [120] [73, 79, 80, 81, 82, 83, 84, 85, 88, 90, 91] _) ?_
    exact loop3 ((30 - fr) + 1 : Int).toNat fr _ (by first | decide | omega) (by first | decide | omega) (by first | decide | omega) (by first | decide | omega)
set_option maxRecDepth 100000 in
set_option maxHeartbeats 4000000 in
theorem c_X12_happensTo (E : En) (S : Sg) (G : Gh) (e t : Int) (hS : S (Ad E 1) = 1) (events : Int) (events_e : events = G 1 (Ad E 1) 9) (e_a : 0 ≤ e) (e_b : e ≤ 15) (t_a : 0 ≤ t) (t_b : t ≤ 19) (pre0 : e < events) (mi : MI E G) : Calls E mX12_happensTo [(2, (Ad E 1)), (0, e), (0, t)] S G 37 0 0 (fun r S' G' => S = S' ∧ (∃ G1, hv [120] [73, 79, 80, 81, 82, 83, 84, 85, 88, 90, 91] G G1 = G') ∧ r = none ∧ True) := by
  refine calls_by [(0, (2, (Ad E 1))), (1, (0, e)), (2, (0, t))] rfl rfl (Nat.le_of_ble_eq_true rfl) (fun X hX => ?_)
  have hP := hPX12_happensTo
  refine r_peekI hX (tl1 9 rfl (by decide)) hS (fun events_o events_oe events_oa events_ob => ?_)
  obtain rfl : events = events_o := events_e.trans events_oe.symm
  refine r_ex hX hP 2 (pc' := 2) (st' := [(0, (-1)), (2, (Ad E 1))]) (lo' := [(0, (2, (Ad E 1))), (1, (0, e)), (2, (0, t))]) rfl ?_
  refine r_putIK hX hP rfl fp_12_566 hS (by first | decide | omega) (by first | decide | omega) (fun h1 => ?_)
  refine r_ex hX hP 2 (pc' := 7) (st' := []) (lo' := [(0, (2, (Ad E 1))), (1, (0, e)), (2, (0, t)), (3, (0, 0))]) rfl ?_
  have loop7 : ∀ (nF : Nat) (l3_h7 : Int) (Gh7 : Gh), 0 ≤ l3_h7 → l3_h7 ≤ 4 → 4 - l3_h7 < (nF : Int) → X 0 0 7 [] [(0, (2, (Ad E 1))), (1, (0, e)), (2, (0, t)), (3, (0, l3_h7))] S (hv [] [85] (up G 1 (Ad E 1) 120 (-1)) Gh7) := by
    intro nF
    induction nF with
    | zero => intro l3_h7 Gh7 yh7_0 yh7_1 ym7; exfalso; omega
    | succ nF ih7 =>
      intro l3_h7 Gh7 yh7_0 yh7_1 ym7
      refine r_ex hX hP 2 (pc' := 9) (st' := [(0, 4), (0, l3_h7)]) (lo' := [(0, (2, (Ad E 1))), (1, (0, e)), (2, (0, t)), (3, (0, l3_h7))]) rfl ?_
      refine r_ic_ge hX hP rfl (tgt := 25) rfl (by first | decide | omega) (by first | decide | omega) (by first | decide | omega) (by first | decide | omega) (fun c2 => ?_) (fun c2 => ?_)
      · skip
        refine r_ex hX hP 2 (pc' := 27) (st' := [(0, t), (2, (Ad E 1))]) (lo' := [(0, (2, (Ad E 1))), (1, (0, e)), (2, (0, t)), (3, (0, l3_h7))]) rfl ?_
        have mi3 : MI E (hv [] [85] (up G 1 (Ad E 1) 120 (-1)) Gh7) := mi_keep mi rfl rfl rfl rfl rfl rfl (fun _ => rfl) (fun _ => rfl) (fun _ => rfl) (fun _ => rfl) (fun _ => rfl) (fun _ => rfl) (fun _ => rfl) (fun _ => rfl) (fun _ => rfl) (fun _ => rfl) (fun _ => rfl) (fun _ => rfl) (fun _ => rfl)
        refine r_callV gd hX hP rfl cv_12_569 hS (d' := 1) (mc' := 0) (ms' := 0) (as' := [(0, t)]) (st := []) (by first | decide | omega) (by first | decide | omega) (by first | decide | omega) rfl rfl (Nat.le_of_ble_eq_true rfl) (c_X12_totalAhead E S (hv [] [85] (up G 1 (Ad E 1) 120 (-1)) Gh7) t hS (by first | decide | omega) (by first | decide | omega) mi3) ?_
        rintro _ _ _ ⟨rfl, rfl, z4, rfl, z4a, z4b⟩
        refine r_ex hX hP 6 (pc' := 36) (st' := [(2, (Ad E 1)), (0, 0), (0, t), (0, e), (2, (Ad E 1))]) (lo' := [(0, (2, (Ad E 1))), (1, (0, e)), (2, (0, t)), (3, (1, z4))]) rfl ?_
        refine r_getC hX hP rfl fl_12_92 hS (fun s5 => ?_)
        refine r_ex hX hP 1 (pc' := 40) (st' := [(0, e), (2, (Ad E 26)), (0, 0), (0, t), (0, e), (2, (Ad E 1))]) (lo' := [(0, (2, (Ad E 1))), (1, (0, e)), (2, (0, t)), (3, (1, z4))]) rfl ?_
        refine r_iald hX hP rfl al_26 s5 (by first | decide | omega) (by first | decide | omega) (fun x6 x6e x6a x6b => ?_)
        refine r_ex hX hP 2 (pc' := 43) (st' := [(1, z4), (0, (-1)), (0, x6), (0, 0), (0, t), (0, e), (2, (Ad E 1))]) (lo' := [(0, (2, (Ad E 1))), (1, (0, e)), (2, (0, t)), (3, (1, z4))]) rfl ?_
        refine r_callV gd hX hP rfl cv_12_573 hS (d' := 36) (mc' := 0) (ms' := 0) (as' := [(0, e), (0, t), (0, 0), (0, x6), (0, (-1)), (1, z4)]) (st := []) (by first | decide | omega) (by first | decide | omega) (by first | decide | omega) rfl rfl (Nat.le_of_ble_eq_true rfl) (c_X12_does E S 31 (hv [] [85] (up G 1 (Ad E 1) 120 (-1)) Gh7) e t 0 x6 (-1) z4 hS events events_e x6 x6e (by first | decide | omega) (by first | decide | omega) (by first | decide | omega) (by first | decide | omega) (by first | decide | omega) (by first | decide | omega) (by first | decide | omega) (by first | decide | omega) (by first | decide | omega) (by first | decide | omega) (by first | decide | omega) (by first | decide | omega) (by first | decide | omega) (by first | decide | omega) mi3 (by first | decide | omega)) ?_
        rintro _ _ _ ⟨rfl, ⟨G7, rfl⟩, rfl, -⟩
        refine r_ex hX hP 2 (pc' := 49) (st' := []) (lo' := [(0, (2, (Ad E 1))), (1, (0, e)), (2, (0, t)), (3, (1, z4)), (5, (0, 0))]) rfl ?_
        have loop49 : ∀ (nF : Nat) (l5_h49 : Int) (Gh49 : Gh), 0 ≤ l5_h49 → l5_h49 ≤ 4 → 4 - l5_h49 < (nF : Int) → X 0 0 49 [] [(0, (2, (Ad E 1))), (1, (0, e)), (2, (0, t)), (3, (1, z4)), (5, (0, l5_h49))] S (hv [] [79, 81, 82, 83, 84, 90, 91] (hv [120] [73, 79, 80, 81, 82, 83, 84, 85, 88, 90, 91] (hv [] [85] (up G 1 (Ad E 1) 120 (-1)) Gh7) G7) Gh49) := by
          intro nF
          induction nF with
          | zero => intro l5_h49 Gh49 yh49_0 yh49_1 ym49; exfalso; omega
          | succ nF ih49 =>
            intro l5_h49 Gh49 yh49_0 yh49_1 ym49
            refine r_ex hX hP 2 (pc' := 52) (st' := [(0, 4), (0, l5_h49)]) (lo' := [(0, (2, (Ad E 1))), (1, (0, e)), (2, (0, t)), (3, (1, z4)), (5, (0, l5_h49))]) rfl ?_
            refine r_ic_ge hX hP rfl (tgt := 164) rfl (by first | decide | omega) (by first | decide | omega) (by first | decide | omega) (by first | decide | omega) (fun c8 => ?_) (fun c8 => ?_)
            · skip
              exact r_retV hX hP rfl rfl (by first | decide | omega) (by first | decide | omega) ⟨rfl, ⟨_, (hq_loop (hq_call (hq_loop (hq_up (hq_refl _ _ _) rfl) rfl) rfl) rfl).symm⟩, rfl, trivial⟩
            · skip
              refine r_ex hX hP 1 (pc' := 56) (st' := [(2, (Ad E 1))]) (lo' := [(0, (2, (Ad E 1))), (1, (0, e)), (2, (0, t)), (3, (1, z4)), (5, (0, l5_h49))]) rfl ?_
              refine r_getC hX hP rfl fl_12_280 hS (fun s9 => ?_)
              refine r_ex hX hP 1 (pc' := 61) (st' := [(0, l5_h49), (2, (Ad E 85))]) (lo' := [(0, (2, (Ad E 1))), (1, (0, e)), (2, (0, t)), (3, (1, z4)), (5, (0, l5_h49))]) rfl ?_
              refine r_lald hX hP rfl al_85 s9 (by first | decide | omega) (by first | decide | omega) (fun x10 x10e x10a x10b => ?_)
              refine r_ex hX hP 1 (pc' := 63) (st' := [(1, 0), (1, x10)]) (lo' := [(0, (2, (Ad E 1))), (1, (0, e)), (2, (0, t)), (3, (1, z4)), (5, (0, l5_h49))]) rfl ?_
              refine r_lc_ne hX hP rfl rfl (tgt := 70) rfl (by first | decide | omega) (by first | decide | omega) (by first | decide | omega) (by first | decide | omega) (fun c11 => ?_) (fun c11 => ?_)
              · skip
                refine r_ex hX hP 4 (pc' := 75) (st' := [(0, 3), (0, l5_h49), (0, e), (2, (Ad E 1))]) (lo' := [(0, (2, (Ad E 1))), (1, (0, e)), (2, (0, t)), (3, (1, z4)), (5, (0, l5_h49))]) rfl ?_
                refine r_ic_ne hX hP rfl (tgt := 82) rfl (by first | decide | omega) (by first | decide | omega) (by first | decide | omega) (by first | decide | omega) (fun c12 => ?_) (fun c12 => ?_)
                · skip
                  refine r_ex hX hP 2 (pc' := 85) (st' := [(0, t), (0, l5_h49), (0, e), (2, (Ad E 1))]) (lo' := [(0, (2, (Ad E 1))), (1, (0, e)), (2, (0, t)), (3, (1, z4)), (5, (0, l5_h49))]) rfl ?_
                  have mi13 : MI E (hv [] [79, 81, 82, 83, 84, 90, 91] (hv [120] [73, 79, 80, 81, 82, 83, 84, 85, 88, 90, 91] (hv [] [85] (up G 1 (Ad E 1) 120 (-1)) Gh7) G7) Gh49) := mi_keep mi3 rfl rfl rfl rfl rfl rfl (fun _ => rfl) (fun _ => rfl) (fun _ => rfl) (fun _ => rfl) (fun _ => rfl) (fun _ => rfl) (fun _ => rfl) (fun _ => rfl) (fun _ => rfl) (fun _ => rfl) (fun _ => rfl) (fun _ => rfl) (fun _ => rfl)
                  refine r_callV gd hX hP rfl cv_12_577 hS (d' := 1) (mc' := 0) (ms' := 0) (as' := [(0, e), (0, l5_h49), (0, t)]) (st := []) (by first | decide | omega) (by first | decide | omega) (by first | decide | omega) rfl rfl (Nat.le_of_ble_eq_true rfl) (c_X12_lay_ E S (hv [] [79, 81, 82, 83, 84, 90, 91] (hv [120] [73, 79, 80, 81, 82, 83, 84, 85, 88, 90, 91] (hv [] [85] (up G 1 (Ad E 1) 120 (-1)) Gh7) G7) Gh49) e l5_h49 t hS (by first | decide | omega) (by first | decide | omega) (by first | decide | omega) (by first | decide | omega) (by first | decide | omega) (by first | decide | omega) mi13) ?_
                  rintro _ _ _ ⟨rfl, ⟨G14, rfl⟩, rfl, -⟩
                  refine r_ex hX hP 1 (pc' := 89) (st' := [(2, (Ad E 1))]) (lo' := [(0, (2, (Ad E 1))), (1, (0, e)), (2, (0, t)), (3, (1, z4)), (5, (0, l5_h49))]) rfl ?_
                  refine r_callV gd hX hP rfl cv_12_521 hS (d' := 0) (mc' := 0) (ms' := 0) (as' := []) (st := []) (by first | decide | omega) (by first | decide | omega) (by first | decide | omega) rfl rfl (Nat.le_of_ble_eq_true rfl) (c_X12_sumUp E S (hv [] [81] (hv [] [79, 81, 82, 83, 84, 90, 91] (hv [120] [73, 79, 80, 81, 82, 83, 84, 85, 88, 90, 91] (hv [] [85] (up G 1 (Ad E 1) 120 (-1)) Gh7) G7) Gh49) G14)  hS) ?_
                  rintro _ _ _ ⟨rfl, ⟨G15, rfl⟩, rfl, -⟩
                  refine r_ex hX hP 2 (pc' := 94) (st' := [(2, (Ad E 1)), (2, (Ad E 1))]) (lo' := [(0, (2, (Ad E 1))), (1, (0, e)), (2, (0, t)), (3, (1, z4)), (5, (0, l5_h49))]) rfl ?_
                  refine r_getC hX hP rfl fl_12_280 hS (fun _ => ?_)
                  refine r_ex hX hP 1 (pc' := 99) (st' := [(0, l5_h49), (2, (Ad E 85)), (2, (Ad E 1))]) (lo' := [(0, (2, (Ad E 1))), (1, (0, e)), (2, (0, t)), (3, (1, z4)), (5, (0, l5_h49))]) rfl ?_
                  refine r_laldK hX hP rfl al_85 s9 (by first | decide | omega) (by first | decide | omega) (x := x10) x10e ?_
                  refine r_ex hX hP 1 (pc' := 101) (st' := [(2, (Ad E 1)), (1, x10), (2, (Ad E 1))]) (lo' := [(0, (2, (Ad E 1))), (1, (0, e)), (2, (0, t)), (3, (1, z4)), (5, (0, l5_h49))]) rfl ?_
                  refine r_getC hX hP rfl fl_12_277 hS (fun s16 => ?_)
                  refine r_ex hX hP 1 (pc' := 105) (st' := [(0, t), (2, (Ad E 84)), (1, x10), (2, (Ad E 1))]) (lo' := [(0, (2, (Ad E 1))), (1, (0, e)), (2, (0, t)), (3, (1, z4)), (5, (0, l5_h49))]) rfl ?_
                  refine r_lald hX hP rfl al_84 s16 (by first | decide | omega) (by first | decide | omega) (fun x17 x17e x17a x17b => ?_)
                  refine r_mminL hX hP rfl (tbg sg10 119 rfl rfl) (tbg sg5 210 rfl rfl) (tbg sg1 14 rfl rfl) (tbg sg5 211 rfl rfl) (by decide) (by decide) (by decide) (Nat.le_of_ble_eq_true rfl) (by first | decide | omega) (by first | decide | omega) (by first | decide | omega) (by first | decide | omega) (fun c18 => ?_) (fun c18 => ?_)
                  · skip
                    refine r_ex hX hP 1 (pc' := 110) (st' := [(0, t), (1, x10), (2, (Ad E 1))]) (lo' := [(0, (2, (Ad E 1))), (1, (0, e)), (2, (0, t)), (3, (1, z4)), (5, (0, l5_h49))]) rfl ?_
                    refine r_callV gd hX hP rfl cv_12_557 hS (d' := 1) (mc' := 0) (ms' := 0) (as' := [(1, x10), (0, t)]) (st := []) (by first | decide | omega) (by first | decide | omega) (by first | decide | omega) rfl rfl (Nat.le_of_ble_eq_true rfl) (c_X12_parts E S (hv [] [84] (hv [] [81] (hv [] [79, 81, 82, 83, 84, 90, 91] (hv [120] [73, 79, 80, 81, 82, 83, 84, 85, 88, 90, 91] (hv [] [85] (up G 1 (Ad E 1) 120 (-1)) Gh7) G7) Gh49) G14) G15) x10 t hS (by first | decide | omega) (by first | decide | omega) (by first | decide | omega) (by first | decide | omega)) ?_
                    rintro _ _ _ ⟨rfl, ⟨G19, rfl⟩, rfl, -⟩
                    refine r_ex hX hP 2 (pc' := 116) (st' := []) (lo' := [(0, (2, (Ad E 1))), (1, (0, e)), (2, (0, t)), (3, (1, z4)), (5, (0, l5_h49)), (6, (0, 0))]) rfl ?_
                    have loop116 : ∀ (nF : Nat) (l6_h116 : Int) (Gh116 : Gh), 0 ≤ l6_h116 → l6_h116 ≤ 20 → 20 - l6_h116 < (nF : Int) → X 0 0 116 [] [(0, (2, (Ad E 1))), (1, (0, e)), (2, (0, t)), (3, (1, z4)), (5, (0, l5_h49)), (6, (0, l6_h116))] S (hv [] [79] (hv [] [82, 83, 84, 90, 91] (hv [] [84] (hv [] [81] (hv [] [79, 81, 82, 83, 84, 90, 91] (hv [120] [73, 79, 80, 81, 82, 83, 84, 85, 88, 90, 91] (hv [] [85] (up G 1 (Ad E 1) 120 (-1)) Gh7) G7) Gh49) G14) G15) G19) Gh116) := by
                      intro nF
                      induction nF with
                      | zero => intro l6_h116 Gh116 yh116_0 yh116_1 ym116; exfalso; omega
                      | succ nF ih116 =>
                        intro l6_h116 Gh116 yh116_0 yh116_1 ym116
                        refine r_ex hX hP 2 (pc' := 119) (st' := [(2, (Ad E 1)), (0, l6_h116)]) (lo' := [(0, (2, (Ad E 1))), (1, (0, e)), (2, (0, t)), (3, (1, z4)), (5, (0, l5_h49)), (6, (0, l6_h116))]) rfl ?_
                        refine r_getI hX hP rfl fl_12_314 hS (fun af20 af20e af20a af20b => ?_)
                        refine r_ic_ge hX hP rfl (tgt := 158) rfl (by first | decide | omega) (by first | decide | omega) (by first | decide | omega) (by first | decide | omega) (fun c21 => ?_) (fun c21 => ?_)
                        · skip
                          refine r_ex hX hP 2 (pc' := 49) (st' := []) (lo' := [(0, (2, (Ad E 1))), (1, (0, e)), (2, (0, t)), (3, (1, z4)), (5, (0, (l5_h49 + 1))), (6, (0, l6_h116))]) rfl ?_
                          refine r_pick hX [0, 1, 2, 3, 4] (lo' := [(0, (2, (Ad E 1))), (1, (0, e)), (2, (0, t)), (3, (1, z4)), (5, (0, (l5_h49 + 1)))]) rfl ?_
                          refine r_eqG (X := X) (hq_loop (hq_call (hq_call (hq_call (hq_base _ _ _ _) rfl) rfl) rfl) rfl) ?_
                          exact ih49 (l5_h49 + 1) _ (by first | decide | omega) (by first | decide | omega) (by first | decide | omega)
                        · skip
                          refine r_ex hX hP 1 (pc' := 126) (st' := [(2, (Ad E 1))]) (lo' := [(0, (2, (Ad E 1))), (1, (0, e)), (2, (0, t)), (3, (1, z4)), (5, (0, l5_h49)), (6, (0, l6_h116))]) rfl ?_
                          refine r_getC hX hP rfl fl_12_262 hS (fun s22 => ?_)
                          refine r_ex hX hP 4 (pc' := 135) (st' := [(2, (Ad E 1)), (0, (20 * l6_h116)), (2, (Ad E 79))]) (lo' := [(0, (2, (Ad E 1))), (1, (0, e)), (2, (0, t)), (3, (1, z4)), (5, (0, l5_h49)), (6, (0, l6_h116))]) rfl ?_
                          refine r_getC hX hP rfl fl_12_74 hS (fun s23 => ?_)
                          refine r_ex hX hP 1 (pc' := 139) (st' := [(0, e), (2, (Ad E 20)), (0, (20 * l6_h116)), (2, (Ad E 79))]) (lo' := [(0, (2, (Ad E 1))), (1, (0, e)), (2, (0, t)), (3, (1, z4)), (5, (0, l5_h49)), (6, (0, l6_h116))]) rfl ?_
                          refine r_iald hX hP rfl al_20 s23 (by first | decide | omega) (by first | decide | omega) (fun x24 x24e x24a x24b => ?_)
                          refine r_ex hX hP 2 (pc' := 142) (st' := [(0, ((20 * l6_h116) + x24)), (2, (Ad E 79)), (0, ((20 * l6_h116) + x24)), (2, (Ad E 79))]) (lo' := [(0, (2, (Ad E 1))), (1, (0, e)), (2, (0, t)), (3, (1, z4)), (5, (0, l5_h49)), (6, (0, l6_h116))]) rfl ?_
                          refine r_lald hX hP rfl al_79 s22 (by first | decide | omega) (by first | decide | omega) (fun x25 x25e x25a x25b => ?_)
                          refine r_ex hX hP 1 (pc' := 144) (st' := [(2, (Ad E 1)), (1, x25), (0, ((20 * l6_h116) + x24)), (2, (Ad E 79))]) (lo' := [(0, (2, (Ad E 1))), (1, (0, e)), (2, (0, t)), (3, (1, z4)), (5, (0, l5_h49)), (6, (0, l6_h116))]) rfl ?_
                          refine r_getC hX hP rfl fl_12_271 hS (fun s26 => ?_)
                          refine r_ex hX hP 1 (pc' := 149) (st' := [(0, l6_h116), (2, (Ad E 82)), (1, x25), (0, ((20 * l6_h116) + x24)), (2, (Ad E 79))]) (lo' := [(0, (2, (Ad E 1))), (1, (0, e)), (2, (0, t)), (3, (1, z4)), (5, (0, l5_h49)), (6, (0, l6_h116))]) rfl ?_
                          refine r_lald hX hP rfl al_82 s26 (by first | decide | omega) (by first | decide | omega) (fun x27 x27e x27a x27b => ?_)
                          refine r_ex hX hP 1 (pc' := 151) (st' := [(1, (x25 - x27)), (0, ((20 * l6_h116) + x24)), (2, (Ad E 79))]) (lo' := [(0, (2, (Ad E 1))), (1, (0, e)), (2, (0, t)), (3, (1, z4)), (5, (0, l5_h49)), (6, (0, l6_h116))]) rfl ?_
                          refine r_hvL hX (fun w28 w28a w28b w28e => ?_)
                          refine r_lastK hX hP rfl al_79 s22 (by first | decide | omega) (by first | decide | omega) (by first | decide | omega) (by first | decide | omega) (fun h29 => ?_)
                          refine r_ex hX hP 2 (pc' := 116) (st' := []) (lo' := [(0, (2, (Ad E 1))), (1, (0, e)), (2, (0, t)), (3, (1, z4)), (5, (0, l5_h49)), (6, (0, (l6_h116 + 1)))]) rfl ?_
                          refine r_eqG (X := X) (hq_up (hq_base _ _ _ _) rfl) ?_
                          exact ih116 (l6_h116 + 1) _ (by first | decide | omega) (by first | decide | omega) (by first | decide | omega)
                    refine r_eqG (X := X) (hq_refl [] [79] _) ?_
                    exact loop116 ((20 - 0) + 1 : Int).toNat 0 _ (by first | decide | omega) (by first | decide | omega) (by first | decide | omega)
                  · skip
                    refine r_ex hX hP 1 (pc' := 110) (st' := [(0, t), (1, x17), (2, (Ad E 1))]) (lo' := [(0, (2, (Ad E 1))), (1, (0, e)), (2, (0, t)), (3, (1, z4)), (5, (0, l5_h49))]) rfl ?_
                    refine r_callV gd hX hP rfl cv_12_557 hS (d' := 1) (mc' := 0) (ms' := 0) (as' := [(1, x17), (0, t)]) (st := []) (by first | decide | omega) (by first | decide | omega) (by first | decide | omega) rfl rfl (Nat.le_of_ble_eq_true rfl) (c_X12_parts E S (hv [] [84] (hv [] [81] (hv [] [79, 81, 82, 83, 84, 90, 91] (hv [120] [73, 79, 80, 81, 82, 83, 84, 85, 88, 90, 91] (hv [] [85] (up G 1 (Ad E 1) 120 (-1)) Gh7) G7) Gh49) G14) G15) x17 t hS (by first | decide | omega) (by first | decide | omega) (by first | decide | omega) (by first | decide | omega)) ?_
                    rintro _ _ _ ⟨rfl, ⟨G30, rfl⟩, rfl, -⟩
                    refine r_ex hX hP 2 (pc' := 116) (st' := []) (lo' := [(0, (2, (Ad E 1))), (1, (0, e)), (2, (0, t)), (3, (1, z4)), (5, (0, l5_h49)), (6, (0, 0))]) rfl ?_
                    have loop116 : ∀ (nF : Nat) (l6_h116 : Int) (Gh116 : Gh), 0 ≤ l6_h116 → l6_h116 ≤ 20 → 20 - l6_h116 < (nF : Int) → X 0 0 116 [] [(0, (2, (Ad E 1))), (1, (0, e)), (2, (0, t)), (3, (1, z4)), (5, (0, l5_h49)), (6, (0, l6_h116))] S (hv [] [79] (hv [] [82, 83, 84, 90, 91] (hv [] [84] (hv [] [81] (hv [] [79, 81, 82, 83, 84, 90, 91] (hv [120] [73, 79, 80, 81, 82, 83, 84, 85, 88, 90, 91] (hv [] [85] (up G 1 (Ad E 1) 120 (-1)) Gh7) G7) Gh49) G14) G15) G30) Gh116) := by
                      intro nF
                      induction nF with
                      | zero => intro l6_h116 Gh116 yh116_0 yh116_1 ym116; exfalso; omega
                      | succ nF ih116 =>
                        intro l6_h116 Gh116 yh116_0 yh116_1 ym116
                        refine r_ex hX hP 2 (pc' := 119) (st' := [(2, (Ad E 1)), (0, l6_h116)]) (lo' := [(0, (2, (Ad E 1))), (1, (0, e)), (2, (0, t)), (3, (1, z4)), (5, (0, l5_h49)), (6, (0, l6_h116))]) rfl ?_
                        refine r_getI hX hP rfl fl_12_314 hS (fun af31 af31e af31a af31b => ?_)
                        refine r_ic_ge hX hP rfl (tgt := 158) rfl (by first | decide | omega) (by first | decide | omega) (by first | decide | omega) (by first | decide | omega) (fun c32 => ?_) (fun c32 => ?_)
                        · skip
                          refine r_ex hX hP 2 (pc' := 49) (st' := []) (lo' := [(0, (2, (Ad E 1))), (1, (0, e)), (2, (0, t)), (3, (1, z4)), (5, (0, (l5_h49 + 1))), (6, (0, l6_h116))]) rfl ?_
                          refine r_pick hX [0, 1, 2, 3, 4] (lo' := [(0, (2, (Ad E 1))), (1, (0, e)), (2, (0, t)), (3, (1, z4)), (5, (0, (l5_h49 + 1)))]) rfl ?_
                          refine r_eqG (X := X) (hq_loop (hq_call (hq_call (hq_call (hq_base _ _ _ _) rfl) rfl) rfl) rfl) ?_
                          exact ih49 (l5_h49 + 1) _ (by first | decide | omega) (by first | decide | omega) (by first | decide | omega)
                        · skip
                          refine r_ex hX hP 1 (pc' := 126) (st' := [(2, (Ad E 1))]) (lo' := [(0, (2, (Ad E 1))), (1, (0, e)), (2, (0, t)), (3, (1, z4)), (5, (0, l5_h49)), (6, (0, l6_h116))]) rfl ?_
                          refine r_getC hX hP rfl fl_12_262 hS (fun s33 => ?_)
                          refine r_ex hX hP 4 (pc' := 135) (st' := [(2, (Ad E 1)), (0, (20 * l6_h116)), (2, (Ad E 79))]) (lo' := [(0, (2, (Ad E 1))), (1, (0, e)), (2, (0, t)), (3, (1, z4)), (5, (0, l5_h49)), (6, (0, l6_h116))]) rfl ?_
                          refine r_getC hX hP rfl fl_12_74 hS (fun s34 => ?_)
                          refine r_ex hX hP 1 (pc' := 139) (st' := [(0, e), (2, (Ad E 20)), (0, (20 * l6_h116)), (2, (Ad E 79))]) (lo' := [(0, (2, (Ad E 1))), (1, (0, e)), (2, (0, t)), (3, (1, z4)), (5, (0, l5_h49)), (6, (0, l6_h116))]) rfl ?_
                          refine r_iald hX hP rfl al_20 s34 (by first | decide | omega) (by first | decide | omega) (fun x35 x35e x35a x35b => ?_)
                          refine r_ex hX hP 2 (pc' := 142) (st' := [(0, ((20 * l6_h116) + x35)), (2, (Ad E 79)), (0, ((20 * l6_h116) + x35)), (2, (Ad E 79))]) (lo' := [(0, (2, (Ad E 1))), (1, (0, e)), (2, (0, t)), (3, (1, z4)), (5, (0, l5_h49)), (6, (0, l6_h116))]) rfl ?_
                          refine r_lald hX hP rfl al_79 s33 (by first | decide | omega) (by first | decide | omega) (fun x36 x36e x36a x36b => ?_)
                          refine r_ex hX hP 1 (pc' := 144) (st' := [(2, (Ad E 1)), (1, x36), (0, ((20 * l6_h116) + x35)), (2, (Ad E 79))]) (lo' := [(0, (2, (Ad E 1))), (1, (0, e)), (2, (0, t)), (3, (1, z4)), (5, (0, l5_h49)), (6, (0, l6_h116))]) rfl ?_
                          refine r_getC hX hP rfl fl_12_271 hS (fun s37 => ?_)
                          refine r_ex hX hP 1 (pc' := 149) (st' := [(0, l6_h116), (2, (Ad E 82)), (1, x36), (0, ((20 * l6_h116) + x35)), (2, (Ad E 79))]) (lo' := [(0, (2, (Ad E 1))), (1, (0, e)), (2, (0, t)), (3, (1, z4)), (5, (0, l5_h49)), (6, (0, l6_h116))]) rfl ?_
                          refine r_lald hX hP rfl al_82 s37 (by first | decide | omega) (by first | decide | omega) (fun x38 x38e x38a x38b => ?_)
                          refine r_ex hX hP 1 (pc' := 151) (st' := [(1, (x36 - x38)), (0, ((20 * l6_h116) + x35)), (2, (Ad E 79))]) (lo' := [(0, (2, (Ad E 1))), (1, (0, e)), (2, (0, t)), (3, (1, z4)), (5, (0, l5_h49)), (6, (0, l6_h116))]) rfl ?_
                          refine r_hvL hX (fun w39 w39a w39b w39e => ?_)
                          refine r_lastK hX hP rfl al_79 s33 (by first | decide | omega) (by first | decide | omega) (by first | decide | omega) (by first | decide | omega) (fun h40 => ?_)
                          refine r_ex hX hP 2 (pc' := 116) (st' := []) (lo' := [(0, (2, (Ad E 1))), (1, (0, e)), (2, (0, t)), (3, (1, z4)), (5, (0, l5_h49)), (6, (0, (l6_h116 + 1)))]) rfl ?_
                          refine r_eqG (X := X) (hq_up (hq_base _ _ _ _) rfl) ?_
                          exact ih116 (l6_h116 + 1) _ (by first | decide | omega) (by first | decide | omega) (by first | decide | omega)
                    refine r_eqG (X := X) (hq_refl [] [79] _) ?_
                    exact loop116 ((20 - 0) + 1 : Int).toNat 0 _ (by first | decide | omega) (by first | decide | omega) (by first | decide | omega)
                · skip
                  refine r_ex hX hP 3 (pc' := 85) (st' := [(0, t), (0, (-1)), (0, e), (2, (Ad E 1))]) (lo' := [(0, (2, (Ad E 1))), (1, (0, e)), (2, (0, t)), (3, (1, z4)), (5, (0, l5_h49))]) rfl ?_
                  have mi41 : MI E (hv [] [79, 81, 82, 83, 84, 90, 91] (hv [120] [73, 79, 80, 81, 82, 83, 84, 85, 88, 90, 91] (hv [] [85] (up G 1 (Ad E 1) 120 (-1)) Gh7) G7) Gh49) := mi_keep mi3 rfl rfl rfl rfl rfl rfl (fun _ => rfl) (fun _ => rfl) (fun _ => rfl) (fun _ => rfl) (fun _ => rfl) (fun _ => rfl) (fun _ => rfl) (fun _ => rfl) (fun _ => rfl) (fun _ => rfl) (fun _ => rfl) (fun _ => rfl) (fun _ => rfl)
                  refine r_callV gd hX hP rfl cv_12_577 hS (d' := 1) (mc' := 0) (ms' := 0) (as' := [(0, e), (0, (-1)), (0, t)]) (st := []) (by first | decide | omega) (by first | decide | omega) (by first | decide | omega) rfl rfl (Nat.le_of_ble_eq_true rfl) (c_X12_lay_ E S (hv [] [79, 81, 82, 83, 84, 90, 91] (hv [120] [73, 79, 80, 81, 82, 83, 84, 85, 88, 90, 91] (hv [] [85] (up G 1 (Ad E 1) 120 (-1)) Gh7) G7) Gh49) e (-1) t hS (by first | decide | omega) (by first | decide | omega) (by first | decide | omega) (by first | decide | omega) (by first | decide | omega) (by first | decide | omega) mi41) ?_
                  rintro _ _ _ ⟨rfl, ⟨G42, rfl⟩, rfl, -⟩
                  refine r_ex hX hP 1 (pc' := 89) (st' := [(2, (Ad E 1))]) (lo' := [(0, (2, (Ad E 1))), (1, (0, e)), (2, (0, t)), (3, (1, z4)), (5, (0, l5_h49))]) rfl ?_
                  refine r_callV gd hX hP rfl cv_12_521 hS (d' := 0) (mc' := 0) (ms' := 0) (as' := []) (st := []) (by first | decide | omega) (by first | decide | omega) (by first | decide | omega) rfl rfl (Nat.le_of_ble_eq_true rfl) (c_X12_sumUp E S (hv [] [81] (hv [] [79, 81, 82, 83, 84, 90, 91] (hv [120] [73, 79, 80, 81, 82, 83, 84, 85, 88, 90, 91] (hv [] [85] (up G 1 (Ad E 1) 120 (-1)) Gh7) G7) Gh49) G42)  hS) ?_
                  rintro _ _ _ ⟨rfl, ⟨G43, rfl⟩, rfl, -⟩
                  refine r_ex hX hP 2 (pc' := 94) (st' := [(2, (Ad E 1)), (2, (Ad E 1))]) (lo' := [(0, (2, (Ad E 1))), (1, (0, e)), (2, (0, t)), (3, (1, z4)), (5, (0, l5_h49))]) rfl ?_
                  refine r_getC hX hP rfl fl_12_280 hS (fun _ => ?_)
                  refine r_ex hX hP 1 (pc' := 99) (st' := [(0, l5_h49), (2, (Ad E 85)), (2, (Ad E 1))]) (lo' := [(0, (2, (Ad E 1))), (1, (0, e)), (2, (0, t)), (3, (1, z4)), (5, (0, l5_h49))]) rfl ?_
                  refine r_laldK hX hP rfl al_85 s9 (by first | decide | omega) (by first | decide | omega) (x := x10) x10e ?_
                  refine r_ex hX hP 1 (pc' := 101) (st' := [(2, (Ad E 1)), (1, x10), (2, (Ad E 1))]) (lo' := [(0, (2, (Ad E 1))), (1, (0, e)), (2, (0, t)), (3, (1, z4)), (5, (0, l5_h49))]) rfl ?_
                  refine r_getC hX hP rfl fl_12_277 hS (fun s44 => ?_)
                  refine r_ex hX hP 1 (pc' := 105) (st' := [(0, t), (2, (Ad E 84)), (1, x10), (2, (Ad E 1))]) (lo' := [(0, (2, (Ad E 1))), (1, (0, e)), (2, (0, t)), (3, (1, z4)), (5, (0, l5_h49))]) rfl ?_
                  refine r_lald hX hP rfl al_84 s44 (by first | decide | omega) (by first | decide | omega) (fun x45 x45e x45a x45b => ?_)
                  refine r_mminL hX hP rfl (tbg sg10 119 rfl rfl) (tbg sg5 210 rfl rfl) (tbg sg1 14 rfl rfl) (tbg sg5 211 rfl rfl) (by decide) (by decide) (by decide) (Nat.le_of_ble_eq_true rfl) (by first | decide | omega) (by first | decide | omega) (by first | decide | omega) (by first | decide | omega) (fun c46 => ?_) (fun c46 => ?_)
                  · skip
                    refine r_ex hX hP 1 (pc' := 110) (st' := [(0, t), (1, x10), (2, (Ad E 1))]) (lo' := [(0, (2, (Ad E 1))), (1, (0, e)), (2, (0, t)), (3, (1, z4)), (5, (0, l5_h49))]) rfl ?_
                    refine r_callV gd hX hP rfl cv_12_557 hS (d' := 1) (mc' := 0) (ms' := 0) (as' := [(1, x10), (0, t)]) (st := []) (by first | decide | omega) (by first | decide | omega) (by first | decide | omega) rfl rfl (Nat.le_of_ble_eq_true rfl) (c_X12_parts E S (hv [] [84] (hv [] [81] (hv [] [79, 81, 82, 83, 84, 90, 91] (hv [120] [73, 79, 80, 81, 82, 83, 84, 85, 88, 90, 91] (hv [] [85] (up G 1 (Ad E 1) 120 (-1)) Gh7) G7) Gh49) G42) G43) x10 t hS (by first | decide | omega) (by first | decide | omega) (by first | decide | omega) (by first | decide | omega)) ?_
                    rintro _ _ _ ⟨rfl, ⟨G47, rfl⟩, rfl, -⟩
                    refine r_ex hX hP 2 (pc' := 116) (st' := []) (lo' := [(0, (2, (Ad E 1))), (1, (0, e)), (2, (0, t)), (3, (1, z4)), (5, (0, l5_h49)), (6, (0, 0))]) rfl ?_
                    have loop116 : ∀ (nF : Nat) (l6_h116 : Int) (Gh116 : Gh), 0 ≤ l6_h116 → l6_h116 ≤ 20 → 20 - l6_h116 < (nF : Int) → X 0 0 116 [] [(0, (2, (Ad E 1))), (1, (0, e)), (2, (0, t)), (3, (1, z4)), (5, (0, l5_h49)), (6, (0, l6_h116))] S (hv [] [79] (hv [] [82, 83, 84, 90, 91] (hv [] [84] (hv [] [81] (hv [] [79, 81, 82, 83, 84, 90, 91] (hv [120] [73, 79, 80, 81, 82, 83, 84, 85, 88, 90, 91] (hv [] [85] (up G 1 (Ad E 1) 120 (-1)) Gh7) G7) Gh49) G42) G43) G47) Gh116) := by
                      intro nF
                      induction nF with
                      | zero => intro l6_h116 Gh116 yh116_0 yh116_1 ym116; exfalso; omega
                      | succ nF ih116 =>
                        intro l6_h116 Gh116 yh116_0 yh116_1 ym116
                        refine r_ex hX hP 2 (pc' := 119) (st' := [(2, (Ad E 1)), (0, l6_h116)]) (lo' := [(0, (2, (Ad E 1))), (1, (0, e)), (2, (0, t)), (3, (1, z4)), (5, (0, l5_h49)), (6, (0, l6_h116))]) rfl ?_
                        refine r_getI hX hP rfl fl_12_314 hS (fun af48 af48e af48a af48b => ?_)
                        refine r_ic_ge hX hP rfl (tgt := 158) rfl (by first | decide | omega) (by first | decide | omega) (by first | decide | omega) (by first | decide | omega) (fun c49 => ?_) (fun c49 => ?_)
                        · skip
                          refine r_ex hX hP 2 (pc' := 49) (st' := []) (lo' := [(0, (2, (Ad E 1))), (1, (0, e)), (2, (0, t)), (3, (1, z4)), (5, (0, (l5_h49 + 1))), (6, (0, l6_h116))]) rfl ?_
                          refine r_pick hX [0, 1, 2, 3, 4] (lo' := [(0, (2, (Ad E 1))), (1, (0, e)), (2, (0, t)), (3, (1, z4)), (5, (0, (l5_h49 + 1)))]) rfl ?_
                          refine r_eqG (X := X) (hq_loop (hq_call (hq_call (hq_call (hq_base _ _ _ _) rfl) rfl) rfl) rfl) ?_
                          exact ih49 (l5_h49 + 1) _ (by first | decide | omega) (by first | decide | omega) (by first | decide | omega)
                        · skip
                          refine r_ex hX hP 1 (pc' := 126) (st' := [(2, (Ad E 1))]) (lo' := [(0, (2, (Ad E 1))), (1, (0, e)), (2, (0, t)), (3, (1, z4)), (5, (0, l5_h49)), (6, (0, l6_h116))]) rfl ?_
                          refine r_getC hX hP rfl fl_12_262 hS (fun s50 => ?_)
                          refine r_ex hX hP 4 (pc' := 135) (st' := [(2, (Ad E 1)), (0, (20 * l6_h116)), (2, (Ad E 79))]) (lo' := [(0, (2, (Ad E 1))), (1, (0, e)), (2, (0, t)), (3, (1, z4)), (5, (0, l5_h49)), (6, (0, l6_h116))]) rfl ?_
                          refine r_getC hX hP rfl fl_12_74 hS (fun s51 => ?_)
                          refine r_ex hX hP 1 (pc' := 139) (st' := [(0, e), (2, (Ad E 20)), (0, (20 * l6_h116)), (2, (Ad E 79))]) (lo' := [(0, (2, (Ad E 1))), (1, (0, e)), (2, (0, t)), (3, (1, z4)), (5, (0, l5_h49)), (6, (0, l6_h116))]) rfl ?_
                          refine r_iald hX hP rfl al_20 s51 (by first | decide | omega) (by first | decide | omega) (fun x52 x52e x52a x52b => ?_)
                          refine r_ex hX hP 2 (pc' := 142) (st' := [(0, ((20 * l6_h116) + x52)), (2, (Ad E 79)), (0, ((20 * l6_h116) + x52)), (2, (Ad E 79))]) (lo' := [(0, (2, (Ad E 1))), (1, (0, e)), (2, (0, t)), (3, (1, z4)), (5, (0, l5_h49)), (6, (0, l6_h116))]) rfl ?_
                          refine r_lald hX hP rfl al_79 s50 (by first | decide | omega) (by first | decide | omega) (fun x53 x53e x53a x53b => ?_)
                          refine r_ex hX hP 1 (pc' := 144) (st' := [(2, (Ad E 1)), (1, x53), (0, ((20 * l6_h116) + x52)), (2, (Ad E 79))]) (lo' := [(0, (2, (Ad E 1))), (1, (0, e)), (2, (0, t)), (3, (1, z4)), (5, (0, l5_h49)), (6, (0, l6_h116))]) rfl ?_
                          refine r_getC hX hP rfl fl_12_271 hS (fun s54 => ?_)
                          refine r_ex hX hP 1 (pc' := 149) (st' := [(0, l6_h116), (2, (Ad E 82)), (1, x53), (0, ((20 * l6_h116) + x52)), (2, (Ad E 79))]) (lo' := [(0, (2, (Ad E 1))), (1, (0, e)), (2, (0, t)), (3, (1, z4)), (5, (0, l5_h49)), (6, (0, l6_h116))]) rfl ?_
                          refine r_lald hX hP rfl al_82 s54 (by first | decide | omega) (by first | decide | omega) (fun x55 x55e x55a x55b => ?_)
                          refine r_ex hX hP 1 (pc' := 151) (st' := [(1, (x53 - x55)), (0, ((20 * l6_h116) + x52)), (2, (Ad E 79))]) (lo' := [(0, (2, (Ad E 1))), (1, (0, e)), (2, (0, t)), (3, (1, z4)), (5, (0, l5_h49)), (6, (0, l6_h116))]) rfl ?_
                          refine r_hvL hX (fun w56 w56a w56b w56e => ?_)
                          refine r_lastK hX hP rfl al_79 s50 (by first | decide | omega) (by first | decide | omega) (by first | decide | omega) (by first | decide | omega) (fun h57 => ?_)
                          refine r_ex hX hP 2 (pc' := 116) (st' := []) (lo' := [(0, (2, (Ad E 1))), (1, (0, e)), (2, (0, t)), (3, (1, z4)), (5, (0, l5_h49)), (6, (0, (l6_h116 + 1)))]) rfl ?_
                          refine r_eqG (X := X) (hq_up (hq_base _ _ _ _) rfl) ?_
                          exact ih116 (l6_h116 + 1) _ (by first | decide | omega) (by first | decide | omega) (by first | decide | omega)
                    refine r_eqG (X := X) (hq_refl [] [79] _) ?_
                    exact loop116 ((20 - 0) + 1 : Int).toNat 0 _ (by first | decide | omega) (by first | decide | omega) (by first | decide | omega)
                  · skip
                    refine r_ex hX hP 1 (pc' := 110) (st' := [(0, t), (1, x45), (2, (Ad E 1))]) (lo' := [(0, (2, (Ad E 1))), (1, (0, e)), (2, (0, t)), (3, (1, z4)), (5, (0, l5_h49))]) rfl ?_
                    refine r_callV gd hX hP rfl cv_12_557 hS (d' := 1) (mc' := 0) (ms' := 0) (as' := [(1, x45), (0, t)]) (st := []) (by first | decide | omega) (by first | decide | omega) (by first | decide | omega) rfl rfl (Nat.le_of_ble_eq_true rfl) (c_X12_parts E S (hv [] [84] (hv [] [81] (hv [] [79, 81, 82, 83, 84, 90, 91] (hv [120] [73, 79, 80, 81, 82, 83, 84, 85, 88, 90, 91] (hv [] [85] (up G 1 (Ad E 1) 120 (-1)) Gh7) G7) Gh49) G42) G43) x45 t hS (by first | decide | omega) (by first | decide | omega) (by first | decide | omega) (by first | decide | omega)) ?_
                    rintro _ _ _ ⟨rfl, ⟨G58, rfl⟩, rfl, -⟩
                    refine r_ex hX hP 2 (pc' := 116) (st' := []) (lo' := [(0, (2, (Ad E 1))), (1, (0, e)), (2, (0, t)), (3, (1, z4)), (5, (0, l5_h49)), (6, (0, 0))]) rfl ?_
                    have loop116 : ∀ (nF : Nat) (l6_h116 : Int) (Gh116 : Gh), 0 ≤ l6_h116 → l6_h116 ≤ 20 → 20 - l6_h116 < (nF : Int) → X 0 0 116 [] [(0, (2, (Ad E 1))), (1, (0, e)), (2, (0, t)), (3, (1, z4)), (5, (0, l5_h49)), (6, (0, l6_h116))] S (hv [] [79] (hv [] [82, 83, 84, 90, 91] (hv [] [84] (hv [] [81] (hv [] [79, 81, 82, 83, 84, 90, 91] (hv [120] [73, 79, 80, 81, 82, 83, 84, 85, 88, 90, 91] (hv [] [85] (up G 1 (Ad E 1) 120 (-1)) Gh7) G7) Gh49) G42) G43) G58) Gh116) := by
                      intro nF
                      induction nF with
                      | zero => intro l6_h116 Gh116 yh116_0 yh116_1 ym116; exfalso; omega
                      | succ nF ih116 =>
                        intro l6_h116 Gh116 yh116_0 yh116_1 ym116
                        refine r_ex hX hP 2 (pc' := 119) (st' := [(2, (Ad E 1)), (0, l6_h116)]) (lo' := [(0, (2, (Ad E 1))), (1, (0, e)), (2, (0, t)), (3, (1, z4)), (5, (0, l5_h49)), (6, (0, l6_h116))]) rfl ?_
                        refine r_getI hX hP rfl fl_12_314 hS (fun af59 af59e af59a af59b => ?_)
                        refine r_ic_ge hX hP rfl (tgt := 158) rfl (by first | decide | omega) (by first | decide | omega) (by first | decide | omega) (by first | decide | omega) (fun c60 => ?_) (fun c60 => ?_)
                        · skip
                          refine r_ex hX hP 2 (pc' := 49) (st' := []) (lo' := [(0, (2, (Ad E 1))), (1, (0, e)), (2, (0, t)), (3, (1, z4)), (5, (0, (l5_h49 + 1))), (6, (0, l6_h116))]) rfl ?_
                          refine r_pick hX [0, 1, 2, 3, 4] (lo' := [(0, (2, (Ad E 1))), (1, (0, e)), (2, (0, t)), (3, (1, z4)), (5, (0, (l5_h49 + 1)))]) rfl ?_
                          refine r_eqG (X := X) (hq_loop (hq_call (hq_call (hq_call (hq_base _ _ _ _) rfl) rfl) rfl) rfl) ?_
                          exact ih49 (l5_h49 + 1) _ (by first | decide | omega) (by first | decide | omega) (by first | decide | omega)
                        · skip
                          refine r_ex hX hP 1 (pc' := 126) (st' := [(2, (Ad E 1))]) (lo' := [(0, (2, (Ad E 1))), (1, (0, e)), (2, (0, t)), (3, (1, z4)), (5, (0, l5_h49)), (6, (0, l6_h116))]) rfl ?_
                          refine r_getC hX hP rfl fl_12_262 hS (fun s61 => ?_)
                          refine r_ex hX hP 4 (pc' := 135) (st' := [(2, (Ad E 1)), (0, (20 * l6_h116)), (2, (Ad E 79))]) (lo' := [(0, (2, (Ad E 1))), (1, (0, e)), (2, (0, t)), (3, (1, z4)), (5, (0, l5_h49)), (6, (0, l6_h116))]) rfl ?_
                          refine r_getC hX hP rfl fl_12_74 hS (fun s62 => ?_)
                          refine r_ex hX hP 1 (pc' := 139) (st' := [(0, e), (2, (Ad E 20)), (0, (20 * l6_h116)), (2, (Ad E 79))]) (lo' := [(0, (2, (Ad E 1))), (1, (0, e)), (2, (0, t)), (3, (1, z4)), (5, (0, l5_h49)), (6, (0, l6_h116))]) rfl ?_
                          refine r_iald hX hP rfl al_20 s62 (by first | decide | omega) (by first | decide | omega) (fun x63 x63e x63a x63b => ?_)
                          refine r_ex hX hP 2 (pc' := 142) (st' := [(0, ((20 * l6_h116) + x63)), (2, (Ad E 79)), (0, ((20 * l6_h116) + x63)), (2, (Ad E 79))]) (lo' := [(0, (2, (Ad E 1))), (1, (0, e)), (2, (0, t)), (3, (1, z4)), (5, (0, l5_h49)), (6, (0, l6_h116))]) rfl ?_
                          refine r_lald hX hP rfl al_79 s61 (by first | decide | omega) (by first | decide | omega) (fun x64 x64e x64a x64b => ?_)
                          refine r_ex hX hP 1 (pc' := 144) (st' := [(2, (Ad E 1)), (1, x64), (0, ((20 * l6_h116) + x63)), (2, (Ad E 79))]) (lo' := [(0, (2, (Ad E 1))), (1, (0, e)), (2, (0, t)), (3, (1, z4)), (5, (0, l5_h49)), (6, (0, l6_h116))]) rfl ?_
                          refine r_getC hX hP rfl fl_12_271 hS (fun s65 => ?_)
                          refine r_ex hX hP 1 (pc' := 149) (st' := [(0, l6_h116), (2, (Ad E 82)), (1, x64), (0, ((20 * l6_h116) + x63)), (2, (Ad E 79))]) (lo' := [(0, (2, (Ad E 1))), (1, (0, e)), (2, (0, t)), (3, (1, z4)), (5, (0, l5_h49)), (6, (0, l6_h116))]) rfl ?_
                          refine r_lald hX hP rfl al_82 s65 (by first | decide | omega) (by first | decide | omega) (fun x66 x66e x66a x66b => ?_)
                          refine r_ex hX hP 1 (pc' := 151) (st' := [(1, (x64 - x66)), (0, ((20 * l6_h116) + x63)), (2, (Ad E 79))]) (lo' := [(0, (2, (Ad E 1))), (1, (0, e)), (2, (0, t)), (3, (1, z4)), (5, (0, l5_h49)), (6, (0, l6_h116))]) rfl ?_
                          refine r_hvL hX (fun w67 w67a w67b w67e => ?_)
                          refine r_lastK hX hP rfl al_79 s61 (by first | decide | omega) (by first | decide | omega) (by first | decide | omega) (by first | decide | omega) (fun h68 => ?_)
                          refine r_ex hX hP 2 (pc' := 116) (st' := []) (lo' := [(0, (2, (Ad E 1))), (1, (0, e)), (2, (0, t)), (3, (1, z4)), (5, (0, l5_h49)), (6, (0, (l6_h116 + 1)))]) rfl ?_
                          refine r_eqG (X := X) (hq_up (hq_base _ _ _ _) rfl) ?_
                          exact ih116 (l6_h116 + 1) _ (by first | decide | omega) (by first | decide | omega) (by first | decide | omega)
                    refine r_eqG (X := X) (hq_refl [] [79] _) ?_
                    exact loop116 ((20 - 0) + 1 : Int).toNat 0 _ (by first | decide | omega) (by first | decide | omega) (by first | decide | omega)
              · skip
                refine r_ex hX hP 3 (pc' := 49) (st' := []) (lo' := [(0, (2, (Ad E 1))), (1, (0, e)), (2, (0, t)), (3, (1, z4)), (5, (0, (l5_h49 + 1)))]) rfl ?_
                refine r_eqG (X := X) (hq_base _ _ _ _) ?_
                exact ih49 (l5_h49 + 1) _ (by first | decide | omega) (by first | decide | omega) (by first | decide | omega)
        refine r_eqG (X := X) (hq_refl [] [79, 81, 82, 83, 84, 90, 91] _) ?_
        exact loop49 ((4 - 0) + 1 : Int).toNat 0 _ (by first | decide | omega) (by first | decide | omega) (by first | decide | omega)
      · skip
        refine r_ex hX hP 1 (pc' := 13) (st' := [(2, (Ad E 1))]) (lo' := [(0, (2, (Ad E 1))), (1, (0, e)), (2, (0, t)), (3, (0, l3_h7))]) rfl ?_
        refine r_getC hX hP rfl fl_12_280 hS (fun s69 => ?_)
        refine r_ex hX hP 2 (pc' := 18) (st' := [(1, 0), (0, l3_h7), (2, (Ad E 85))]) (lo' := [(0, (2, (Ad E 1))), (1, (0, e)), (2, (0, t)), (3, (0, l3_h7))]) rfl ?_
        refine r_lastK hX hP rfl al_85 s69 (by first | decide | omega) (by first | decide | omega) (by first | decide | omega) (by first | decide | omega) (fun h70 => ?_)
        refine r_ex hX hP 2 (pc' := 7) (st' := []) (lo' := [(0, (2, (Ad E 1))), (1, (0, e)), (2, (0, t)), (3, (0, (l3_h7 + 1)))]) rfl ?_
        refine r_eqG (X := X) (hq_up (hq_base _ _ _ _) rfl) ?_
        exact ih7 (l3_h7 + 1) _ (by first | decide | omega) (by first | decide | omega) (by first | decide | omega)
  refine r_eqG (X := X) (hq_refl [] [85] _) ?_
  exact loop7 ((4 - 0) + 1 : Int).toNat 0 _ (by first | decide | omega) (by first | decide | omega) (by first | decide | omega)
set_option maxRecDepth 100000 in
set_option maxHeartbeats 4000000 in
theorem c_X12_happens (E : En) (S : Sg) (G : Gh) (e : Int) (hS : S (Ad E 1) = 1) (events : Int) (events_e : events = G 1 (Ad E 1) 9) (e_a : 0 ≤ e) (e_b : e ≤ 15) (pre0 : e < events) (mi : MI E G) : Calls E mX12_happens [(2, (Ad E 1)), (0, e)] S G 38 0 0 (fun r S' G' => S = S' ∧ (∃ G1, hv [120] [72, 73, 74, 75, 76, 77, 78, 79, 80, 81, 82, 83, 84, 85, 86, 87, 88, 90, 91, 92] G G1 = G') ∧ r = none ∧ True) := by
  refine calls_by [(0, (2, (Ad E 1))), (1, (0, e))] rfl rfl (Nat.le_of_ble_eq_true rfl) (fun X hX => ?_)
  have hP := hPX12_happens
  refine r_peekI hX (tl1 9 rfl (by decide)) hS (fun events_o events_oe events_oa events_ob => ?_)
  obtain rfl : events = events_o := events_e.trans events_oe.symm
  refine r_ex hX hP 1 (pc' := 1) (st' := [(2, (Ad E 1))]) (lo' := [(0, (2, (Ad E 1))), (1, (0, e))]) rfl ?_
  refine r_getC hX hP rfl fl_12_74 hS (fun s1 => ?_)
  refine r_ex hX hP 1 (pc' := 5) (st' := [(0, e), (2, (Ad E 20))]) (lo' := [(0, (2, (Ad E 1))), (1, (0, e))]) rfl ?_
  refine r_iald hX hP rfl al_20 s1 (by first | decide | omega) (by first | decide | omega) (fun x2 x2e x2a x2b => ?_)
  refine r_ex hX hP 3 (pc' := 9) (st' := [(0, e), (2, (Ad E 1))]) (lo' := [(0, (2, (Ad E 1))), (1, (0, e)), (2, (0, x2))]) rfl ?_
  refine r_callV gd hX hP rfl cv_12_560 hS (d' := 3) (mc' := 0) (ms' := 0) (as' := [(0, e)]) (st := []) (by first | decide | omega) (by first | decide | omega) (by first | decide | omega) rfl rfl (Nat.le_of_ble_eq_true rfl) (c_X12_cuts E S G e hS (by first | decide | omega) (by first | decide | omega) mi) ?_
  rintro _ _ _ ⟨rfl, ⟨G3, rfl⟩, rfl, -⟩
  refine r_ex hX hP 2 (pc' := 14) (st' := []) (lo' := [(0, (2, (Ad E 1))), (1, (0, e)), (2, (0, x2)), (3, (0, 0))]) rfl ?_
  have loop14 : ∀ (nF : Nat) (l3_h14 : Int) (Gh14 : Gh), 0 ≤ l3_h14 → l3_h14 ≤ 400 → 400 - l3_h14 < (nF : Int) → X 0 0 14 [] [(0, (2, (Ad E 1))), (1, (0, e)), (2, (0, x2)), (3, (0, l3_h14))] S (hv [] [79] (hv [] [76, 77, 78, 81, 82, 83, 84, 86, 87, 90, 91, 92] G G3) Gh14) := by
    intro nF
    induction nF with
    | zero => intro l3_h14 Gh14 yh14_0 yh14_1 ym14; exfalso; omega
    | succ nF ih14 =>
      intro l3_h14 Gh14 yh14_0 yh14_1 ym14
      refine r_ex hX hP 2 (pc' := 18) (st' := [(0, 400), (0, l3_h14)]) (lo' := [(0, (2, (Ad E 1))), (1, (0, e)), (2, (0, x2)), (3, (0, l3_h14))]) rfl ?_
      refine r_ic_ge hX hP rfl (tgt := 34) rfl (by first | decide | omega) (by first | decide | omega) (by first | decide | omega) (by first | decide | omega) (fun c4 => ?_) (fun c4 => ?_)
      · skip
        refine r_ex hX hP 2 (pc' := 36) (st' := []) (lo' := [(0, (2, (Ad E 1))), (1, (0, e)), (2, (0, x2)), (3, (0, 0))]) rfl ?_
        have loop36 : ∀ (nF : Nat) (l3_h36 : Int) (Gh36 : Gh), 0 ≤ l3_h36 → l3_h36 ≤ 20 → 20 - l3_h36 < (nF : Int) → X 0 0 36 [] [(0, (2, (Ad E 1))), (1, (0, e)), (2, (0, x2)), (3, (0, l3_h36))] S (hv [] [80, 88] (hv [] [79] (hv [] [76, 77, 78, 81, 82, 83, 84, 86, 87, 90, 91, 92] G G3) Gh14) Gh36) := by
          intro nF
          induction nF with
          | zero => intro l3_h36 Gh36 yh36_0 yh36_1 ym36; exfalso; omega
          | succ nF ih36 =>
            intro l3_h36 Gh36 yh36_0 yh36_1 ym36
            refine r_ex hX hP 2 (pc' := 38) (st' := [(2, (Ad E 1)), (0, l3_h36)]) (lo' := [(0, (2, (Ad E 1))), (1, (0, e)), (2, (0, x2)), (3, (0, l3_h36))]) rfl ?_
            refine r_getI hX hP rfl fl_12_314 hS (fun af5 af5e af5a af5b => ?_)
            refine r_ic_ge hX hP rfl (tgt := 64) rfl (by first | decide | omega) (by first | decide | omega) (by first | decide | omega) (by first | decide | omega) (fun c6 => ?_) (fun c6 => ?_)
            · skip
              refine r_ex hX hP 2 (pc' := 66) (st' := []) (lo' := [(0, (2, (Ad E 1))), (1, (0, e)), (2, (0, x2)), (3, (0, 0))]) rfl ?_
              have loop66 : ∀ (nF : Nat) (l3_h66 : Int) (Gh66 : Gh), 0 ≤ l3_h66 → l3_h66 ≤ 20 → 20 - l3_h66 < (nF : Int) → X 0 0 66 [] [(0, (2, (Ad E 1))), (1, (0, e)), (2, (0, x2)), (3, (0, l3_h66))] S (hv [120] [73, 79, 80, 81, 82, 83, 84, 85, 88, 90, 91] (hv [] [80, 88] (hv [] [79] (hv [] [76, 77, 78, 81, 82, 83, 84, 86, 87, 90, 91, 92] G G3) Gh14) Gh36) Gh66) := by
                intro nF
                induction nF with
                | zero => intro l3_h66 Gh66 yh66_0 yh66_1 ym66; exfalso; omega
                | succ nF ih66 =>
                  intro l3_h66 Gh66 yh66_0 yh66_1 ym66
                  refine r_ex hX hP 2 (pc' := 68) (st' := [(2, (Ad E 1)), (0, l3_h66)]) (lo' := [(0, (2, (Ad E 1))), (1, (0, e)), (2, (0, x2)), (3, (0, l3_h66))]) rfl ?_
                  refine r_getKI hX hP rfl fl_12_314 hS (x := af5) af5e ?_
                  refine r_ic_ge hX hP rfl (tgt := 95) rfl (by first | decide | omega) (by first | decide | omega) (by first | decide | omega) (by first | decide | omega) (fun c7 => ?_) (fun c7 => ?_)
                  · skip
                    refine r_ex hX hP 2 (pc' := 97) (st' := []) (lo' := [(0, (2, (Ad E 1))), (1, (0, e)), (2, (0, x2)), (3, (0, 0))]) rfl ?_
                    have loop97 : ∀ (nF : Nat) (l3_h97 : Int) (Gh97 : Gh), 0 ≤ l3_h97 → l3_h97 ≤ 20 → 20 - l3_h97 < (nF : Int) → X 0 0 97 [] [(0, (2, (Ad E 1))), (1, (0, e)), (2, (0, x2)), (3, (0, l3_h97))] S (hv [] [72, 73, 74, 75] (hv [120] [73, 79, 80, 81, 82, 83, 84, 85, 88, 90, 91] (hv [] [80, 88] (hv [] [79] (hv [] [76, 77, 78, 81, 82, 83, 84, 86, 87, 90, 91, 92] G G3) Gh14) Gh36) Gh66) Gh97) := by
                      intro nF
                      induction nF with
                      | zero => intro l3_h97 Gh97 yh97_0 yh97_1 ym97; exfalso; omega
                      | succ nF ih97 =>
                        intro l3_h97 Gh97 yh97_0 yh97_1 ym97
                        refine r_ex hX hP 2 (pc' := 99) (st' := [(2, (Ad E 1)), (0, l3_h97)]) (lo' := [(0, (2, (Ad E 1))), (1, (0, e)), (2, (0, x2)), (3, (0, l3_h97))]) rfl ?_
                        refine r_getKI hX hP rfl fl_12_314 hS (x := af5) af5e ?_
                        refine r_ic_ge hX hP rfl (tgt := 266) rfl (by first | decide | omega) (by first | decide | omega) (by first | decide | omega) (by first | decide | omega) (fun c8 => ?_) (fun c8 => ?_)
                        · skip
                          exact r_retV hX hP rfl rfl (by first | decide | omega) (by first | decide | omega) ⟨rfl, ⟨_, (hq_loop (hq_loop (hq_loop (hq_loop (hq_call (hq_refl _ _ _) rfl) rfl) rfl) rfl) rfl).symm⟩, rfl, trivial⟩
                        · skip
                          refine r_ex hX hP 2 (pc' := 108) (st' := []) (lo' := [(0, (2, (Ad E 1))), (1, (0, e)), (2, (0, x2)), (3, (0, l3_h97)), (4, (0, 0))]) rfl ?_
                          have loop108 : ∀ (nF : Nat) (l4_h108 : Int) (Gh108 : Gh), 0 ≤ l4_h108 → l4_h108 ≤ 20 → 20 - l4_h108 < (nF : Int) → X 0 0 108 [] [(0, (2, (Ad E 1))), (1, (0, e)), (2, (0, x2)), (3, (0, l3_h97)), (4, (0, l4_h108))] S (hv [] [72] (hv [] [72, 73, 74, 75] (hv [120] [73, 79, 80, 81, 82, 83, 84, 85, 88, 90, 91] (hv [] [80, 88] (hv [] [79] (hv [] [76, 77, 78, 81, 82, 83, 84, 86, 87, 90, 91, 92] G G3) Gh14) Gh36) Gh66) Gh97) Gh108) := by
                            intro nF
                            induction nF with
                            | zero => intro l4_h108 Gh108 yh108_0 yh108_1 ym108; exfalso; omega
                            | succ nF ih108 =>
                              intro l4_h108 Gh108 yh108_0 yh108_1 ym108
                              refine r_ex hX hP 2 (pc' := 112) (st' := [(0, 20), (0, l4_h108)]) (lo' := [(0, (2, (Ad E 1))), (1, (0, e)), (2, (0, x2)), (3, (0, l3_h97)), (4, (0, l4_h108))]) rfl ?_
                              refine r_ic_ge hX hP rfl (tgt := 148) rfl (by first | decide | omega) (by first | decide | omega) (by first | decide | omega) (by first | decide | omega) (fun c9 => ?_) (fun c9 => ?_)
                              · skip
                                refine r_ex hX hP 1 (pc' := 149) (st' := [(2, (Ad E 1))]) (lo' := [(0, (2, (Ad E 1))), (1, (0, e)), (2, (0, x2)), (3, (0, l3_h97)), (4, (0, l4_h108))]) rfl ?_
                                refine r_getC hX hP rfl fl_12_247 hS (fun s10 => ?_)
                                refine r_ex hX hP 2 (pc' := 154) (st' := [(0, l3_h97), (2, (Ad E 74)), (0, l3_h97), (2, (Ad E 74))]) (lo' := [(0, (2, (Ad E 1))), (1, (0, e)), (2, (0, x2)), (3, (0, l3_h97)), (4, (0, l4_h108))]) rfl ?_
                                refine r_lald hX hP rfl al_74 s10 (by first | decide | omega) (by first | decide | omega) (fun x11 x11e x11a x11b => ?_)
                                refine r_ex hX hP 1 (pc' := 156) (st' := [(2, (Ad E 1)), (1, x11), (0, l3_h97), (2, (Ad E 74))]) (lo' := [(0, (2, (Ad E 1))), (1, (0, e)), (2, (0, x2)), (3, (0, l3_h97)), (4, (0, l4_h108))]) rfl ?_
                                refine r_getC hX hP rfl fl_12_265 hS (fun s12 => ?_)
                                refine r_ex hX hP 1 (pc' := 160) (st' := [(0, l3_h97), (2, (Ad E 80)), (1, x11), (0, l3_h97), (2, (Ad E 74))]) (lo' := [(0, (2, (Ad E 1))), (1, (0, e)), (2, (0, x2)), (3, (0, l3_h97)), (4, (0, l4_h108))]) rfl ?_
                                refine r_lald hX hP rfl al_80 s12 (by first | decide | omega) (by first | decide | omega) (fun x13 x13e x13a x13b => ?_)
                                refine r_ex hX hP 1 (pc' := 162) (st' := [(1, (x11 + x13)), (0, l3_h97), (2, (Ad E 74))]) (lo' := [(0, (2, (Ad E 1))), (1, (0, e)), (2, (0, x2)), (3, (0, l3_h97)), (4, (0, l4_h108))]) rfl ?_
                                refine r_hvL hX (fun w14 w14a w14b w14e => ?_)
                                refine r_lastK hX hP rfl al_74 s10 (by first | decide | omega) (by first | decide | omega) (by first | decide | omega) (by first | decide | omega) (fun h15 => ?_)
                                refine r_ex hX hP 7 (pc' := 172) (st' := [(2, (Ad E 1))]) (lo' := [(0, (2, (Ad E 1))), (1, (0, e)), (2, (0, x2)), (3, (0, l3_h97)), (4, (0, ((20 * l3_h97) + x2)))]) rfl ?_
                                refine r_getC hX hP rfl fl_12_241 hS (fun s16 => ?_)
                                refine r_ex hX hP 1 (pc' := 177) (st' := [(0, ((20 * l3_h97) + x2)), (2, (Ad E 72))]) (lo' := [(0, (2, (Ad E 1))), (1, (0, e)), (2, (0, x2)), (3, (0, l3_h97)), (4, (0, ((20 * l3_h97) + x2)))]) rfl ?_
                                refine r_lald hX hP rfl al_72 s16 (by first | decide | omega) (by first | decide | omega) (fun x17 x17e x17a x17b => ?_)
                                refine r_ex hX hP 1 (pc' := 179) (st' := [(1, 0), (1, x17)]) (lo' := [(0, (2, (Ad E 1))), (1, (0, e)), (2, (0, x2)), (3, (0, l3_h97)), (4, (0, ((20 * l3_h97) + x2)))]) rfl ?_
                                refine r_lc_gt hX hP rfl rfl (tgt := 260) rfl (by first | decide | omega) (by first | decide | omega) (by first | decide | omega) (by first | decide | omega) (fun c18 => ?_) (fun c18 => ?_)
                                · skip
                                  refine r_ex hX hP 2 (pc' := 97) (st' := []) (lo' := [(0, (2, (Ad E 1))), (1, (0, e)), (2, (0, x2)), (3, (0, (l3_h97 + 1))), (4, (0, ((20 * l3_h97) + x2)))]) rfl ?_
                                  refine r_pick hX [0, 1, 2, 3] (lo' := [(0, (2, (Ad E 1))), (1, (0, e)), (2, (0, x2)), (3, (0, (l3_h97 + 1)))]) rfl ?_
                                  refine r_eqG (X := X) (hq_up (hq_loop (hq_base _ _ _ _) rfl) rfl) ?_
                                  exact ih97 (l3_h97 + 1) _ (by first | decide | omega) (by first | decide | omega) (by first | decide | omega)
                                · skip
                                  refine r_ex hX hP 1 (pc' := 184) (st' := [(2, (Ad E 1))]) (lo' := [(0, (2, (Ad E 1))), (1, (0, e)), (2, (0, x2)), (3, (0, l3_h97)), (4, (0, ((20 * l3_h97) + x2)))]) rfl ?_
                                  refine r_getC hX hP rfl fl_12_244 hS (fun s19 => ?_)
                                  refine r_ex hX hP 1 (pc' := 189) (st' := [(0, ((20 * l3_h97) + x2)), (2, (Ad E 73))]) (lo' := [(0, (2, (Ad E 1))), (1, (0, e)), (2, (0, x2)), (3, (0, l3_h97)), (4, (0, ((20 * l3_h97) + x2)))]) rfl ?_
                                  refine r_lald hX hP rfl al_73 s19 (by first | decide | omega) (by first | decide | omega) (fun x20 x20e x20a x20b => ?_)
                                  refine r_ex hX hP 1 (pc' := 191) (st' := [(1, 0), (1, x20)]) (lo' := [(0, (2, (Ad E 1))), (1, (0, e)), (2, (0, x2)), (3, (0, l3_h97)), (4, (0, ((20 * l3_h97) + x2)))]) rfl ?_
                                  refine r_lc_ne hX hP rfl rfl (tgt := 198) rfl (by first | decide | omega) (by first | decide | omega) (by first | decide | omega) (by first | decide | omega) (fun c21 => ?_) (fun c21 => ?_)
                                  · skip
                                    refine r_ex hX hP 1 (pc' := 199) (st' := [(2, (Ad E 1))]) (lo' := [(0, (2, (Ad E 1))), (1, (0, e)), (2, (0, x2)), (3, (0, l3_h97)), (4, (0, ((20 * l3_h97) + x2)))]) rfl ?_
                                    refine r_getC hX hP rfl fl_12_289 hS (fun s22 => ?_)
                                    refine r_ex hX hP 1 (pc' := 203) (st' := [(0, l3_h97), (2, (Ad E 88))]) (lo' := [(0, (2, (Ad E 1))), (1, (0, e)), (2, (0, x2)), (3, (0, l3_h97)), (4, (0, ((20 * l3_h97) + x2)))]) rfl ?_
                                    refine r_iald hX hP rfl al_88 s22 (by first | decide | omega) (by first | decide | omega) (fun x23 x23e x23a x23b => ?_)
                                    refine r_if_lt hX hP rfl (tgt := 236) rfl (by first | decide | omega) (by first | decide | omega) (fun c24 => ?_) (fun c24 => ?_)
                                    · skip
                                      refine r_ex hX hP 1 (pc' := 237) (st' := [(2, (Ad E 1))]) (lo' := [(0, (2, (Ad E 1))), (1, (0, e)), (2, (0, x2)), (3, (0, l3_h97)), (4, (0, ((20 * l3_h97) + x2)))]) rfl ?_
                                      refine r_getC hX hP rfl fl_12_250 hS (fun s25 => ?_)
                                      refine r_ex hX hP 2 (pc' := 242) (st' := [(0, l3_h97), (2, (Ad E 75)), (0, l3_h97), (2, (Ad E 75))]) (lo' := [(0, (2, (Ad E 1))), (1, (0, e)), (2, (0, x2)), (3, (0, l3_h97)), (4, (0, ((20 * l3_h97) + x2)))]) rfl ?_
                                      refine r_lald hX hP rfl al_75 s25 (by first | decide | omega) (by first | decide | omega) (fun x26 x26e x26a x26b => ?_)
                                      refine r_ex hX hP 1 (pc' := 244) (st' := [(2, (Ad E 1)), (1, x26), (0, l3_h97), (2, (Ad E 75))]) (lo' := [(0, (2, (Ad E 1))), (1, (0, e)), (2, (0, x2)), (3, (0, l3_h97)), (4, (0, ((20 * l3_h97) + x2)))]) rfl ?_
                                      refine r_getC hX hP rfl fl_12_244 hS (fun _ => ?_)
                                      refine r_ex hX hP 1 (pc' := 249) (st' := [(0, ((20 * l3_h97) + x2)), (2, (Ad E 73)), (1, x26), (0, l3_h97), (2, (Ad E 75))]) (lo' := [(0, (2, (Ad E 1))), (1, (0, e)), (2, (0, x2)), (3, (0, l3_h97)), (4, (0, ((20 * l3_h97) + x2)))]) rfl ?_
                                      refine r_laldK hX hP rfl al_73 s19 (by first | decide | omega) (by first | decide | omega) (x := x20) x20e ?_
                                      refine r_ex hX hP 1 (pc' := 251) (st' := [(1, (x26 + x20)), (0, l3_h97), (2, (Ad E 75))]) (lo' := [(0, (2, (Ad E 1))), (1, (0, e)), (2, (0, x2)), (3, (0, l3_h97)), (4, (0, ((20 * l3_h97) + x2)))]) rfl ?_
                                      refine r_hvL hX (fun w27 w27a w27b w27e => ?_)
                                      refine r_lastK hX hP rfl al_75 s25 (by first | decide | omega) (by first | decide | omega) (by first | decide | omega) (by first | decide | omega) (fun h28 => ?_)
                                      refine r_ex hX hP 1 (pc' := 253) (st' := [(2, (Ad E 1))]) (lo' := [(0, (2, (Ad E 1))), (1, (0, e)), (2, (0, x2)), (3, (0, l3_h97)), (4, (0, ((20 * l3_h97) + x2)))]) rfl ?_
                                      refine r_getC hX hP rfl fl_12_244 hS (fun _ => ?_)
                                      refine r_ex hX hP 2 (pc' := 259) (st' := [(1, 0), (0, ((20 * l3_h97) + x2)), (2, (Ad E 73))]) (lo' := [(0, (2, (Ad E 1))), (1, (0, e)), (2, (0, x2)), (3, (0, l3_h97)), (4, (0, ((20 * l3_h97) + x2)))]) rfl ?_
                                      refine r_lastK hX hP rfl al_73 s19 (by first | decide | omega) (by first | decide | omega) (by first | decide | omega) (by first | decide | omega) (fun h29 => ?_)
                                      refine r_ex hX hP 2 (pc' := 97) (st' := []) (lo' := [(0, (2, (Ad E 1))), (1, (0, e)), (2, (0, x2)), (3, (0, (l3_h97 + 1))), (4, (0, ((20 * l3_h97) + x2)))]) rfl ?_
                                      refine r_pick hX [0, 1, 2, 3] (lo' := [(0, (2, (Ad E 1))), (1, (0, e)), (2, (0, x2)), (3, (0, (l3_h97 + 1)))]) rfl ?_
                                      refine r_eqG (X := X) (hq_up (hq_up (hq_up (hq_loop (hq_base _ _ _ _) rfl) rfl) rfl) rfl) ?_
                                      exact ih97 (l3_h97 + 1) _ (by first | decide | omega) (by first | decide | omega) (by first | decide | omega)
                                    · skip
                                      refine r_ex hX hP 1 (pc' := 208) (st' := [(2, (Ad E 1))]) (lo' := [(0, (2, (Ad E 1))), (1, (0, e)), (2, (0, x2)), (3, (0, l3_h97)), (4, (0, ((20 * l3_h97) + x2)))]) rfl ?_
                                      refine r_getC hX hP rfl fl_12_244 hS (fun _ => ?_)
                                      refine r_ex hX hP 4 (pc' := 216) (st' := [(2, (Ad E 1)), (0, (20 * l3_h97)), (2, (Ad E 73))]) (lo' := [(0, (2, (Ad E 1))), (1, (0, e)), (2, (0, x2)), (3, (0, l3_h97)), (4, (0, ((20 * l3_h97) + x2)))]) rfl ?_
                                      refine r_getC hX hP rfl fl_12_289 hS (fun _ => ?_)
                                      refine r_ex hX hP 1 (pc' := 220) (st' := [(0, l3_h97), (2, (Ad E 88)), (0, (20 * l3_h97)), (2, (Ad E 73))]) (lo' := [(0, (2, (Ad E 1))), (1, (0, e)), (2, (0, x2)), (3, (0, l3_h97)), (4, (0, ((20 * l3_h97) + x2)))]) rfl ?_
                                      refine r_ialdK hX hP rfl al_88 s22 (by first | decide | omega) (by first | decide | omega) (x := x23) x23e ?_
                                      refine r_ex hX hP 2 (pc' := 223) (st' := [(0, ((20 * l3_h97) + x23)), (2, (Ad E 73)), (0, ((20 * l3_h97) + x23)), (2, (Ad E 73))]) (lo' := [(0, (2, (Ad E 1))), (1, (0, e)), (2, (0, x2)), (3, (0, l3_h97)), (4, (0, ((20 * l3_h97) + x2)))]) rfl ?_
                                      refine r_lald hX hP rfl al_73 s19 (by first | decide | omega) (by first | decide | omega) (fun x30 x30e x30a x30b => ?_)
                                      refine r_ex hX hP 1 (pc' := 225) (st' := [(2, (Ad E 1)), (1, x30), (0, ((20 * l3_h97) + x23)), (2, (Ad E 73))]) (lo' := [(0, (2, (Ad E 1))), (1, (0, e)), (2, (0, x2)), (3, (0, l3_h97)), (4, (0, ((20 * l3_h97) + x2)))]) rfl ?_
                                      refine r_getC hX hP rfl fl_12_244 hS (fun _ => ?_)
                                      refine r_ex hX hP 1 (pc' := 230) (st' := [(0, ((20 * l3_h97) + x2)), (2, (Ad E 73)), (1, x30), (0, ((20 * l3_h97) + x23)), (2, (Ad E 73))]) (lo' := [(0, (2, (Ad E 1))), (1, (0, e)), (2, (0, x2)), (3, (0, l3_h97)), (4, (0, ((20 * l3_h97) + x2)))]) rfl ?_
                                      refine r_laldK hX hP rfl al_73 s19 (by first | decide | omega) (by first | decide | omega) (x := x20) x20e ?_
                                      refine r_ex hX hP 1 (pc' := 232) (st' := [(1, (x30 + x20)), (0, ((20 * l3_h97) + x23)), (2, (Ad E 73))]) (lo' := [(0, (2, (Ad E 1))), (1, (0, e)), (2, (0, x2)), (3, (0, l3_h97)), (4, (0, ((20 * l3_h97) + x2)))]) rfl ?_
                                      refine r_hvL hX (fun w31 w31a w31b w31e => ?_)
                                      refine r_lastK hX hP rfl al_73 s19 (by first | decide | omega) (by first | decide | omega) (by first | decide | omega) (by first | decide | omega) (fun h32 => ?_)
                                      refine r_ex hX hP 2 (pc' := 253) (st' := [(2, (Ad E 1))]) (lo' := [(0, (2, (Ad E 1))), (1, (0, e)), (2, (0, x2)), (3, (0, l3_h97)), (4, (0, ((20 * l3_h97) + x2)))]) rfl ?_
                                      refine r_getC hX hP rfl fl_12_244 hS (fun _ => ?_)
                                      refine r_ex hX hP 2 (pc' := 259) (st' := [(1, 0), (0, ((20 * l3_h97) + x2)), (2, (Ad E 73))]) (lo' := [(0, (2, (Ad E 1))), (1, (0, e)), (2, (0, x2)), (3, (0, l3_h97)), (4, (0, ((20 * l3_h97) + x2)))]) rfl ?_
                                      refine r_lastK hX hP rfl al_73 s19 (by first | decide | omega) (by first | decide | omega) (by first | decide | omega) (by first | decide | omega) (fun h33 => ?_)
                                      refine r_ex hX hP 2 (pc' := 97) (st' := []) (lo' := [(0, (2, (Ad E 1))), (1, (0, e)), (2, (0, x2)), (3, (0, (l3_h97 + 1))), (4, (0, ((20 * l3_h97) + x2)))]) rfl ?_
                                      refine r_pick hX [0, 1, 2, 3] (lo' := [(0, (2, (Ad E 1))), (1, (0, e)), (2, (0, x2)), (3, (0, (l3_h97 + 1)))]) rfl ?_
                                      refine r_eqG (X := X) (hq_up (hq_up (hq_up (hq_loop (hq_base _ _ _ _) rfl) rfl) rfl) rfl) ?_
                                      exact ih97 (l3_h97 + 1) _ (by first | decide | omega) (by first | decide | omega) (by first | decide | omega)
                                  · skip
                                    refine r_ex hX hP 3 (pc' := 97) (st' := []) (lo' := [(0, (2, (Ad E 1))), (1, (0, e)), (2, (0, x2)), (3, (0, (l3_h97 + 1))), (4, (0, ((20 * l3_h97) + x2)))]) rfl ?_
                                    refine r_pick hX [0, 1, 2, 3] (lo' := [(0, (2, (Ad E 1))), (1, (0, e)), (2, (0, x2)), (3, (0, (l3_h97 + 1)))]) rfl ?_
                                    refine r_eqG (X := X) (hq_up (hq_loop (hq_base _ _ _ _) rfl) rfl) ?_
                                    exact ih97 (l3_h97 + 1) _ (by first | decide | omega) (by first | decide | omega) (by first | decide | omega)
                              · skip
                                refine r_ex hX hP 1 (pc' := 116) (st' := [(2, (Ad E 1))]) (lo' := [(0, (2, (Ad E 1))), (1, (0, e)), (2, (0, x2)), (3, (0, l3_h97)), (4, (0, l4_h108))]) rfl ?_
                                refine r_getC hX hP rfl fl_12_241 hS (fun s34 => ?_)
                                refine r_ex hX hP 6 (pc' := 127) (st' := [(0, ((20 * l3_h97) + l4_h108)), (2, (Ad E 72)), (0, ((20 * l3_h97) + l4_h108)), (2, (Ad E 72))]) (lo' := [(0, (2, (Ad E 1))), (1, (0, e)), (2, (0, x2)), (3, (0, l3_h97)), (4, (0, l4_h108))]) rfl ?_
                                refine r_lald hX hP rfl al_72 s34 (by first | decide | omega) (by first | decide | omega) (fun x35 x35e x35a x35b => ?_)
                                refine r_ex hX hP 1 (pc' := 129) (st' := [(2, (Ad E 1)), (1, x35), (0, ((20 * l3_h97) + l4_h108)), (2, (Ad E 72))]) (lo' := [(0, (2, (Ad E 1))), (1, (0, e)), (2, (0, x2)), (3, (0, l3_h97)), (4, (0, l4_h108))]) rfl ?_
                                refine r_getC hX hP rfl fl_12_262 hS (fun s36 => ?_)
                                refine r_ex hX hP 5 (pc' := 139) (st' := [(0, ((20 * l3_h97) + l4_h108)), (2, (Ad E 79)), (1, x35), (0, ((20 * l3_h97) + l4_h108)), (2, (Ad E 72))]) (lo' := [(0, (2, (Ad E 1))), (1, (0, e)), (2, (0, x2)), (3, (0, l3_h97)), (4, (0, l4_h108))]) rfl ?_
                                refine r_lald hX hP rfl al_79 s36 (by first | decide | omega) (by first | decide | omega) (fun x37 x37e x37a x37b => ?_)
                                refine r_ex hX hP 1 (pc' := 141) (st' := [(1, (x35 + x37)), (0, ((20 * l3_h97) + l4_h108)), (2, (Ad E 72))]) (lo' := [(0, (2, (Ad E 1))), (1, (0, e)), (2, (0, x2)), (3, (0, l3_h97)), (4, (0, l4_h108))]) rfl ?_
                                refine r_hvL hX (fun w38 w38a w38b w38e => ?_)
                                refine r_lastK hX hP rfl al_72 s34 (by first | decide | omega) (by first | decide | omega) (by first | decide | omega) (by first | decide | omega) (fun h39 => ?_)
                                refine r_ex hX hP 2 (pc' := 108) (st' := []) (lo' := [(0, (2, (Ad E 1))), (1, (0, e)), (2, (0, x2)), (3, (0, l3_h97)), (4, (0, (l4_h108 + 1)))]) rfl ?_
                                refine r_eqG (X := X) (hq_up (hq_base _ _ _ _) rfl) ?_
                                exact ih108 (l4_h108 + 1) _ (by first | decide | omega) (by first | decide | omega) (by first | decide | omega)
                          refine r_eqG (X := X) (hq_refl [] [72] _) ?_
                          exact loop108 ((20 - 0) + 1 : Int).toNat 0 _ (by first | decide | omega) (by first | decide | omega) (by first | decide | omega)
                    refine r_eqG (X := X) (hq_refl [] [72, 73, 74, 75] _) ?_
                    exact loop97 ((20 - 0) + 1 : Int).toNat 0 _ (by first | decide | omega) (by first | decide | omega) (by first | decide | omega)
                  · skip
                    refine r_ex hX hP 1 (pc' := 75) (st' := [(2, (Ad E 1))]) (lo' := [(0, (2, (Ad E 1))), (1, (0, e)), (2, (0, x2)), (3, (0, l3_h66))]) rfl ?_
                    refine r_getC hX hP rfl fl_12_18 hS (fun s40 => ?_)
                    refine r_ex hX hP 1 (pc' := 79) (st' := [(0, l3_h66), (2, (Ad E 2))]) (lo' := [(0, (2, (Ad E 1))), (1, (0, e)), (2, (0, x2)), (3, (0, l3_h66))]) rfl ?_
                    refine r_iald hX hP rfl al_2 s40 (by first | decide | omega) (by first | decide | omega) (fun x41 x41e x41a x41b => ?_)
                    have mi42 : MI E (hv [120] [73, 79, 80, 81, 82, 83, 84, 85, 88, 90, 91] (hv [] [80, 88] (hv [] [79] (hv [] [76, 77, 78, 81, 82, 83, 84, 86, 87, 90, 91, 92] G G3) Gh14) Gh36) Gh66) := mi_keep mi rfl rfl rfl rfl rfl rfl (fun _ => rfl) (fun _ => rfl) (fun _ => rfl) (fun _ => rfl) (fun _ => rfl) (fun _ => rfl) (fun _ => rfl) (fun _ => rfl) (fun _ => rfl) (fun _ => rfl) (fun _ => rfl) (fun _ => rfl) (fun _ => rfl)
                    have x41m := mi_hand mi42 af5e x41e (by first | decide | omega) (by first | decide | omega)
                    refine r_if_ge hX hP rfl (tgt := 89) rfl (by first | decide | omega) (by first | decide | omega) (fun c43 => ?_) (fun c43 => ?_)
                    · skip
                      refine r_ex hX hP 2 (pc' := 66) (st' := []) (lo' := [(0, (2, (Ad E 1))), (1, (0, e)), (2, (0, x2)), (3, (0, (l3_h66 + 1)))]) rfl ?_
                      refine r_eqG (X := X) (hq_base _ _ _ _) ?_
                      exact ih66 (l3_h66 + 1) _ (by first | decide | omega) (by first | decide | omega) (by first | decide | omega)
                    · skip
                      refine r_ex hX hP 3 (pc' := 86) (st' := [(0, l3_h66), (0, e), (2, (Ad E 1))]) (lo' := [(0, (2, (Ad E 1))), (1, (0, e)), (2, (0, x2)), (3, (0, l3_h66))]) rfl ?_
                      refine r_callV gd hX hP rfl cv_12_563 hS (d' := 37) (mc' := 0) (ms' := 0) (as' := [(0, e), (0, l3_h66)]) (st := []) (by first | decide | omega) (by first | decide | omega) (by first | decide | omega) rfl rfl (Nat.le_of_ble_eq_true rfl) (c_X12_happensTo E S (hv [120] [73, 79, 80, 81, 82, 83, 84, 85, 88, 90, 91] (hv [] [80, 88] (hv [] [79] (hv [] [76, 77, 78, 81, 82, 83, 84, 86, 87, 90, 91, 92] G G3) Gh14) Gh36) Gh66) e l3_h66 hS events events_e (by first | decide | omega) (by first | decide | omega) (by first | decide | omega) (by first | decide | omega) (by first | decide | omega) mi42) ?_
                      rintro _ _ _ ⟨rfl, ⟨G44, rfl⟩, rfl, -⟩
                      refine r_ex hX hP 2 (pc' := 66) (st' := []) (lo' := [(0, (2, (Ad E 1))), (1, (0, e)), (2, (0, x2)), (3, (0, (l3_h66 + 1)))]) rfl ?_
                      refine r_eqG (X := X) (hq_call (hq_base _ _ _ _) rfl) ?_
                      exact ih66 (l3_h66 + 1) _ (by first | decide | omega) (by first | decide | omega) (by first | decide | omega)
              refine r_eqG (X := X) (hq_refl [120] [73, 79, 80, 81, 82, 83, 84, 85, 88, 90, 91] _) ?_
              exact loop66 ((20 - 0) + 1 : Int).toNat 0 _ (by first | decide | omega) (by first | decide | omega) (by first | decide | omega)
            · skip
              refine r_ex hX hP 1 (pc' := 45) (st' := [(2, (Ad E 1))]) (lo' := [(0, (2, (Ad E 1))), (1, (0, e)), (2, (0, x2)), (3, (0, l3_h36))]) rfl ?_
              refine r_getC hX hP rfl fl_12_265 hS (fun s45 => ?_)
              refine r_ex hX hP 2 (pc' := 50) (st' := [(1, 0), (0, l3_h36), (2, (Ad E 80))]) (lo' := [(0, (2, (Ad E 1))), (1, (0, e)), (2, (0, x2)), (3, (0, l3_h36))]) rfl ?_
              refine r_lastK hX hP rfl al_80 s45 (by first | decide | omega) (by first | decide | omega) (by first | decide | omega) (by first | decide | omega) (fun h46 => ?_)
              refine r_ex hX hP 1 (pc' := 52) (st' := [(2, (Ad E 1))]) (lo' := [(0, (2, (Ad E 1))), (1, (0, e)), (2, (0, x2)), (3, (0, l3_h36))]) rfl ?_
              refine r_getC hX hP rfl fl_12_289 hS (fun s47 => ?_)
              refine r_ex hX hP 2 (pc' := 57) (st' := [(0, (-1)), (0, l3_h36), (2, (Ad E 88))]) (lo' := [(0, (2, (Ad E 1))), (1, (0, e)), (2, (0, x2)), (3, (0, l3_h36))]) rfl ?_
              refine r_iastK hX hP rfl al_88 s47 (by first | decide | omega) (by first | decide | omega) (by first | decide | omega) (by first | decide | omega) (fun h48 => ?_)
              refine r_ex hX hP 2 (pc' := 36) (st' := []) (lo' := [(0, (2, (Ad E 1))), (1, (0, e)), (2, (0, x2)), (3, (0, (l3_h36 + 1)))]) rfl ?_
              refine r_eqG (X := X) (hq_up (hq_up (hq_base _ _ _ _) rfl) rfl) ?_
              exact ih36 (l3_h36 + 1) _ (by first | decide | omega) (by first | decide | omega) (by first | decide | omega)
        refine r_eqG (X := X) (hq_refl [] [80, 88] _) ?_
        exact loop36 ((20 - 0) + 1 : Int).toNat 0 _ (by first | decide | omega) (by first | decide | omega) (by first | decide | omega)
      · skip
        refine r_ex hX hP 1 (pc' := 22) (st' := [(2, (Ad E 1))]) (lo' := [(0, (2, (Ad E 1))), (1, (0, e)), (2, (0, x2)), (3, (0, l3_h14))]) rfl ?_
        refine r_getC hX hP rfl fl_12_262 hS (fun s49 => ?_)
        refine r_ex hX hP 2 (pc' := 27) (st' := [(1, 0), (0, l3_h14), (2, (Ad E 79))]) (lo' := [(0, (2, (Ad E 1))), (1, (0, e)), (2, (0, x2)), (3, (0, l3_h14))]) rfl ?_
        refine r_lastK hX hP rfl al_79 s49 (by first | decide | omega) (by first | decide | omega) (by first | decide | omega) (by first | decide | omega) (fun h50 => ?_)
        refine r_ex hX hP 2 (pc' := 14) (st' := []) (lo' := [(0, (2, (Ad E 1))), (1, (0, e)), (2, (0, x2)), (3, (0, (l3_h14 + 1)))]) rfl ?_
        refine r_eqG (X := X) (hq_up (hq_base _ _ _ _) rfl) ?_
        exact ih14 (l3_h14 + 1) _ (by first | decide | omega) (by first | decide | omega) (by first | decide | omega)
  refine r_eqG (X := X) (hq_refl [] [79] _) ?_
  exact loop14 ((400 - 0) + 1 : Int).toNat 0 _ (by first | decide | omega) (by first | decide | omega) (by first | decide | omega)
set_option maxRecDepth 100000 in
set_option maxHeartbeats 4000000 in
theorem c_X12_runs (E : En) (S : Sg) (G : Gh) (day stop : Int) (hS : S (Ad E 1) = 1) (day_a : 0 ≤ day) (day_b : day ≤ 40000) (stop_a : (-2147483648) ≤ stop) (stop_b : stop ≤ 2147483647) (mi : MI E G) : Calls E mX12_runs [(2, (Ad E 1)), (0, day), (0, stop)] S G 39 0 0 (fun r S' G' => S = S' ∧ (∃ G1, hv [120] [19, 72, 73, 74, 75, 76, 77, 78, 79, 80, 81, 82, 83, 84, 85, 86, 87, 88, 90, 91, 92] G G1 = G') ∧ ∃ z : Int, r = some (0, z) ∧ 0 ≤ z ∧ z ≤ 1) := by
  refine calls_by [(0, (2, (Ad E 1))), (1, (0, day)), (2, (0, stop))] rfl rfl (Nat.le_of_ble_eq_true rfl) (fun X hX => ?_)
  have hP := hPX12_runs
  refine r_ex hX hP 1 (pc' := 1) (st' := [(2, (Ad E 1))]) (lo' := [(0, (2, (Ad E 1))), (1, (0, day)), (2, (0, stop))]) rfl ?_
  refine r_callV gd hX hP rfl cv_12_533 hS (d' := 0) (mc' := 0) (ms' := 0) (as' := []) (st := []) (by first | decide | omega) (by first | decide | omega) (by first | decide | omega) rfl rfl (Nat.le_of_ble_eq_true rfl) (c_X12_begin E S G  hS) ?_
  rintro _ _ _ ⟨rfl, ⟨G1, rfl⟩, rfl, -⟩
  refine r_ex hX hP 2 (pc' := 6) (st' := [(0, (-1)), (2, (Ad E 1))]) (lo' := [(0, (2, (Ad E 1))), (1, (0, day)), (2, (0, stop))]) rfl ?_
  refine r_callV gd hX hP rfl cv_12_536 hS (d' := 3) (mc' := 0) (ms' := 0) (as' := [(0, (-1))]) (st := []) (by first | decide | omega) (by first | decide | omega) (by first | decide | omega) rfl rfl (Nat.le_of_ble_eq_true rfl) (c_X12_nextDay E S (hv [] [19, 72, 73, 74, 75] G G1) (-1) hS (by first | decide | omega) (by first | decide | omega)) ?_
  rintro _ _ _ ⟨rfl, rfl, z2, rfl, z2a, z2b, f3⟩
  refine r_ex hX hP 1 (pc' := 10) (st' := []) (lo' := [(0, (2, (Ad E 1))), (1, (0, day)), (2, (0, stop)), (3, (0, z2))]) rfl ?_
  have loop10 : ∀ (nF : Nat) (l3_h10 : Int) (Gh10 : Gh), 0 ≤ l3_h10 → l3_h10 ≤ 1000000000 → 1000000001 - l3_h10 < (nF : Int) → X 0 0 10 [] [(0, (2, (Ad E 1))), (1, (0, day)), (2, (0, stop)), (3, (0, l3_h10))] S (hv [120] [19, 72, 73, 74, 75, 76, 77, 78, 79, 80, 81, 82, 83, 84, 85, 86, 87, 88, 90, 91, 92] (hv [] [19, 72, 73, 74, 75] G G1) Gh10) := by
    intro nF
    induction nF with
    | zero => intro l3_h10 Gh10 yh10_0 yh10_1 ym10; exfalso; omega
    | succ nF ih10 =>
      intro l3_h10 Gh10 yh10_0 yh10_1 ym10
      refine r_ex hX hP 2 (pc' := 12) (st' := [(0, day), (0, l3_h10)]) (lo' := [(0, (2, (Ad E 1))), (1, (0, day)), (2, (0, stop)), (3, (0, l3_h10))]) rfl ?_
      refine r_ic_gt hX hP rfl (tgt := 246) rfl (by first | decide | omega) (by first | decide | omega) (by first | decide | omega) (by first | decide | omega) (fun c4 => ?_) (fun c4 => ?_)
      · skip
        refine r_ex hX hP 1 (pc' := 247) (st' := [(0, 1)]) (lo' := [(0, (2, (Ad E 1))), (1, (0, day)), (2, (0, stop)), (3, (0, l3_h10))]) rfl ?_
        exact r_retZ hX hP rfl rfl (by first | decide | omega) (by first | decide | omega) (by first | decide | omega) (by first | decide | omega) ⟨rfl, ⟨_, (hq_loop (hq_call (hq_refl _ _ _) rfl) rfl).symm⟩, 1, rfl, (by first | decide | omega)⟩
      · skip
        refine r_ex hX hP 2 (pc' := 18) (st' := []) (lo' := [(0, (2, (Ad E 1))), (1, (0, day)), (2, (0, stop)), (3, (0, l3_h10)), (4, (0, 0))]) rfl ?_
        have loop18 : ∀ (nF : Nat) (l4_h18 : Int) (Gh18 : Gh), 0 ≤ l4_h18 → l4_h18 ≤ 40 → 40 - l4_h18 < (nF : Int) → X 0 0 18 [] [(0, (2, (Ad E 1))), (1, (0, day)), (2, (0, stop)), (3, (0, l3_h10)), (4, (0, l4_h18))] S (hv [] [72, 73] (hv [120] [19, 72, 73, 74, 75, 76, 77, 78, 79, 80, 81, 82, 83, 84, 85, 86, 87, 88, 90, 91, 92] (hv [] [19, 72, 73, 74, 75] G G1) Gh10) Gh18) := by
          intro nF
          induction nF with
          | zero => intro l4_h18 Gh18 yh18_0 yh18_1 ym18; exfalso; omega
          | succ nF ih18 =>
            intro l4_h18 Gh18 yh18_0 yh18_1 ym18
            refine r_ex hX hP 2 (pc' := 21) (st' := [(2, (Ad E 1)), (0, l4_h18)]) (lo' := [(0, (2, (Ad E 1))), (1, (0, day)), (2, (0, stop)), (3, (0, l3_h10)), (4, (0, l4_h18))]) rfl ?_
            refine r_getI hX hP rfl fl_12_336 hS (fun if5 if5e if5a if5b => ?_)
            refine r_ic_ge hX hP rfl (tgt := 129) rfl (by first | decide | omega) (by first | decide | omega) (by first | decide | omega) (by first | decide | omega) (fun c6 => ?_) (fun c6 => ?_)
            · skip
              refine r_ex hX hP 2 (pc' := 132) (st' := []) (lo' := [(0, (2, (Ad E 1))), (1, (0, day)), (2, (0, stop)), (3, (0, l3_h10)), (4, (0, 0))]) rfl ?_
              have loop132 : ∀ (nF : Nat) (l4_h132 : Int) (Gh132 : Gh), 0 ≤ l4_h132 → l4_h132 ≤ 40 → 40 - l4_h132 < (nF : Int) → X 0 0 132 [] [(0, (2, (Ad E 1))), (1, (0, day)), (2, (0, stop)), (3, (0, l3_h10)), (4, (0, l4_h132))] S (hv [] [19, 72, 73] (hv [] [72, 73] (hv [120] [19, 72, 73, 74, 75, 76, 77, 78, 79, 80, 81, 82, 83, 84, 85, 86, 87, 88, 90, 91, 92] (hv [] [19, 72, 73, 74, 75] G G1) Gh10) Gh18) Gh132) := by
                intro nF
                induction nF with
                | zero => intro l4_h132 Gh132 yh132_0 yh132_1 ym132; exfalso; omega
                | succ nF ih132 =>
                  intro l4_h132 Gh132 yh132_0 yh132_1 ym132
                  refine r_ex hX hP 2 (pc' := 135) (st' := [(2, (Ad E 1)), (0, l4_h132)]) (lo' := [(0, (2, (Ad E 1))), (1, (0, day)), (2, (0, stop)), (3, (0, l3_h10)), (4, (0, l4_h132))]) rfl ?_
                  refine r_getI hX hP rfl fl_12_342 hS (fun tf7 tf7e tf7a tf7b => ?_)
                  refine r_ic_ge hX hP rfl (tgt := 173) rfl (by first | decide | omega) (by first | decide | omega) (by first | decide | omega) (by first | decide | omega) (fun c8 => ?_) (fun c8 => ?_)
                  · skip
                    refine r_ex hX hP 2 (pc' := 176) (st' := []) (lo' := [(0, (2, (Ad E 1))), (1, (0, day)), (2, (0, stop)), (3, (0, l3_h10)), (4, (0, 0))]) rfl ?_
                    have loop176 : ∀ (nF : Nat) (l4_h176 : Int) (Gh176 : Gh), 0 ≤ l4_h176 → l4_h176 ≤ 16 → 16 - l4_h176 < (nF : Int) → X 0 0 176 [] [(0, (2, (Ad E 1))), (1, (0, day)), (2, (0, stop)), (3, (0, l3_h10)), (4, (0, l4_h176))] S (hv [120] [72, 73, 74, 75, 76, 77, 78, 79, 80, 81, 82, 83, 84, 85, 86, 87, 88, 90, 91, 92] (hv [] [19, 72, 73] (hv [] [72, 73] (hv [120] [19, 72, 73, 74, 75, 76, 77, 78, 79, 80, 81, 82, 83, 84, 85, 86, 87, 88, 90, 91, 92] (hv [] [19, 72, 73, 74, 75] G G1) Gh10) Gh18) Gh132) Gh176) := by
                      intro nF
                      induction nF with
                      | zero => intro l4_h176 Gh176 yh176_0 yh176_1 ym176; exfalso; omega
                      | succ nF ih176 =>
                        intro l4_h176 Gh176 yh176_0 yh176_1 ym176
                        refine r_ex hX hP 2 (pc' := 179) (st' := [(2, (Ad E 1)), (0, l4_h176)]) (lo' := [(0, (2, (Ad E 1))), (1, (0, day)), (2, (0, stop)), (3, (0, l3_h10)), (4, (0, l4_h176))]) rfl ?_
                        refine r_getI hX hP rfl fl_12_490 hS (fun ef9 ef9e ef9a ef9b => ?_)
                        refine r_ic_ge hX hP rfl (tgt := 237) rfl (by first | decide | omega) (by first | decide | omega) (by first | decide | omega) (by first | decide | omega) (fun c10 => ?_) (fun c10 => ?_)
                        · skip
                          refine r_ex hX hP 2 (pc' := 239) (st' := [(0, l3_h10), (2, (Ad E 1))]) (lo' := [(0, (2, (Ad E 1))), (1, (0, day)), (2, (0, stop)), (3, (0, l3_h10)), (4, (0, l4_h176))]) rfl ?_
                          refine r_callV gd hX hP rfl cv_12_536 hS (d' := 3) (mc' := 0) (ms' := 0) (as' := [(0, l3_h10)]) (st := []) (by first | decide | omega) (by first | decide | omega) (by first | decide | omega) rfl rfl (Nat.le_of_ble_eq_true rfl) (c_X12_nextDay E S (hv [120] [72, 73, 74, 75, 76, 77, 78, 79, 80, 81, 82, 83, 84, 85, 86, 87, 88, 90, 91, 92] (hv [] [19, 72, 73] (hv [] [72, 73] (hv [120] [19, 72, 73, 74, 75, 76, 77, 78, 79, 80, 81, 82, 83, 84, 85, 86, 87, 88, 90, 91, 92] (hv [] [19, 72, 73, 74, 75] G G1) Gh10) Gh18) Gh132) Gh176) l3_h10 hS (by first | decide | omega) (by first | decide | omega)) ?_
                          rintro _ _ _ ⟨rfl, rfl, z11, rfl, z11a, z11b, f12⟩
                          refine r_ex hX hP 2 (pc' := 10) (st' := []) (lo' := [(0, (2, (Ad E 1))), (1, (0, day)), (2, (0, stop)), (3, (0, z11)), (4, (0, l4_h176))]) rfl ?_
                          refine r_pick hX [0, 1, 2, 3] (lo' := [(0, (2, (Ad E 1))), (1, (0, day)), (2, (0, stop)), (3, (0, z11))]) rfl ?_
                          refine r_eqG (X := X) (hq_loop (hq_loop (hq_loop (hq_base _ _ _ _) rfl) rfl) rfl) ?_
                          exact ih10 z11 _ (by first | decide | omega) (by first | decide | omega) (by first | decide | omega)
                        · skip
                          refine r_ex hX hP 2 (pc' := 188) (st' := [(0, l4_h176), (2, (Ad E 1))]) (lo' := [(0, (2, (Ad E 1))), (1, (0, day)), (2, (0, stop)), (3, (0, l3_h10)), (4, (0, l4_h176))]) rfl ?_
                          refine r_callV gd hX hP rfl cv_12_512 hS (d' := 1) (mc' := 0) (ms' := 0) (as' := [(0, l4_h176)]) (st := []) (by first | decide | omega) (by first | decide | omega) (by first | decide | omega) rfl rfl (Nat.le_of_ble_eq_true rfl) (c_X12_eventCounts E S (hv [120] [72, 73, 74, 75, 76, 77, 78, 79, 80, 81, 82, 83, 84, 85, 86, 87, 88, 90, 91, 92] (hv [] [19, 72, 73] (hv [] [72, 73] (hv [120] [19, 72, 73, 74, 75, 76, 77, 78, 79, 80, 81, 82, 83, 84, 85, 86, 87, 88, 90, 91, 92] (hv [] [19, 72, 73, 74, 75] G G1) Gh10) Gh18) Gh132) Gh176) l4_h176 hS (by first | decide | omega) (by first | decide | omega)) ?_
                          rintro _ _ _ ⟨rfl, rfl, z13, rfl, z13a, z13b⟩
                          refine r_if_eq hX hP rfl (tgt := 231) rfl (by first | decide | omega) (by first | decide | omega) (fun c14 => ?_) (fun c14 => ?_)
                          · skip
                            refine r_ex hX hP 2 (pc' := 176) (st' := []) (lo' := [(0, (2, (Ad E 1))), (1, (0, day)), (2, (0, stop)), (3, (0, l3_h10)), (4, (0, (l4_h176 + 1)))]) rfl ?_
                            refine r_eqG (X := X) (hq_base _ _ _ _) ?_
                            exact ih176 (l4_h176 + 1) _ (by first | decide | omega) (by first | decide | omega) (by first | decide | omega)
                          · skip
                            refine r_ex hX hP 1 (pc' := 195) (st' := [(2, (Ad E 1))]) (lo' := [(0, (2, (Ad E 1))), (1, (0, day)), (2, (0, stop)), (3, (0, l3_h10)), (4, (0, l4_h176))]) rfl ?_
                            refine r_getC hX hP rfl fl_12_80 hS (fun s15 => ?_)
                            refine r_ex hX hP 1 (pc' := 200) (st' := [(0, l4_h176), (2, (Ad E 22))]) (lo' := [(0, (2, (Ad E 1))), (1, (0, day)), (2, (0, stop)), (3, (0, l3_h10)), (4, (0, l4_h176))]) rfl ?_
                            refine r_iald hX hP rfl al_22 s15 (by first | decide | omega) (by first | decide | omega) (fun x16 x16e x16a x16b => ?_)
                            refine r_ex hX hP 1 (pc' := 202) (st' := [(0, l3_h10), (0, x16)]) (lo' := [(0, (2, (Ad E 1))), (1, (0, day)), (2, (0, stop)), (3, (0, l3_h10)), (4, (0, l4_h176))]) rfl ?_
                            refine r_ic_eq hX hP rfl (tgt := 208) rfl (by first | decide | omega) (by first | decide | omega) (by first | decide | omega) (by first | decide | omega) (fun c17 => ?_) (fun c17 => ?_)
                            · skip
                              refine r_ex hX hP 2 (pc' := 211) (st' := [(0, stop), (0, l4_h176)]) (lo' := [(0, (2, (Ad E 1))), (1, (0, day)), (2, (0, stop)), (3, (0, l3_h10)), (4, (0, l4_h176))]) rfl ?_
                              refine r_ic_ne hX hP rfl (tgt := 216) rfl (by first | decide | omega) (by first | decide | omega) (by first | decide | omega) (by first | decide | omega) (fun c18 => ?_) (fun c18 => ?_)
                              · skip
                                refine r_ex hX hP 2 (pc' := 219) (st' := [(0, l4_h176), (2, (Ad E 1))]) (lo' := [(0, (2, (Ad E 1))), (1, (0, day)), (2, (0, stop)), (3, (0, l3_h10)), (4, (0, l4_h176))]) rfl ?_
                                have mi19 : MI E (hv [120] [72, 73, 74, 75, 76, 77, 78, 79, 80, 81, 82, 83, 84, 85, 86, 87, 88, 90, 91, 92] (hv [] [19, 72, 73] (hv [] [72, 73] (hv [120] [19, 72, 73, 74, 75, 76, 77, 78, 79, 80, 81, 82, 83, 84, 85, 86, 87, 88, 90, 91, 92] (hv [] [19, 72, 73, 74, 75] G G1) Gh10) Gh18) Gh132) Gh176) := mi_keep mi rfl rfl rfl rfl rfl rfl (fun _ => rfl) (fun _ => rfl) (fun _ => rfl) (fun _ => rfl) (fun _ => rfl) (fun _ => rfl) (fun _ => rfl) (fun _ => rfl) (fun _ => rfl) (fun _ => rfl) (fun _ => rfl) (fun _ => rfl) (fun _ => rfl)
                                refine r_callV gd hX hP rfl cv_12_542 hS (d' := 38) (mc' := 0) (ms' := 0) (as' := [(0, l4_h176)]) (st := []) (by first | decide | omega) (by first | decide | omega) (by first | decide | omega) rfl rfl (Nat.le_of_ble_eq_true rfl) (c_X12_happens E S (hv [120] [72, 73, 74, 75, 76, 77, 78, 79, 80, 81, 82, 83, 84, 85, 86, 87, 88, 90, 91, 92] (hv [] [19, 72, 73] (hv [] [72, 73] (hv [120] [19, 72, 73, 74, 75, 76, 77, 78, 79, 80, 81, 82, 83, 84, 85, 86, 87, 88, 90, 91, 92] (hv [] [19, 72, 73, 74, 75] G G1) Gh10) Gh18) Gh132) Gh176) l4_h176 hS ef9 ef9e (by first | decide | omega) (by first | decide | omega) (by first | decide | omega) mi19) ?_
                                rintro _ _ _ ⟨rfl, ⟨G20, rfl⟩, rfl, -⟩
                                refine r_ex hX hP 1 (pc' := 223) (st' := [(2, (Ad E 1))]) (lo' := [(0, (2, (Ad E 1))), (1, (0, day)), (2, (0, stop)), (3, (0, l3_h10)), (4, (0, l4_h176))]) rfl ?_
                                refine r_callV gd hX hP rfl cv_12_545 hS (d' := 1) (mc' := 0) (ms' := 0) (as' := []) (st := []) (by first | decide | omega) (by first | decide | omega) (by first | decide | omega) rfl rfl (Nat.le_of_ble_eq_true rfl) (c_X12_isTooMuch E S (hv [120] [72, 73, 74, 75, 76, 77, 78, 79, 80, 81, 82, 83, 84, 85, 86, 87, 88, 90, 91, 92] (hv [120] [72, 73, 74, 75, 76, 77, 78, 79, 80, 81, 82, 83, 84, 85, 86, 87, 88, 90, 91, 92] (hv [] [19, 72, 73] (hv [] [72, 73] (hv [120] [19, 72, 73, 74, 75, 76, 77, 78, 79, 80, 81, 82, 83, 84, 85, 86, 87, 88, 90, 91, 92] (hv [] [19, 72, 73, 74, 75] G G1) Gh10) Gh18) Gh132) Gh176) G20)  hS) ?_
                                rintro _ _ _ ⟨rfl, ⟨G21, rfl⟩, z22, rfl, z22a, z22b⟩
                                refine r_if_eq hX hP rfl (tgt := 231) rfl (by first | decide | omega) (by first | decide | omega) (fun c23 => ?_) (fun c23 => ?_)
                                · skip
                                  refine r_ex hX hP 2 (pc' := 176) (st' := []) (lo' := [(0, (2, (Ad E 1))), (1, (0, day)), (2, (0, stop)), (3, (0, l3_h10)), (4, (0, (l4_h176 + 1)))]) rfl ?_
                                  refine r_eqG (X := X) (hq_call (hq_call (hq_base _ _ _ _) rfl) rfl) ?_
                                  exact ih176 (l4_h176 + 1) _ (by first | decide | omega) (by first | decide | omega) (by first | decide | omega)
                                · skip
                                  refine r_ex hX hP 1 (pc' := 230) (st' := [(0, 0)]) (lo' := [(0, (2, (Ad E 1))), (1, (0, day)), (2, (0, stop)), (3, (0, l3_h10)), (4, (0, l4_h176))]) rfl ?_
                                  exact r_retZ hX hP rfl rfl (by first | decide | omega) (by first | decide | omega) (by first | decide | omega) (by first | decide | omega) ⟨rfl, ⟨_, (hq_call (hq_call (hq_loop (hq_loop (hq_loop (hq_loop (hq_call (hq_refl _ _ _) rfl) rfl) rfl) rfl) rfl) rfl) rfl).symm⟩, 0, rfl, (by first | decide | omega)⟩
                              · skip
                                refine r_ex hX hP 1 (pc' := 215) (st' := [(0, 1)]) (lo' := [(0, (2, (Ad E 1))), (1, (0, day)), (2, (0, stop)), (3, (0, l3_h10)), (4, (0, l4_h176))]) rfl ?_
                                exact r_retZ hX hP rfl rfl (by first | decide | omega) (by first | decide | omega) (by first | decide | omega) (by first | decide | omega) ⟨rfl, ⟨_, (hq_loop (hq_loop (hq_loop (hq_loop (hq_call (hq_refl _ _ _) rfl) rfl) rfl) rfl) rfl).symm⟩, 1, rfl, (by first | decide | omega)⟩
                            · skip
                              refine r_ex hX hP 3 (pc' := 176) (st' := []) (lo' := [(0, (2, (Ad E 1))), (1, (0, day)), (2, (0, stop)), (3, (0, l3_h10)), (4, (0, (l4_h176 + 1)))]) rfl ?_
                              refine r_eqG (X := X) (hq_base _ _ _ _) ?_
                              exact ih176 (l4_h176 + 1) _ (by first | decide | omega) (by first | decide | omega) (by first | decide | omega)
                    refine r_eqG (X := X) (hq_refl [120] [72, 73, 74, 75, 76, 77, 78, 79, 80, 81, 82, 83, 84, 85, 86, 87, 88, 90, 91, 92] _) ?_
                    exact loop176 ((16 - 0) + 1 : Int).toNat 0 _ (by first | decide | omega) (by first | decide | omega) (by first | decide | omega)
                  · skip
                    refine r_ex hX hP 2 (pc' := 144) (st' := [(0, l4_h132), (2, (Ad E 1))]) (lo' := [(0, (2, (Ad E 1))), (1, (0, day)), (2, (0, stop)), (3, (0, l3_h10)), (4, (0, l4_h132))]) rfl ?_
                    refine r_callV gd hX hP rfl cv_12_530 hS (d' := 1) (mc' := 0) (ms' := 0) (as' := [(0, l4_h132)]) (st := []) (by first | decide | omega) (by first | decide | omega) (by first | decide | omega) rfl rfl (Nat.le_of_ble_eq_true rfl) (c_X12_tradeCounts E S (hv [] [19, 72, 73] (hv [] [72, 73] (hv [120] [19, 72, 73, 74, 75, 76, 77, 78, 79, 80, 81, 82, 83, 84, 85, 86, 87, 88, 90, 91, 92] (hv [] [19, 72, 73, 74, 75] G G1) Gh10) Gh18) Gh132) l4_h132 hS (by first | decide | omega) (by first | decide | omega)) ?_
                    rintro _ _ _ ⟨rfl, rfl, z24, rfl, z24a, z24b⟩
                    refine r_if_eq hX hP rfl (tgt := 167) rfl (by first | decide | omega) (by first | decide | omega) (fun c25 => ?_) (fun c25 => ?_)
                    · skip
                      refine r_ex hX hP 2 (pc' := 132) (st' := []) (lo' := [(0, (2, (Ad E 1))), (1, (0, day)), (2, (0, stop)), (3, (0, l3_h10)), (4, (0, (l4_h132 + 1)))]) rfl ?_
                      refine r_eqG (X := X) (hq_base _ _ _ _) ?_
                      exact ih132 (l4_h132 + 1) _ (by first | decide | omega) (by first | decide | omega) (by first | decide | omega)
                    · skip
                      refine r_ex hX hP 1 (pc' := 151) (st' := [(2, (Ad E 1))]) (lo' := [(0, (2, (Ad E 1))), (1, (0, day)), (2, (0, stop)), (3, (0, l3_h10)), (4, (0, l4_h132))]) rfl ?_
                      refine r_getC hX hP rfl fl_12_61 hS (fun s26 => ?_)
                      refine r_ex hX hP 1 (pc' := 156) (st' := [(0, l4_h132), (2, (Ad E 16))]) (lo' := [(0, (2, (Ad E 1))), (1, (0, day)), (2, (0, stop)), (3, (0, l3_h10)), (4, (0, l4_h132))]) rfl ?_
                      refine r_iald hX hP rfl al_16 s26 (by first | decide | omega) (by first | decide | omega) (fun x27 x27e x27a x27b => ?_)
                      refine r_ex hX hP 1 (pc' := 158) (st' := [(0, l3_h10), (0, x27)]) (lo' := [(0, (2, (Ad E 1))), (1, (0, day)), (2, (0, stop)), (3, (0, l3_h10)), (4, (0, l4_h132))]) rfl ?_
                      refine r_ic_ne hX hP rfl (tgt := 167) rfl (by first | decide | omega) (by first | decide | omega) (by first | decide | omega) (by first | decide | omega) (fun c28 => ?_) (fun c28 => ?_)
                      · skip
                        refine r_ex hX hP 2 (pc' := 132) (st' := []) (lo' := [(0, (2, (Ad E 1))), (1, (0, day)), (2, (0, stop)), (3, (0, l3_h10)), (4, (0, (l4_h132 + 1)))]) rfl ?_
                        refine r_eqG (X := X) (hq_base _ _ _ _) ?_
                        exact ih132 (l4_h132 + 1) _ (by first | decide | omega) (by first | decide | omega) (by first | decide | omega)
                      · skip
                        refine r_ex hX hP 2 (pc' := 164) (st' := [(0, l4_h132), (2, (Ad E 1))]) (lo' := [(0, (2, (Ad E 1))), (1, (0, day)), (2, (0, stop)), (3, (0, l3_h10)), (4, (0, l4_h132))]) rfl ?_
                        have mi29 : MI E (hv [] [19, 72, 73] (hv [] [72, 73] (hv [120] [19, 72, 73, 74, 75, 76, 77, 78, 79, 80, 81, 82, 83, 84, 85, 86, 87, 88, 90, 91, 92] (hv [] [19, 72, 73, 74, 75] G G1) Gh10) Gh18) Gh132) := mi_keep mi rfl rfl rfl rfl rfl rfl (fun _ => rfl) (fun _ => rfl) (fun _ => rfl) (fun _ => rfl) (fun _ => rfl) (fun _ => rfl) (fun _ => rfl) (fun _ => rfl) (fun _ => rfl) (fun _ => rfl) (fun _ => rfl) (fun _ => rfl) (fun _ => rfl)
                        refine r_callV gd hX hP rfl cv_12_539 hS (d' := 0) (mc' := 0) (ms' := 0) (as' := [(0, l4_h132)]) (st := []) (by first | decide | omega) (by first | decide | omega) (by first | decide | omega) rfl rfl (Nat.le_of_ble_eq_true rfl) (c_X12_settles E S (hv [] [19, 72, 73] (hv [] [72, 73] (hv [120] [19, 72, 73, 74, 75, 76, 77, 78, 79, 80, 81, 82, 83, 84, 85, 86, 87, 88, 90, 91, 92] (hv [] [19, 72, 73, 74, 75] G G1) Gh10) Gh18) Gh132) l4_h132 hS tf7 tf7e (by first | decide | omega) (by first | decide | omega) (by first | decide | omega) mi29) ?_
                        rintro _ _ _ ⟨rfl, ⟨G30, rfl⟩, rfl, -⟩
                        refine r_ex hX hP 2 (pc' := 132) (st' := []) (lo' := [(0, (2, (Ad E 1))), (1, (0, day)), (2, (0, stop)), (3, (0, l3_h10)), (4, (0, (l4_h132 + 1)))]) rfl ?_
                        refine r_eqG (X := X) (hq_call (hq_base _ _ _ _) rfl) ?_
                        exact ih132 (l4_h132 + 1) _ (by first | decide | omega) (by first | decide | omega) (by first | decide | omega)
              refine r_eqG (X := X) (hq_refl [] [19, 72, 73] _) ?_
              exact loop132 ((40 - 0) + 1 : Int).toNat 0 _ (by first | decide | omega) (by first | decide | omega) (by first | decide | omega)
            · skip
              refine r_ex hX hP 1 (pc' := 28) (st' := [(2, (Ad E 1))]) (lo' := [(0, (2, (Ad E 1))), (1, (0, day)), (2, (0, stop)), (3, (0, l3_h10)), (4, (0, l4_h18))]) rfl ?_
              refine r_getC hX hP rfl fl_12_43 hS (fun s31 => ?_)
              refine r_ex hX hP 1 (pc' := 33) (st' := [(0, l4_h18), (2, (Ad E 10))]) (lo' := [(0, (2, (Ad E 1))), (1, (0, day)), (2, (0, stop)), (3, (0, l3_h10)), (4, (0, l4_h18))]) rfl ?_
              refine r_iald hX hP rfl al_10 s31 (by first | decide | omega) (by first | decide | omega) (fun x32 x32e x32a x32b => ?_)
              refine r_ex hX hP 1 (pc' := 35) (st' := [(2, (Ad E 1)), (0, x32)]) (lo' := [(0, (2, (Ad E 1))), (1, (0, day)), (2, (0, stop)), (3, (0, l3_h10)), (4, (0, l4_h18))]) rfl ?_
              refine r_getI hX hP rfl fl_12_10 hS (fun af33 af33e af33a af33b => ?_)
              refine r_ic_gt hX hP rfl (tgt := 123) rfl (by first | decide | omega) (by first | decide | omega) (by first | decide | omega) (by first | decide | omega) (fun c34 => ?_) (fun c34 => ?_)
              · skip
                refine r_ex hX hP 2 (pc' := 18) (st' := []) (lo' := [(0, (2, (Ad E 1))), (1, (0, day)), (2, (0, stop)), (3, (0, l3_h10)), (4, (0, (l4_h18 + 1)))]) rfl ?_
                refine r_eqG (X := X) (hq_base _ _ _ _) ?_
                exact ih18 (l4_h18 + 1) _ (by first | decide | omega) (by first | decide | omega) (by first | decide | omega)
              · skip
                refine r_ex hX hP 1 (pc' := 42) (st' := [(2, (Ad E 1))]) (lo' := [(0, (2, (Ad E 1))), (1, (0, day)), (2, (0, stop)), (3, (0, l3_h10)), (4, (0, l4_h18))]) rfl ?_
                refine r_getC hX hP rfl fl_12_34 hS (fun s35 => ?_)
                refine r_ex hX hP 1 (pc' := 47) (st' := [(0, l4_h18), (2, (Ad E 7))]) (lo' := [(0, (2, (Ad E 1))), (1, (0, day)), (2, (0, stop)), (3, (0, l3_h10)), (4, (0, l4_h18))]) rfl ?_
                refine r_iald hX hP rfl al_7 s35 (by first | decide | omega) (by first | decide | omega) (fun x36 x36e x36a x36b => ?_)
                refine r_ex hX hP 1 (pc' := 49) (st' := [(0, l3_h10), (0, x36)]) (lo' := [(0, (2, (Ad E 1))), (1, (0, day)), (2, (0, stop)), (3, (0, l3_h10)), (4, (0, l4_h18))]) rfl ?_
                refine r_ic_eq hX hP rfl (tgt := 55) rfl (by first | decide | omega) (by first | decide | omega) (by first | decide | omega) (by first | decide | omega) (fun c37 => ?_) (fun c37 => ?_)
                · skip
                  refine r_ex hX hP 1 (pc' := 56) (st' := [(2, (Ad E 1))]) (lo' := [(0, (2, (Ad E 1))), (1, (0, day)), (2, (0, stop)), (3, (0, l3_h10)), (4, (0, l4_h18))]) rfl ?_
                  refine r_getC hX hP rfl fl_12_241 hS (fun s38 => ?_)
                  refine r_ex hX hP 2 (pc' := 62) (st' := [(2, (Ad E 1)), (0, 20), (2, (Ad E 72))]) (lo' := [(0, (2, (Ad E 1))), (1, (0, day)), (2, (0, stop)), (3, (0, l3_h10)), (4, (0, l4_h18))]) rfl ?_
                  refine r_getC hX hP rfl fl_12_28 hS (fun s39 => ?_)
                  refine r_ex hX hP 1 (pc' := 67) (st' := [(0, l4_h18), (2, (Ad E 5)), (0, 20), (2, (Ad E 72))]) (lo' := [(0, (2, (Ad E 1))), (1, (0, day)), (2, (0, stop)), (3, (0, l3_h10)), (4, (0, l4_h18))]) rfl ?_
                  refine r_iald hX hP rfl al_5 s39 (by first | decide | omega) (by first | decide | omega) (fun x40 x40e x40a x40b => ?_)
                  refine r_ex hX hP 2 (pc' := 70) (st' := [(2, (Ad E 1)), (0, (20 * x40)), (2, (Ad E 72))]) (lo' := [(0, (2, (Ad E 1))), (1, (0, day)), (2, (0, stop)), (3, (0, l3_h10)), (4, (0, l4_h18))]) rfl ?_
                  refine r_getC hX hP rfl fl_12_31 hS (fun s41 => ?_)
                  refine r_ex hX hP 1 (pc' := 75) (st' := [(0, l4_h18), (2, (Ad E 6)), (0, (20 * x40)), (2, (Ad E 72))]) (lo' := [(0, (2, (Ad E 1))), (1, (0, day)), (2, (0, stop)), (3, (0, l3_h10)), (4, (0, l4_h18))]) rfl ?_
                  refine r_iald hX hP rfl al_6 s41 (by first | decide | omega) (by first | decide | omega) (fun x42 x42e x42a x42b => ?_)
                  refine r_ex hX hP 2 (pc' := 78) (st' := [(0, ((20 * x40) + x42)), (2, (Ad E 72)), (0, ((20 * x40) + x42)), (2, (Ad E 72))]) (lo' := [(0, (2, (Ad E 1))), (1, (0, day)), (2, (0, stop)), (3, (0, l3_h10)), (4, (0, l4_h18))]) rfl ?_
                  refine r_lald hX hP rfl al_72 s38 (by first | decide | omega) (by first | decide | omega) (fun x43 x43e x43a x43b => ?_)
                  refine r_ex hX hP 1 (pc' := 80) (st' := [(2, (Ad E 1)), (1, x43), (0, ((20 * x40) + x42)), (2, (Ad E 72))]) (lo' := [(0, (2, (Ad E 1))), (1, (0, day)), (2, (0, stop)), (3, (0, l3_h10)), (4, (0, l4_h18))]) rfl ?_
                  refine r_getC hX hP rfl fl_12_37 hS (fun s44 => ?_)
                  refine r_ex hX hP 1 (pc' := 85) (st' := [(0, l4_h18), (2, (Ad E 8)), (1, x43), (0, ((20 * x40) + x42)), (2, (Ad E 72))]) (lo' := [(0, (2, (Ad E 1))), (1, (0, day)), (2, (0, stop)), (3, (0, l3_h10)), (4, (0, l4_h18))]) rfl ?_
                  refine r_iald hX hP rfl al_8 s44 (by first | decide | omega) (by first | decide | omega) (fun x45 x45e x45a x45b => ?_)
                  refine r_i2l hX hP rfl (by first | decide | omega) (by first | decide | omega) ?_
                  refine r_ex hX hP 1 (pc' := 88) (st' := [(1, (x43 + x45)), (0, ((20 * x40) + x42)), (2, (Ad E 72))]) (lo' := [(0, (2, (Ad E 1))), (1, (0, day)), (2, (0, stop)), (3, (0, l3_h10)), (4, (0, l4_h18))]) rfl ?_
                  refine r_hvL hX (fun w46 w46a w46b w46e => ?_)
                  refine r_lastK hX hP rfl al_72 s38 (by first | decide | omega) (by first | decide | omega) (by first | decide | omega) (by first | decide | omega) (fun h47 => ?_)
                  refine r_ex hX hP 1 (pc' := 90) (st' := [(2, (Ad E 1))]) (lo' := [(0, (2, (Ad E 1))), (1, (0, day)), (2, (0, stop)), (3, (0, l3_h10)), (4, (0, l4_h18))]) rfl ?_
                  refine r_getC hX hP rfl fl_12_244 hS (fun s48 => ?_)
                  refine r_ex hX hP 2 (pc' := 96) (st' := [(2, (Ad E 1)), (0, 20), (2, (Ad E 73))]) (lo' := [(0, (2, (Ad E 1))), (1, (0, day)), (2, (0, stop)), (3, (0, l3_h10)), (4, (0, l4_h18))]) rfl ?_
                  refine r_getC hX hP rfl fl_12_28 hS (fun _ => ?_)
                  refine r_ex hX hP 1 (pc' := 101) (st' := [(0, l4_h18), (2, (Ad E 5)), (0, 20), (2, (Ad E 73))]) (lo' := [(0, (2, (Ad E 1))), (1, (0, day)), (2, (0, stop)), (3, (0, l3_h10)), (4, (0, l4_h18))]) rfl ?_
                  refine r_ialdK hX hP rfl al_5 s39 (by first | decide | omega) (by first | decide | omega) (x := x40) x40e ?_
                  refine r_ex hX hP 2 (pc' := 104) (st' := [(2, (Ad E 1)), (0, (20 * x40)), (2, (Ad E 73))]) (lo' := [(0, (2, (Ad E 1))), (1, (0, day)), (2, (0, stop)), (3, (0, l3_h10)), (4, (0, l4_h18))]) rfl ?_
                  refine r_getC hX hP rfl fl_12_31 hS (fun _ => ?_)
                  refine r_ex hX hP 1 (pc' := 109) (st' := [(0, l4_h18), (2, (Ad E 6)), (0, (20 * x40)), (2, (Ad E 73))]) (lo' := [(0, (2, (Ad E 1))), (1, (0, day)), (2, (0, stop)), (3, (0, l3_h10)), (4, (0, l4_h18))]) rfl ?_
                  refine r_ialdK hX hP rfl al_6 s41 (by first | decide | omega) (by first | decide | omega) (x := x42) x42e ?_
                  refine r_ex hX hP 2 (pc' := 112) (st' := [(0, ((20 * x40) + x42)), (2, (Ad E 73)), (0, ((20 * x40) + x42)), (2, (Ad E 73))]) (lo' := [(0, (2, (Ad E 1))), (1, (0, day)), (2, (0, stop)), (3, (0, l3_h10)), (4, (0, l4_h18))]) rfl ?_
                  refine r_lald hX hP rfl al_73 s48 (by first | decide | omega) (by first | decide | omega) (fun x49 x49e x49a x49b => ?_)
                  refine r_ex hX hP 1 (pc' := 114) (st' := [(2, (Ad E 1)), (1, x49), (0, ((20 * x40) + x42)), (2, (Ad E 73))]) (lo' := [(0, (2, (Ad E 1))), (1, (0, day)), (2, (0, stop)), (3, (0, l3_h10)), (4, (0, l4_h18))]) rfl ?_
                  refine r_getC hX hP rfl fl_12_40 hS (fun s50 => ?_)
                  refine r_ex hX hP 1 (pc' := 119) (st' := [(0, l4_h18), (2, (Ad E 9)), (1, x49), (0, ((20 * x40) + x42)), (2, (Ad E 73))]) (lo' := [(0, (2, (Ad E 1))), (1, (0, day)), (2, (0, stop)), (3, (0, l3_h10)), (4, (0, l4_h18))]) rfl ?_
                  refine r_iald hX hP rfl al_9 s50 (by first | decide | omega) (by first | decide | omega) (fun x51 x51e x51a x51b => ?_)
                  refine r_i2l hX hP rfl (by first | decide | omega) (by first | decide | omega) ?_
                  refine r_ex hX hP 1 (pc' := 122) (st' := [(1, (x49 + x51)), (0, ((20 * x40) + x42)), (2, (Ad E 73))]) (lo' := [(0, (2, (Ad E 1))), (1, (0, day)), (2, (0, stop)), (3, (0, l3_h10)), (4, (0, l4_h18))]) rfl ?_
                  refine r_hvL hX (fun w52 w52a w52b w52e => ?_)
                  refine r_lastK hX hP rfl al_73 s48 (by first | decide | omega) (by first | decide | omega) (by first | decide | omega) (by first | decide | omega) (fun h53 => ?_)
                  refine r_ex hX hP 2 (pc' := 18) (st' := []) (lo' := [(0, (2, (Ad E 1))), (1, (0, day)), (2, (0, stop)), (3, (0, l3_h10)), (4, (0, (l4_h18 + 1)))]) rfl ?_
                  refine r_eqG (X := X) (hq_up (hq_up (hq_base _ _ _ _) rfl) rfl) ?_
                  exact ih18 (l4_h18 + 1) _ (by first | decide | omega) (by first | decide | omega) (by first | decide | omega)
                · skip
                  refine r_ex hX hP 3 (pc' := 18) (st' := []) (lo' := [(0, (2, (Ad E 1))), (1, (0, day)), (2, (0, stop)), (3, (0, l3_h10)), (4, (0, (l4_h18 + 1)))]) rfl ?_
                  refine r_eqG (X := X) (hq_base _ _ _ _) ?_
                  exact ih18 (l4_h18 + 1) _ (by first | decide | omega) (by first | decide | omega) (by first | decide | omega)
        refine r_eqG (X := X) (hq_refl [] [72, 73] _) ?_
        exact loop18 ((40 - 0) + 1 : Int).toNat 0 _ (by first | decide | omega) (by first | decide | omega) (by first | decide | omega)
  refine r_eqG (X := X) (hq_refl [120] [19, 72, 73, 74, 75, 76, 77, 78, 79, 80, 81, 82, 83, 84, 85, 86, 87, 88, 90, 91, 92] _) ?_
  exact loop10 ((1000000001 - z2) + 1 : Int).toNat z2 _ (by first | decide | omega) (by first | decide | omega) (by first | decide | omega)
set_option maxRecDepth 100000 in
set_option maxHeartbeats 4000000 in
theorem c_X12_asks (E : En) (S : Sg) (G : Gh) (a p day : Int) (hS : S (Ad E 1) = 1) (accounts : Int) (accounts_e : accounts = G 1 (Ad E 1) 6) (a_a : (-2147483648) ≤ a) (a_b : a ≤ 2147483647) (p_a : (-2147483648) ≤ p) (p_b : p ≤ 2147483647) (day_a : (-2147483648) ≤ day) (day_b : day ≤ 2147483647) (mi : MI E G) : Calls E mX12_asks [(2, (Ad E 1)), (0, a), (0, p), (0, day)] S G 40 0 0 (fun r S' G' => S = S' ∧ (∃ G1, hv [120] [19, 72, 73, 74, 75, 76, 77, 78, 79, 80, 81, 82, 83, 84, 85, 86, 87, 88, 90, 91, 92] G G1 = G') ∧ ∃ z : Int, r = some (0, z) ∧ ((z = 0 ∧ 0 ≤ a ∧ a < accounts ∧ 0 ≤ p ∧ p ≤ 19) ∨ (1 ≤ z ∧ z ≤ 8))) := by
  refine calls_by [(0, (2, (Ad E 1))), (1, (0, a)), (2, (0, p)), (3, (0, day))] rfl rfl (Nat.le_of_ble_eq_true rfl) (fun X hX => ?_)
  have hP := hPX12_asks
  refine r_peekI hX (tl1 6 rfl (by decide)) hS (fun accounts_o accounts_oe accounts_oa accounts_ob => ?_)
  obtain rfl : accounts = accounts_o := accounts_e.trans accounts_oe.symm
  refine r_ex hX hP 2 (pc' := 2) (st' := [(0, a), (2, (Ad E 1))]) (lo' := [(0, (2, (Ad E 1))), (1, (0, a)), (2, (0, p)), (3, (0, day))]) rfl ?_
  refine r_callV gd hX hP rfl cv_12_324 hS (d' := 1) (mc' := 0) (ms' := 0) (as' := [(0, a)]) (st := []) (by first | decide | omega) (by first | decide | omega) (by first | decide | omega) rfl rfl (Nat.le_of_ble_eq_true rfl) (c_X12_isAccount E S G a hS accounts accounts_e (by first | decide | omega) (by first | decide | omega)) ?_
  rintro _ _ _ ⟨rfl, rfl, z1, rfl, (⟨rfl, f2, f3⟩ | ⟨rfl, f4⟩)⟩
  · skip
    refine r_if_eq hX hP rfl (tgt := 15) rfl (by first | decide | omega) (by first | decide | omega) (fun c5 => ?_) (fun c5 => ?_)
    · skip
      exfalso; omega
    · skip
      refine r_ex hX hP 1 (pc' := 9) (st' := [(0, p)]) (lo' := [(0, (2, (Ad E 1))), (1, (0, a)), (2, (0, p)), (3, (0, day))]) rfl ?_
      refine r_callS gd hX hP rfl cs_12_331 (d' := 1) (mc' := 0) (ms' := 0) (as' := [(0, p)]) (st := []) (by first | decide | omega) (by first | decide | omega) (by first | decide | omega) rfl rfl (Nat.le_of_ble_eq_true rfl) (c_X12_isPaper E S G p (by first | decide | omega) (by first | decide | omega)) ?_
      rintro _ _ _ ⟨rfl, rfl, z6, rfl, (⟨rfl, f7, f8⟩ | ⟨rfl, f9⟩)⟩
      · skip
        refine r_if_ne hX hP rfl (tgt := 19) rfl (by first | decide | omega) (by first | decide | omega) (fun c10 => ?_) (fun c10 => ?_)
        · skip
          refine r_ex hX hP 1 (pc' := 20) (st' := [(0, day)]) (lo' := [(0, (2, (Ad E 1))), (1, (0, a)), (2, (0, p)), (3, (0, day))]) rfl ?_
          refine r_callS gd hX hP rfl cs_12_317 (d' := 1) (mc' := 0) (ms' := 0) (as' := [(0, day)]) (st := []) (by first | decide | omega) (by first | decide | omega) (by first | decide | omega) rfl rfl (Nat.le_of_ble_eq_true rfl) (c_X12_isDay E S G day (by first | decide | omega) (by first | decide | omega)) ?_
          rintro _ _ _ ⟨rfl, rfl, z11, rfl, (⟨rfl, f12, f13⟩ | ⟨rfl, f14⟩)⟩
          · skip
            refine r_if_ne hX hP rfl (tgt := 30) rfl (by first | decide | omega) (by first | decide | omega) (fun c15 => ?_) (fun c15 => ?_)
            · skip
              refine r_ex hX hP 3 (pc' := 33) (st' := [(0, (-1)), (0, day), (2, (Ad E 1))]) (lo' := [(0, (2, (Ad E 1))), (1, (0, a)), (2, (0, p)), (3, (0, day))]) rfl ?_
              refine r_callV gd hX hP rfl cv_12_597 hS (d' := 39) (mc' := 0) (ms' := 0) (as' := [(0, day), (0, (-1))]) (st := []) (by first | decide | omega) (by first | decide | omega) (by first | decide | omega) rfl rfl (Nat.le_of_ble_eq_true rfl) (c_X12_runs E S G day (-1) hS (by first | decide | omega) (by first | decide | omega) (by first | decide | omega) (by first | decide | omega) mi) ?_
              rintro _ _ _ ⟨rfl, ⟨G16, rfl⟩, z17, rfl, z17a, z17b⟩
              refine r_if_eq hX hP rfl (tgt := 43) rfl (by first | decide | omega) (by first | decide | omega) (fun c18 => ?_) (fun c18 => ?_)
              · skip
                refine r_ex hX hP 1 (pc' := 45) (st' := [(0, 8)]) (lo' := [(0, (2, (Ad E 1))), (1, (0, a)), (2, (0, p)), (3, (0, day))]) rfl ?_
                exact r_retI hX hP rfl rfl (by first | decide | omega) (by first | decide | omega) ⟨rfl, ⟨_, (hq_call (hq_refl _ _ _) rfl).symm⟩, 8, rfl, (by first | decide | omega)⟩
              · skip
                refine r_ex hX hP 2 (pc' := 45) (st' := [(0, 0)]) (lo' := [(0, (2, (Ad E 1))), (1, (0, a)), (2, (0, p)), (3, (0, day))]) rfl ?_
                exact r_retI hX hP rfl rfl (by first | decide | omega) (by first | decide | omega) ⟨rfl, ⟨_, (hq_call (hq_refl _ _ _) rfl).symm⟩, 0, rfl, (by first | decide | omega)⟩
            · skip
              exfalso; omega
          · skip
            refine r_if_ne hX hP rfl (tgt := 30) rfl (by first | decide | omega) (by first | decide | omega) (fun c19 => ?_) (fun c19 => ?_)
            · skip
              exfalso; omega
            · skip
              refine r_ex hX hP 2 (pc' := 45) (st' := [(0, 2)]) (lo' := [(0, (2, (Ad E 1))), (1, (0, a)), (2, (0, p)), (3, (0, day))]) rfl ?_
              exact r_retI hX hP rfl rfl (by first | decide | omega) (by first | decide | omega) ⟨rfl, ⟨_, (hq_refl _ _ _).symm⟩, 2, rfl, (by first | decide | omega)⟩
        · skip
          exfalso; omega
      · skip
        refine r_if_ne hX hP rfl (tgt := 19) rfl (by first | decide | omega) (by first | decide | omega) (fun c20 => ?_) (fun c20 => ?_)
        · skip
          exfalso; omega
        · skip
          refine r_ex hX hP 2 (pc' := 45) (st' := [(0, 1)]) (lo' := [(0, (2, (Ad E 1))), (1, (0, a)), (2, (0, p)), (3, (0, day))]) rfl ?_
          exact r_retI hX hP rfl rfl (by first | decide | omega) (by first | decide | omega) ⟨rfl, ⟨_, (hq_refl _ _ _).symm⟩, 1, rfl, (by first | decide | omega)⟩
  · skip
    refine r_if_eq hX hP rfl (tgt := 15) rfl (by first | decide | omega) (by first | decide | omega) (fun c21 => ?_) (fun c21 => ?_)
    · skip
      refine r_ex hX hP 2 (pc' := 45) (st' := [(0, 1)]) (lo' := [(0, (2, (Ad E 1))), (1, (0, a)), (2, (0, p)), (3, (0, day))]) rfl ?_
      exact r_retI hX hP rfl rfl (by first | decide | omega) (by first | decide | omega) ⟨rfl, ⟨_, (hq_refl _ _ _).symm⟩, 1, rfl, (by first | decide | omega)⟩
    · skip
      exfalso; omega
set_option maxRecDepth 100000 in
set_option maxHeartbeats 4000000 in
theorem c_X12_own (E : En) (S : Sg) (G : Gh) (a p day : Int) (hS : S (Ad E 1) = 1) (a_a : (-2147483648) ≤ a) (a_b : a ≤ 2147483647) (p_a : (-2147483648) ≤ p) (p_b : p ≤ 2147483647) (day_a : (-2147483648) ≤ day) (day_b : day ≤ 2147483647) (mi : MI E G) : Calls E mX12_own [(2, (Ad E 1)), (0, a), (0, p), (0, day)] S G 41 0 0 (fun r S' G' => S = S' ∧ (∃ G1, hv [0, 1, 120] [19, 72, 73, 74, 75, 76, 77, 78, 79, 80, 81, 82, 83, 84, 85, 86, 87, 88, 90, 91, 92] G G1 = G') ∧ ∃ z : Int, r = some (0, z) ∧ (-2147483648) ≤ z ∧ z ≤ 2147483647) := by
  refine calls_by [(0, (2, (Ad E 1))), (1, (0, a)), (2, (0, p)), (3, (0, day))] rfl rfl (Nat.le_of_ble_eq_true rfl) (fun X hX => ?_)
  have hP := hPX12_own
  refine r_ex hX hP 2 (pc' := 2) (st' := [(0, 0), (2, (Ad E 1))]) (lo' := [(0, (2, (Ad E 1))), (1, (0, a)), (2, (0, p)), (3, (0, day))]) rfl ?_
  refine r_putIK hX hP rfl fp_12_304 hS (by first | decide | omega) (by first | decide | omega) (fun h1 => ?_)
  refine r_ex hX hP 5 (pc' := 10) (st' := [(0, day), (0, p), (0, a), (2, (Ad E 1)), (2, (Ad E 1))]) (lo' := [(0, (2, (Ad E 1))), (1, (0, a)), (2, (0, p)), (3, (0, day))]) rfl ?_
  refine r_peekI hX (tl1 6 rfl (by decide)) hS (fun acp2 acp2e acp2a acp2b => ?_)
  have mi3 : MI E (up G 1 (Ad E 1) 1 0) := mi_keep mi rfl rfl rfl rfl rfl rfl (fun _ => rfl) (fun _ => rfl) (fun _ => rfl) (fun _ => rfl) (fun _ => rfl) (fun _ => rfl) (fun _ => rfl) (fun _ => rfl) (fun _ => rfl) (fun _ => rfl) (fun _ => rfl) (fun _ => rfl) (fun _ => rfl)
  refine r_callV gd hX hP rfl cv_12_600 hS (d' := 40) (mc' := 0) (ms' := 0) (as' := [(0, a), (0, p), (0, day)]) (st := [(2, (Ad E 1))]) (by first | decide | omega) (by first | decide | omega) (by first | decide | omega) rfl rfl (Nat.le_of_ble_eq_true rfl) (c_X12_asks E S (up G 1 (Ad E 1) 1 0) a p day hS acp2 acp2e (by first | decide | omega) (by first | decide | omega) (by first | decide | omega) (by first | decide | omega) (by first | decide | omega) (by first | decide | omega) mi3) ?_
  rintro _ _ _ ⟨rfl, ⟨G4, rfl⟩, z5, rfl, (⟨rfl, f6, f7, f8, f9⟩ | ⟨z5a, z5b⟩)⟩
  · skip
    refine r_putIK hX hP rfl fp_12_307 hS (by first | decide | omega) (by first | decide | omega) (fun h10 => ?_)
    refine r_ex hX hP 1 (pc' := 17) (st' := [(2, (Ad E 1))]) (lo' := [(0, (2, (Ad E 1))), (1, (0, a)), (2, (0, p)), (3, (0, day))]) rfl ?_
    refine r_getKI hX hP rfl fl_12_307 hS (x := 0) h10 ?_
    refine r_if_le hX hP rfl (tgt := 27) rfl (by first | decide | omega) (by first | decide | omega) (fun c11 => ?_) (fun c11 => ?_)
    · skip
      refine r_ex hX hP 1 (pc' := 28) (st' := [(2, (Ad E 1))]) (lo' := [(0, (2, (Ad E 1))), (1, (0, a)), (2, (0, p)), (3, (0, day))]) rfl ?_
      refine r_getC hX hP rfl fl_12_241 hS (fun s12 => ?_)
      refine r_ex hX hP 5 (pc' := 37) (st' := [(0, ((20 * a) + p)), (2, (Ad E 72))]) (lo' := [(0, (2, (Ad E 1))), (1, (0, a)), (2, (0, p)), (3, (0, day))]) rfl ?_
      refine r_lald hX hP rfl al_72 s12 (by first | decide | omega) (by first | decide | omega) (fun x13 x13e x13a x13b => ?_)
      refine r_ex hX hP 1 (pc' := 39) (st' := [(0, x13)]) (lo' := [(0, (2, (Ad E 1))), (1, (0, a)), (2, (0, p)), (3, (0, day))]) rfl ?_
      refine r_hvI hX (fun w14 w14a w14b w14e => ?_)
      exact r_retI hX hP rfl rfl (by first | decide | omega) (by first | decide | omega) ⟨rfl, ⟨_, (hq_up (hq_call (hq_up (hq_refl _ _ _) rfl) rfl) rfl).symm⟩, w14, rfl, (by first | decide | omega)⟩
    · skip
      exfalso; omega
  · skip
    refine r_putIK hX hP rfl fp_12_307 hS (by first | decide | omega) (by first | decide | omega) (fun h15 => ?_)
    refine r_ex hX hP 1 (pc' := 17) (st' := [(2, (Ad E 1))]) (lo' := [(0, (2, (Ad E 1))), (1, (0, a)), (2, (0, p)), (3, (0, day))]) rfl ?_
    refine r_getKI hX hP rfl fl_12_307 hS (x := z5) h15 ?_
    refine r_if_le hX hP rfl (tgt := 27) rfl (by first | decide | omega) (by first | decide | omega) (fun c16 => ?_) (fun c16 => ?_)
    · skip
      exfalso; omega
    · skip
      refine r_ex hX hP 2 (pc' := 39) (st' := [(0, (-1))]) (lo' := [(0, (2, (Ad E 1))), (1, (0, a)), (2, (0, p)), (3, (0, day))]) rfl ?_
      exact r_retI hX hP rfl rfl (by first | decide | omega) (by first | decide | omega) ⟨rfl, ⟨_, (hq_up (hq_call (hq_up (hq_refl _ _ _) rfl) rfl) rfl).symm⟩, (-1), rfl, (by first | decide | omega)⟩
set_option maxRecDepth 100000 in
set_option maxHeartbeats 4000000 in
theorem c_X12_total (E : En) (S : Sg) (G : Gh) (a p day : Int) (hS : S (Ad E 1) = 1) (a_a : (-2147483648) ≤ a) (a_b : a ≤ 2147483647) (p_a : (-2147483648) ≤ p) (p_b : p ≤ 2147483647) (day_a : (-2147483648) ≤ day) (day_b : day ≤ 2147483647) (mi : MI E G) : Calls E mX12_total [(2, (Ad E 1)), (0, a), (0, p), (0, day)] S G 41 0 0 (fun r S' G' => S = S' ∧ (∃ G1, hv [0, 1, 120] [19, 72, 73, 74, 75, 76, 77, 78, 79, 80, 81, 82, 83, 84, 85, 86, 87, 88, 90, 91, 92] G G1 = G') ∧ ∃ z : Int, r = some (0, z) ∧ (-2147483648) ≤ z ∧ z ≤ 2147483647) := by
  refine calls_by [(0, (2, (Ad E 1))), (1, (0, a)), (2, (0, p)), (3, (0, day))] rfl rfl (Nat.le_of_ble_eq_true rfl) (fun X hX => ?_)
  have hP := hPX12_total
  refine r_ex hX hP 2 (pc' := 2) (st' := [(0, 0), (2, (Ad E 1))]) (lo' := [(0, (2, (Ad E 1))), (1, (0, a)), (2, (0, p)), (3, (0, day))]) rfl ?_
  refine r_putIK hX hP rfl fp_12_304 hS (by first | decide | omega) (by first | decide | omega) (fun h1 => ?_)
  refine r_ex hX hP 5 (pc' := 10) (st' := [(0, day), (0, p), (0, a), (2, (Ad E 1)), (2, (Ad E 1))]) (lo' := [(0, (2, (Ad E 1))), (1, (0, a)), (2, (0, p)), (3, (0, day))]) rfl ?_
  refine r_peekI hX (tl1 6 rfl (by decide)) hS (fun acp2 acp2e acp2a acp2b => ?_)
  have mi3 : MI E (up G 1 (Ad E 1) 1 0) := mi_keep mi rfl rfl rfl rfl rfl rfl (fun _ => rfl) (fun _ => rfl) (fun _ => rfl) (fun _ => rfl) (fun _ => rfl) (fun _ => rfl) (fun _ => rfl) (fun _ => rfl) (fun _ => rfl) (fun _ => rfl) (fun _ => rfl) (fun _ => rfl) (fun _ => rfl)
  refine r_callV gd hX hP rfl cv_12_600 hS (d' := 40) (mc' := 0) (ms' := 0) (as' := [(0, a), (0, p), (0, day)]) (st := [(2, (Ad E 1))]) (by first | decide | omega) (by first | decide | omega) (by first | decide | omega) rfl rfl (Nat.le_of_ble_eq_true rfl) (c_X12_asks E S (up G 1 (Ad E 1) 1 0) a p day hS acp2 acp2e (by first | decide | omega) (by first | decide | omega) (by first | decide | omega) (by first | decide | omega) (by first | decide | omega) (by first | decide | omega) mi3) ?_
  rintro _ _ _ ⟨rfl, ⟨G4, rfl⟩, z5, rfl, (⟨rfl, f6, f7, f8, f9⟩ | ⟨z5a, z5b⟩)⟩
  · skip
    refine r_putIK hX hP rfl fp_12_307 hS (by first | decide | omega) (by first | decide | omega) (fun h10 => ?_)
    refine r_ex hX hP 1 (pc' := 17) (st' := [(2, (Ad E 1))]) (lo' := [(0, (2, (Ad E 1))), (1, (0, a)), (2, (0, p)), (3, (0, day))]) rfl ?_
    refine r_getKI hX hP rfl fl_12_307 hS (x := 0) h10 ?_
    refine r_if_le hX hP rfl (tgt := 25) rfl (by first | decide | omega) (by first | decide | omega) (fun c11 => ?_) (fun c11 => ?_)
    · skip
      refine r_ex hX hP 2 (pc' := 28) (st' := []) (lo' := [(0, (2, (Ad E 1))), (1, (0, a)), (2, (0, p)), (3, (0, day)), (4, (0, 0))]) rfl ?_
      have loop28 : ∀ (nF : Nat) (l4_h28 : Int) (Gh28 : Gh), 0 ≤ l4_h28 → l4_h28 ≤ 20 → 20 - l4_h28 < (nF : Int) → X 0 0 28 [] [(0, (2, (Ad E 1))), (1, (0, a)), (2, (0, p)), (3, (0, day)), (4, (0, l4_h28))] S (hv [] [81] (up (hv [120] [19, 72, 73, 74, 75, 76, 77, 78, 79, 80, 81, 82, 83, 84, 85, 86, 87, 88, 90, 91, 92] (up G 1 (Ad E 1) 1 0) G4) 1 (Ad E 1) 0 0) Gh28) := by
        intro nF
        induction nF with
        | zero => intro l4_h28 Gh28 yh28_0 yh28_1 ym28; exfalso; omega
        | succ nF ih28 =>
          intro l4_h28 Gh28 yh28_0 yh28_1 ym28
          refine r_ex hX hP 2 (pc' := 31) (st' := [(2, (Ad E 1)), (0, l4_h28)]) (lo' := [(0, (2, (Ad E 1))), (1, (0, a)), (2, (0, p)), (3, (0, day)), (4, (0, l4_h28))]) rfl ?_
          refine r_getKI hX hP rfl fl_12_314 hS (x := acp2) acp2e ?_
          refine r_ic_ge hX hP rfl (tgt := 62) rfl (by first | decide | omega) (by first | decide | omega) (by first | decide | omega) (by first | decide | omega) (fun c12 => ?_) (fun c12 => ?_)
          · skip
            refine r_ex hX hP 1 (pc' := 63) (st' := [(2, (Ad E 1))]) (lo' := [(0, (2, (Ad E 1))), (1, (0, a)), (2, (0, p)), (3, (0, day)), (4, (0, l4_h28))]) rfl ?_
            refine r_callV gd hX hP rfl cv_12_521 hS (d' := 0) (mc' := 0) (ms' := 0) (as' := []) (st := []) (by first | decide | omega) (by first | decide | omega) (by first | decide | omega) rfl rfl (Nat.le_of_ble_eq_true rfl) (c_X12_sumUp E S (hv [] [81] (up (hv [120] [19, 72, 73, 74, 75, 76, 77, 78, 79, 80, 81, 82, 83, 84, 85, 86, 87, 88, 90, 91, 92] (up G 1 (Ad E 1) 1 0) G4) 1 (Ad E 1) 0 0) Gh28)  hS) ?_
            rintro _ _ _ ⟨rfl, ⟨G13, rfl⟩, rfl, -⟩
            refine r_ex hX hP 1 (pc' := 67) (st' := [(2, (Ad E 1))]) (lo' := [(0, (2, (Ad E 1))), (1, (0, a)), (2, (0, p)), (3, (0, day)), (4, (0, l4_h28))]) rfl ?_
            refine r_getC hX hP rfl fl_12_277 hS (fun s14 => ?_)
            refine r_ex hX hP 1 (pc' := 71) (st' := [(0, a), (2, (Ad E 84))]) (lo' := [(0, (2, (Ad E 1))), (1, (0, a)), (2, (0, p)), (3, (0, day)), (4, (0, l4_h28))]) rfl ?_
            refine r_lald hX hP rfl al_84 s14 (by first | decide | omega) (by first | decide | omega) (fun x15 x15e x15a x15b => ?_)
            refine r_ex hX hP 1 (pc' := 73) (st' := [(0, x15)]) (lo' := [(0, (2, (Ad E 1))), (1, (0, a)), (2, (0, p)), (3, (0, day)), (4, (0, l4_h28))]) rfl ?_
            refine r_hvI hX (fun w16 w16a w16b w16e => ?_)
            exact r_retI hX hP rfl rfl (by first | decide | omega) (by first | decide | omega) ⟨rfl, ⟨_, (hq_call (hq_loop (hq_up (hq_call (hq_up (hq_refl _ _ _) rfl) rfl) rfl) rfl) rfl).symm⟩, w16, rfl, (by first | decide | omega)⟩
          · skip
            refine r_ex hX hP 1 (pc' := 38) (st' := [(2, (Ad E 1))]) (lo' := [(0, (2, (Ad E 1))), (1, (0, a)), (2, (0, p)), (3, (0, day)), (4, (0, l4_h28))]) rfl ?_
            refine r_getC hX hP rfl fl_12_268 hS (fun s17 => ?_)
            refine r_ex hX hP 2 (pc' := 44) (st' := [(2, (Ad E 1)), (0, l4_h28), (2, (Ad E 81))]) (lo' := [(0, (2, (Ad E 1))), (1, (0, a)), (2, (0, p)), (3, (0, day)), (4, (0, l4_h28))]) rfl ?_
            refine r_getC hX hP rfl fl_12_241 hS (fun s18 => ?_)
            refine r_ex hX hP 5 (pc' := 54) (st' := [(0, ((20 * l4_h28) + p)), (2, (Ad E 72)), (0, l4_h28), (2, (Ad E 81))]) (lo' := [(0, (2, (Ad E 1))), (1, (0, a)), (2, (0, p)), (3, (0, day)), (4, (0, l4_h28))]) rfl ?_
            refine r_lald hX hP rfl al_72 s18 (by first | decide | omega) (by first | decide | omega) (fun x19 x19e x19a x19b => ?_)
            refine r_lastK hX hP rfl al_81 s17 (by first | decide | omega) (by first | decide | omega) (by first | decide | omega) (by first | decide | omega) (fun h20 => ?_)
            refine r_ex hX hP 2 (pc' := 28) (st' := []) (lo' := [(0, (2, (Ad E 1))), (1, (0, a)), (2, (0, p)), (3, (0, day)), (4, (0, (l4_h28 + 1)))]) rfl ?_
            refine r_eqG (X := X) (hq_up (hq_base _ _ _ _) rfl) ?_
            exact ih28 (l4_h28 + 1) _ (by first | decide | omega) (by first | decide | omega) (by first | decide | omega)
      refine r_eqG (X := X) (hq_refl [] [81] _) ?_
      exact loop28 ((20 - 0) + 1 : Int).toNat 0 _ (by first | decide | omega) (by first | decide | omega) (by first | decide | omega)
    · skip
      exfalso; omega
  · skip
    refine r_putIK hX hP rfl fp_12_307 hS (by first | decide | omega) (by first | decide | omega) (fun h21 => ?_)
    refine r_ex hX hP 1 (pc' := 17) (st' := [(2, (Ad E 1))]) (lo' := [(0, (2, (Ad E 1))), (1, (0, a)), (2, (0, p)), (3, (0, day))]) rfl ?_
    refine r_getKI hX hP rfl fl_12_307 hS (x := z5) h21 ?_
    refine r_if_le hX hP rfl (tgt := 25) rfl (by first | decide | omega) (by first | decide | omega) (fun c22 => ?_) (fun c22 => ?_)
    · skip
      exfalso; omega
    · skip
      refine r_ex hX hP 1 (pc' := 24) (st' := [(0, (-1))]) (lo' := [(0, (2, (Ad E 1))), (1, (0, a)), (2, (0, p)), (3, (0, day))]) rfl ?_
      exact r_retI hX hP rfl rfl (by first | decide | omega) (by first | decide | omega) ⟨rfl, ⟨_, (hq_up (hq_call (hq_up (hq_refl _ _ _) rfl) rfl) rfl).symm⟩, (-1), rfl, (by first | decide | omega)⟩
set_option maxRecDepth 100000 in
set_option maxHeartbeats 4000000 in
theorem c_X12_worth (E : En) (S : Sg) (G : Gh) (a p day : Int) (hS : S (Ad E 1) = 1) (a_a : (-2147483648) ≤ a) (a_b : a ≤ 2147483647) (p_a : (-2147483648) ≤ p) (p_b : p ≤ 2147483647) (day_a : (-2147483648) ≤ day) (day_b : day ≤ 2147483647) (mi : MI E G) : Calls E mX12_worth [(2, (Ad E 1)), (0, a), (0, p), (0, day)] S G 41 0 0 (fun r S' G' => S = S' ∧ (∃ G1, hv [0, 1, 120] [19, 72, 73, 74, 75, 76, 77, 78, 79, 80, 81, 82, 83, 84, 85, 86, 87, 88, 90, 91, 92] G G1 = G') ∧ ∃ z : Int, r = some (1, z) ∧ (-9223372036854775808) ≤ z ∧ z ≤ 9223372036854775807) := by
  refine calls_by [(0, (2, (Ad E 1))), (1, (0, a)), (2, (0, p)), (3, (0, day))] rfl rfl (Nat.le_of_ble_eq_true rfl) (fun X hX => ?_)
  have hP := hPX12_worth
  refine r_ex hX hP 2 (pc' := 2) (st' := [(0, 0), (2, (Ad E 1))]) (lo' := [(0, (2, (Ad E 1))), (1, (0, a)), (2, (0, p)), (3, (0, day))]) rfl ?_
  refine r_putIK hX hP rfl fp_12_304 hS (by first | decide | omega) (by first | decide | omega) (fun h1 => ?_)
  refine r_ex hX hP 5 (pc' := 10) (st' := [(0, day), (0, p), (0, a), (2, (Ad E 1)), (2, (Ad E 1))]) (lo' := [(0, (2, (Ad E 1))), (1, (0, a)), (2, (0, p)), (3, (0, day))]) rfl ?_
  refine r_peekI hX (tl1 6 rfl (by decide)) hS (fun acp2 acp2e acp2a acp2b => ?_)
  have mi3 : MI E (up G 1 (Ad E 1) 1 0) := mi_keep mi rfl rfl rfl rfl rfl rfl (fun _ => rfl) (fun _ => rfl) (fun _ => rfl) (fun _ => rfl) (fun _ => rfl) (fun _ => rfl) (fun _ => rfl) (fun _ => rfl) (fun _ => rfl) (fun _ => rfl) (fun _ => rfl) (fun _ => rfl) (fun _ => rfl)
  refine r_callV gd hX hP rfl cv_12_600 hS (d' := 40) (mc' := 0) (ms' := 0) (as' := [(0, a), (0, p), (0, day)]) (st := [(2, (Ad E 1))]) (by first | decide | omega) (by first | decide | omega) (by first | decide | omega) rfl rfl (Nat.le_of_ble_eq_true rfl) (c_X12_asks E S (up G 1 (Ad E 1) 1 0) a p day hS acp2 acp2e (by first | decide | omega) (by first | decide | omega) (by first | decide | omega) (by first | decide | omega) (by first | decide | omega) (by first | decide | omega) mi3) ?_
  rintro _ _ _ ⟨rfl, ⟨G4, rfl⟩, z5, rfl, (⟨rfl, f6, f7, f8, f9⟩ | ⟨z5a, z5b⟩)⟩
  · skip
    refine r_putIK hX hP rfl fp_12_307 hS (by first | decide | omega) (by first | decide | omega) (fun h10 => ?_)
    refine r_ex hX hP 1 (pc' := 17) (st' := [(2, (Ad E 1))]) (lo' := [(0, (2, (Ad E 1))), (1, (0, a)), (2, (0, p)), (3, (0, day))]) rfl ?_
    refine r_getKI hX hP rfl fl_12_307 hS (x := 0) h10 ?_
    refine r_if_le hX hP rfl (tgt := 29) rfl (by first | decide | omega) (by first | decide | omega) (fun c11 => ?_) (fun c11 => ?_)
    · skip
      refine r_ex hX hP 1 (pc' := 30) (st' := [(2, (Ad E 1))]) (lo' := [(0, (2, (Ad E 1))), (1, (0, a)), (2, (0, p)), (3, (0, day))]) rfl ?_
      refine r_getC hX hP rfl fl_12_244 hS (fun s12 => ?_)
      refine r_ex hX hP 5 (pc' := 39) (st' := [(0, ((20 * a) + p)), (2, (Ad E 73))]) (lo' := [(0, (2, (Ad E 1))), (1, (0, a)), (2, (0, p)), (3, (0, day))]) rfl ?_
      refine r_lald hX hP rfl al_73 s12 (by first | decide | omega) (by first | decide | omega) (fun x13 x13e x13a x13b => ?_)
      exact r_retL hX hP rfl rfl (by first | decide | omega) (by first | decide | omega) ⟨rfl, ⟨_, (hq_up (hq_call (hq_up (hq_refl _ _ _) rfl) rfl) rfl).symm⟩, x13, rfl, (by first | decide | omega)⟩
    · skip
      exfalso; omega
  · skip
    refine r_putIK hX hP rfl fp_12_307 hS (by first | decide | omega) (by first | decide | omega) (fun h14 => ?_)
    refine r_ex hX hP 1 (pc' := 17) (st' := [(2, (Ad E 1))]) (lo' := [(0, (2, (Ad E 1))), (1, (0, a)), (2, (0, p)), (3, (0, day))]) rfl ?_
    refine r_getKI hX hP rfl fl_12_307 hS (x := z5) h14 ?_
    refine r_if_le hX hP rfl (tgt := 29) rfl (by first | decide | omega) (by first | decide | omega) (fun c15 => ?_) (fun c15 => ?_)
    · skip
      exfalso; omega
    · skip
      refine r_ldc2 hX hP rfl (v := (-1)) (tbg sg9 135 rfl rfl) ?_
      refine r_ex hX hP 1 (pc' := 40) (st' := [(1, (-1))]) (lo' := [(0, (2, (Ad E 1))), (1, (0, a)), (2, (0, p)), (3, (0, day))]) rfl ?_
      exact r_retL hX hP rfl rfl (by first | decide | omega) (by first | decide | omega) ⟨rfl, ⟨_, (hq_up (hq_call (hq_up (hq_refl _ _ _) rfl) rfl) rfl).symm⟩, (-1), rfl, (by first | decide | omega)⟩
set_option maxRecDepth 100000 in
set_option maxHeartbeats 4000000 in
theorem c_X12_coin (E : En) (S : Sg) (G : Gh) (a w day : Int) (hS : S (Ad E 1) = 1) (a_a : (-2147483648) ≤ a) (a_b : a ≤ 2147483647) (w_a : (-2147483648) ≤ w) (w_b : w ≤ 2147483647) (day_a : (-2147483648) ≤ day) (day_b : day ≤ 2147483647) (mi : MI E G) : Calls E mX12_coin [(2, (Ad E 1)), (0, a), (0, w), (0, day)] S G 41 0 0 (fun r S' G' => S = S' ∧ (∃ G1, hv [0, 1, 120] [19, 72, 73, 74, 75, 76, 77, 78, 79, 80, 81, 82, 83, 84, 85, 86, 87, 88, 90, 91, 92] G G1 = G') ∧ ∃ z : Int, r = some (1, z) ∧ (-9223372036854775808) ≤ z ∧ z ≤ 9223372036854775807) := by
  refine calls_by [(0, (2, (Ad E 1))), (1, (0, a)), (2, (0, w)), (3, (0, day))] rfl rfl (Nat.le_of_ble_eq_true rfl) (fun X hX => ?_)
  have hP := hPX12_coin
  refine r_ex hX hP 2 (pc' := 2) (st' := [(0, 0), (2, (Ad E 1))]) (lo' := [(0, (2, (Ad E 1))), (1, (0, a)), (2, (0, w)), (3, (0, day))]) rfl ?_
  refine r_putIK hX hP rfl fp_12_304 hS (by first | decide | omega) (by first | decide | omega) (fun h1 => ?_)
  refine r_ex hX hP 3 (pc' := 8) (st' := [(0, a), (2, (Ad E 1)), (2, (Ad E 1))]) (lo' := [(0, (2, (Ad E 1))), (1, (0, a)), (2, (0, w)), (3, (0, day))]) rfl ?_
  refine r_peekI hX (tl1 6 rfl (by decide)) hS (fun acp2 acp2e acp2a acp2b => ?_)
  refine r_callV gd hX hP rfl cv_12_324 hS (d' := 1) (mc' := 0) (ms' := 0) (as' := [(0, a)]) (st := [(2, (Ad E 1))]) (by first | decide | omega) (by first | decide | omega) (by first | decide | omega) rfl rfl (Nat.le_of_ble_eq_true rfl) (c_X12_isAccount E S (up G 1 (Ad E 1) 1 0) a hS acp2 acp2e (by first | decide | omega) (by first | decide | omega)) ?_
  rintro _ _ _ ⟨rfl, rfl, z3, rfl, (⟨rfl, f4, f5⟩ | ⟨rfl, f6⟩)⟩
  · skip
    refine r_if_ne hX hP rfl (tgt := 18) rfl (by first | decide | omega) (by first | decide | omega) (fun c7 => ?_) (fun c7 => ?_)
    · skip
      refine r_ex hX hP 3 (pc' := 21) (st' := [(0, 1), (0, 0), (0, w), (2, (Ad E 1))]) (lo' := [(0, (2, (Ad E 1))), (1, (0, a)), (2, (0, w)), (3, (0, day))]) rfl ?_
      refine r_callS gd hX hP rfl cs_12_310 (d' := 0) (mc' := 0) (ms' := 0) (as' := [(0, w), (0, 0), (0, 1)]) (st := [(2, (Ad E 1))]) (by first | decide | omega) (by first | decide | omega) (by first | decide | omega) rfl rfl (Nat.le_of_ble_eq_true rfl) (c_X12_isIn E S (up G 1 (Ad E 1) 1 0) w 0 1 (by first | decide | omega) (by first | decide | omega) (by first | decide | omega) (by first | decide | omega) (by first | decide | omega) (by first | decide | omega)) ?_
      rintro _ _ _ ⟨rfl, rfl, z8, rfl, (⟨rfl, f9, f10⟩ | ⟨rfl, f11⟩)⟩
      · skip
        refine r_if_ne hX hP rfl (tgt := 31) rfl (by first | decide | omega) (by first | decide | omega) (fun c12 => ?_) (fun c12 => ?_)
        · skip
          refine r_ex hX hP 4 (pc' := 35) (st' := [(0, day), (0, 0), (0, a), (2, (Ad E 1)), (2, (Ad E 1))]) (lo' := [(0, (2, (Ad E 1))), (1, (0, a)), (2, (0, w)), (3, (0, day))]) rfl ?_
          have mi13 : MI E (up G 1 (Ad E 1) 1 0) := mi_keep mi rfl rfl rfl rfl rfl rfl (fun _ => rfl) (fun _ => rfl) (fun _ => rfl) (fun _ => rfl) (fun _ => rfl) (fun _ => rfl) (fun _ => rfl) (fun _ => rfl) (fun _ => rfl) (fun _ => rfl) (fun _ => rfl) (fun _ => rfl) (fun _ => rfl)
          refine r_callV gd hX hP rfl cv_12_600 hS (d' := 40) (mc' := 0) (ms' := 0) (as' := [(0, a), (0, 0), (0, day)]) (st := [(2, (Ad E 1))]) (by first | decide | omega) (by first | decide | omega) (by first | decide | omega) rfl rfl (Nat.le_of_ble_eq_true rfl) (c_X12_asks E S (up G 1 (Ad E 1) 1 0) a 0 day hS acp2 acp2e (by first | decide | omega) (by first | decide | omega) (by first | decide | omega) (by first | decide | omega) (by first | decide | omega) (by first | decide | omega) mi13) ?_
          rintro _ _ _ ⟨rfl, ⟨G14, rfl⟩, z15, rfl, (⟨rfl, f16, f17, f18, f19⟩ | ⟨z15a, z15b⟩)⟩
          · skip
            refine r_putIK hX hP rfl fp_12_307 hS (by first | decide | omega) (by first | decide | omega) (fun h20 => ?_)
            refine r_ex hX hP 1 (pc' := 42) (st' := [(2, (Ad E 1))]) (lo' := [(0, (2, (Ad E 1))), (1, (0, a)), (2, (0, w)), (3, (0, day))]) rfl ?_
            refine r_getKI hX hP rfl fl_12_307 hS (x := 0) h20 ?_
            refine r_if_le hX hP rfl (tgt := 54) rfl (by first | decide | omega) (by first | decide | omega) (fun c21 => ?_) (fun c21 => ?_)
            · skip
              refine r_ex hX hP 1 (pc' := 55) (st' := [(0, w)]) (lo' := [(0, (2, (Ad E 1))), (1, (0, a)), (2, (0, w)), (3, (0, day))]) rfl ?_
              refine r_if_ne hX hP rfl (tgt := 67) rfl (by first | decide | omega) (by first | decide | omega) (fun c22 => ?_) (fun c22 => ?_)
              · skip
                refine r_ex hX hP 1 (pc' := 68) (st' := [(2, (Ad E 1))]) (lo' := [(0, (2, (Ad E 1))), (1, (0, a)), (2, (0, w)), (3, (0, day))]) rfl ?_
                refine r_getC hX hP rfl fl_12_250 hS (fun s23 => ?_)
                refine r_ex hX hP 1 (pc' := 72) (st' := [(0, a), (2, (Ad E 75))]) (lo' := [(0, (2, (Ad E 1))), (1, (0, a)), (2, (0, w)), (3, (0, day))]) rfl ?_
                refine r_lald hX hP rfl al_75 s23 (by first | decide | omega) (by first | decide | omega) (fun x24 x24e x24a x24b => ?_)
                exact r_retL hX hP rfl rfl (by first | decide | omega) (by first | decide | omega) ⟨rfl, ⟨_, (hq_up (hq_call (hq_up (hq_refl _ _ _) rfl) rfl) rfl).symm⟩, x24, rfl, (by first | decide | omega)⟩
              · skip
                refine r_ex hX hP 1 (pc' := 59) (st' := [(2, (Ad E 1))]) (lo' := [(0, (2, (Ad E 1))), (1, (0, a)), (2, (0, w)), (3, (0, day))]) rfl ?_
                refine r_getC hX hP rfl fl_12_247 hS (fun s25 => ?_)
                refine r_ex hX hP 1 (pc' := 63) (st' := [(0, a), (2, (Ad E 74))]) (lo' := [(0, (2, (Ad E 1))), (1, (0, a)), (2, (0, w)), (3, (0, day))]) rfl ?_
                refine r_lald hX hP rfl al_74 s25 (by first | decide | omega) (by first | decide | omega) (fun x26 x26e x26a x26b => ?_)
                refine r_ex hX hP 1 (pc' := 73) (st' := [(1, x26)]) (lo' := [(0, (2, (Ad E 1))), (1, (0, a)), (2, (0, w)), (3, (0, day))]) rfl ?_
                exact r_retL hX hP rfl rfl (by first | decide | omega) (by first | decide | omega) ⟨rfl, ⟨_, (hq_up (hq_call (hq_up (hq_refl _ _ _) rfl) rfl) rfl).symm⟩, x26, rfl, (by first | decide | omega)⟩
            · skip
              exfalso; omega
          · skip
            refine r_putIK hX hP rfl fp_12_307 hS (by first | decide | omega) (by first | decide | omega) (fun h27 => ?_)
            refine r_ex hX hP 1 (pc' := 42) (st' := [(2, (Ad E 1))]) (lo' := [(0, (2, (Ad E 1))), (1, (0, a)), (2, (0, w)), (3, (0, day))]) rfl ?_
            refine r_getKI hX hP rfl fl_12_307 hS (x := z15) h27 ?_
            refine r_if_le hX hP rfl (tgt := 54) rfl (by first | decide | omega) (by first | decide | omega) (fun c28 => ?_) (fun c28 => ?_)
            · skip
              exfalso; omega
            · skip
              refine r_ldc2 hX hP rfl (v := (-1)) (tbg sg9 135 rfl rfl) ?_
              refine r_ex hX hP 1 (pc' := 73) (st' := [(1, (-1))]) (lo' := [(0, (2, (Ad E 1))), (1, (0, a)), (2, (0, w)), (3, (0, day))]) rfl ?_
              exact r_retL hX hP rfl rfl (by first | decide | omega) (by first | decide | omega) ⟨rfl, ⟨_, (hq_up (hq_call (hq_up (hq_refl _ _ _) rfl) rfl) rfl).symm⟩, (-1), rfl, (by first | decide | omega)⟩
        · skip
          exfalso; omega
      · skip
        refine r_if_ne hX hP rfl (tgt := 31) rfl (by first | decide | omega) (by first | decide | omega) (fun c29 => ?_) (fun c29 => ?_)
        · skip
          exfalso; omega
        · skip
          refine r_ex hX hP 2 (pc' := 38) (st' := [(0, 2), (2, (Ad E 1))]) (lo' := [(0, (2, (Ad E 1))), (1, (0, a)), (2, (0, w)), (3, (0, day))]) rfl ?_
          refine r_putIK hX hP rfl fp_12_307 hS (by first | decide | omega) (by first | decide | omega) (fun h30 => ?_)
          refine r_ex hX hP 1 (pc' := 42) (st' := [(2, (Ad E 1))]) (lo' := [(0, (2, (Ad E 1))), (1, (0, a)), (2, (0, w)), (3, (0, day))]) rfl ?_
          refine r_getKI hX hP rfl fl_12_307 hS (x := 2) h30 ?_
          refine r_if_le hX hP rfl (tgt := 54) rfl (by first | decide | omega) (by first | decide | omega) (fun c31 => ?_) (fun c31 => ?_)
          · skip
            exfalso; omega
          · skip
            refine r_ldc2 hX hP rfl (v := (-1)) (tbg sg9 135 rfl rfl) ?_
            refine r_ex hX hP 1 (pc' := 73) (st' := [(1, (-1))]) (lo' := [(0, (2, (Ad E 1))), (1, (0, a)), (2, (0, w)), (3, (0, day))]) rfl ?_
            exact r_retL hX hP rfl rfl (by first | decide | omega) (by first | decide | omega) ⟨rfl, ⟨_, (hq_up (hq_up (hq_refl _ _ _) rfl) rfl).symm⟩, (-1), rfl, (by first | decide | omega)⟩
    · skip
      exfalso; omega
  · skip
    refine r_if_ne hX hP rfl (tgt := 18) rfl (by first | decide | omega) (by first | decide | omega) (fun c32 => ?_) (fun c32 => ?_)
    · skip
      exfalso; omega
    · skip
      refine r_ex hX hP 2 (pc' := 38) (st' := [(0, 1), (2, (Ad E 1))]) (lo' := [(0, (2, (Ad E 1))), (1, (0, a)), (2, (0, w)), (3, (0, day))]) rfl ?_
      refine r_putIK hX hP rfl fp_12_307 hS (by first | decide | omega) (by first | decide | omega) (fun h33 => ?_)
      refine r_ex hX hP 1 (pc' := 42) (st' := [(2, (Ad E 1))]) (lo' := [(0, (2, (Ad E 1))), (1, (0, a)), (2, (0, w)), (3, (0, day))]) rfl ?_
      refine r_getKI hX hP rfl fl_12_307 hS (x := 1) h33 ?_
      refine r_if_le hX hP rfl (tgt := 54) rfl (by first | decide | omega) (by first | decide | omega) (fun c34 => ?_) (fun c34 => ?_)
      · skip
        exfalso; omega
      · skip
        refine r_ldc2 hX hP rfl (v := (-1)) (tbg sg9 135 rfl rfl) ?_
        refine r_ex hX hP 1 (pc' := 73) (st' := [(1, (-1))]) (lo' := [(0, (2, (Ad E 1))), (1, (0, a)), (2, (0, w)), (3, (0, day))]) rfl ?_
        exact r_retL hX hP rfl rfl (by first | decide | omega) (by first | decide | omega) ⟨rfl, ⟨_, (hq_up (hq_up (hq_refl _ _ _) rfl) rfl).symm⟩, (-1), rfl, (by first | decide | omega)⟩
set_option maxRecDepth 100000 in
set_option maxHeartbeats 4000000 in
theorem c_X12_stays_ (E : En) (S : Sg) (G : Gh) (e a ch : Int) (hS : S (Ad E 1) = 1) (e_a : (-2147483648) ≤ e) (e_b : e ≤ 2147483647) (a_a : (-2147483648) ≤ a) (a_b : a ≤ 2147483647) (ch_a : (-2147483648) ≤ ch) (ch_b : ch ≤ 2147483647) (mi : MI E G) : Calls E mX12_stays_ [(2, (Ad E 1)), (0, e), (0, a), (0, ch)] S G 40 0 0 (fun r S' G' => S = S' ∧ (∃ G1, hv [0, 1, 120] [19, 72, 73, 74, 75, 76, 77, 78, 79, 80, 81, 82, 83, 84, 85, 86, 87, 88, 90, 91, 92] G G1 = G') ∧ ∃ z : Int, r = some (0, z) ∧ (-2147483648) ≤ z ∧ z ≤ 2147483647) := by
  refine calls_by [(0, (2, (Ad E 1))), (1, (0, e)), (2, (0, a)), (3, (0, ch))] rfl rfl (Nat.le_of_ble_eq_true rfl) (fun X hX => ?_)
  have hP := hPX12_stays_
  refine r_ex hX hP 2 (pc' := 2) (st' := [(0, 0), (2, (Ad E 1))]) (lo' := [(0, (2, (Ad E 1))), (1, (0, e)), (2, (0, a)), (3, (0, ch))]) rfl ?_
  refine r_putIK hX hP rfl fp_12_304 hS (by first | decide | omega) (by first | decide | omega) (fun h1 => ?_)
  refine r_ex hX hP 2 (pc' := 7) (st' := [(0, 0), (2, (Ad E 1))]) (lo' := [(0, (2, (Ad E 1))), (1, (0, e)), (2, (0, a)), (3, (0, ch))]) rfl ?_
  refine r_putIK hX hP rfl fp_12_307 hS (by first | decide | omega) (by first | decide | omega) (fun h2 => ?_)
  refine r_ex hX hP 2 (pc' := 12) (st' := [(0, e), (2, (Ad E 1))]) (lo' := [(0, (2, (Ad E 1))), (1, (0, e)), (2, (0, a)), (3, (0, ch))]) rfl ?_
  refine r_peekI hX (tl1 9 rfl (by decide)) hS (fun evp3 evp3e evp3a evp3b => ?_)
  refine r_callV gd hX hP rfl cv_12_493 hS (d' := 1) (mc' := 0) (ms' := 0) (as' := [(0, e)]) (st := []) (by first | decide | omega) (by first | decide | omega) (by first | decide | omega) rfl rfl (Nat.le_of_ble_eq_true rfl) (c_X12_isEvent E S (up (up G 1 (Ad E 1) 1 0) 1 (Ad E 1) 0 0) e hS evp3 evp3e (by first | decide | omega) (by first | decide | omega)) ?_
  rintro _ _ _ ⟨rfl, rfl, z4, rfl, (⟨rfl, f5, f6⟩ | ⟨rfl, f7⟩)⟩
  · skip
    refine r_if_eq hX hP rfl (tgt := 42) rfl (by first | decide | omega) (by first | decide | omega) (fun c8 => ?_) (fun c8 => ?_)
    · skip
      exfalso; omega
    · skip
      refine r_ex hX hP 2 (pc' := 20) (st' := [(0, a), (2, (Ad E 1))]) (lo' := [(0, (2, (Ad E 1))), (1, (0, e)), (2, (0, a)), (3, (0, ch))]) rfl ?_
      refine r_peekI hX (tl1 6 rfl (by decide)) hS (fun acp9 acp9e acp9a acp9b => ?_)
      refine r_callV gd hX hP rfl cv_12_324 hS (d' := 1) (mc' := 0) (ms' := 0) (as' := [(0, a)]) (st := []) (by first | decide | omega) (by first | decide | omega) (by first | decide | omega) rfl rfl (Nat.le_of_ble_eq_true rfl) (c_X12_isAccount E S (up (up G 1 (Ad E 1) 1 0) 1 (Ad E 1) 0 0) a hS acp9 acp9e (by first | decide | omega) (by first | decide | omega)) ?_
      rintro _ _ _ ⟨rfl, rfl, z10, rfl, (⟨rfl, f11, f12⟩ | ⟨rfl, f13⟩)⟩
      · skip
        refine r_if_eq hX hP rfl (tgt := 42) rfl (by first | decide | omega) (by first | decide | omega) (fun c14 => ?_) (fun c14 => ?_)
        · skip
          exfalso; omega
        · skip
          refine r_ex hX hP 3 (pc' := 29) (st' := [(2, (Ad E 1)), (0, 0), (0, ch)]) (lo' := [(0, (2, (Ad E 1))), (1, (0, e)), (2, (0, a)), (3, (0, ch))]) rfl ?_
          refine r_getC hX hP rfl fl_12_95 hS (fun s15 => ?_)
          refine r_ex hX hP 1 (pc' := 33) (st' := [(0, e), (2, (Ad E 27)), (0, 0), (0, ch)]) (lo' := [(0, (2, (Ad E 1))), (1, (0, e)), (2, (0, a)), (3, (0, ch))]) rfl ?_
          refine r_iald hX hP rfl al_27 s15 (by first | decide | omega) (by first | decide | omega) (fun x16 x16e x16a x16b => ?_)
          refine r_ex hX hP 2 (pc' := 36) (st' := [(0, (x16 - 1)), (0, 0), (0, ch)]) (lo' := [(0, (2, (Ad E 1))), (1, (0, e)), (2, (0, a)), (3, (0, ch))]) rfl ?_
          refine r_callS gd hX hP rfl cs_12_310 (d' := 0) (mc' := 0) (ms' := 0) (as' := [(0, ch), (0, 0), (0, (x16 - 1))]) (st := []) (by first | decide | omega) (by first | decide | omega) (by first | decide | omega) rfl rfl (Nat.le_of_ble_eq_true rfl) (c_X12_isIn E S (up (up G 1 (Ad E 1) 1 0) 1 (Ad E 1) 0 0) ch 0 (x16 - 1) (by first | decide | omega) (by first | decide | omega) (by first | decide | omega) (by first | decide | omega) (by first | decide | omega) (by first | decide | omega)) ?_
          rintro _ _ _ ⟨rfl, rfl, z17, rfl, (⟨rfl, f18, f19⟩ | ⟨rfl, f20⟩)⟩
          · skip
            refine r_if_ne hX hP rfl (tgt := 48) rfl (by first | decide | omega) (by first | decide | omega) (fun c21 => ?_) (fun c21 => ?_)
            · skip
              refine r_ex hX hP 2 (pc' := 50) (st' := [(0, e), (2, (Ad E 1))]) (lo' := [(0, (2, (Ad E 1))), (1, (0, e)), (2, (0, a)), (3, (0, ch))]) rfl ?_
              refine r_callV gd hX hP rfl cv_12_512 hS (d' := 1) (mc' := 0) (ms' := 0) (as' := [(0, e)]) (st := []) (by first | decide | omega) (by first | decide | omega) (by first | decide | omega) rfl rfl (Nat.le_of_ble_eq_true rfl) (c_X12_eventCounts E S (up (up G 1 (Ad E 1) 1 0) 1 (Ad E 1) 0 0) e hS (by first | decide | omega) (by first | decide | omega)) ?_
              rintro _ _ _ ⟨rfl, rfl, z22, rfl, z22a, z22b⟩
              refine r_if_ne hX hP rfl (tgt := 63) rfl (by first | decide | omega) (by first | decide | omega) (fun c23 => ?_) (fun c23 => ?_)
              · skip
                refine r_ex hX hP 2 (pc' := 65) (st' := [(2, (Ad E 1)), (2, (Ad E 1))]) (lo' := [(0, (2, (Ad E 1))), (1, (0, e)), (2, (0, a)), (3, (0, ch))]) rfl ?_
                refine r_getC hX hP rfl fl_12_80 hS (fun s24 => ?_)
                refine r_ex hX hP 1 (pc' := 69) (st' := [(0, e), (2, (Ad E 22)), (2, (Ad E 1))]) (lo' := [(0, (2, (Ad E 1))), (1, (0, e)), (2, (0, a)), (3, (0, ch))]) rfl ?_
                refine r_iald hX hP rfl al_22 s24 (by first | decide | omega) (by first | decide | omega) (fun x25 x25e x25a x25b => ?_)
                refine r_ex hX hP 1 (pc' := 71) (st' := [(0, e), (0, x25), (2, (Ad E 1))]) (lo' := [(0, (2, (Ad E 1))), (1, (0, e)), (2, (0, a)), (3, (0, ch))]) rfl ?_
                have mi26 : MI E (up (up G 1 (Ad E 1) 1 0) 1 (Ad E 1) 0 0) := mi_keep mi rfl rfl rfl rfl rfl rfl (fun _ => rfl) (fun _ => rfl) (fun _ => rfl) (fun _ => rfl) (fun _ => rfl) (fun _ => rfl) (fun _ => rfl) (fun _ => rfl) (fun _ => rfl) (fun _ => rfl) (fun _ => rfl) (fun _ => rfl) (fun _ => rfl)
                refine r_callV gd hX hP rfl cv_12_597 hS (d' := 39) (mc' := 0) (ms' := 0) (as' := [(0, x25), (0, e)]) (st := []) (by first | decide | omega) (by first | decide | omega) (by first | decide | omega) rfl rfl (Nat.le_of_ble_eq_true rfl) (c_X12_runs E S (up (up G 1 (Ad E 1) 1 0) 1 (Ad E 1) 0 0) x25 e hS (by first | decide | omega) (by first | decide | omega) (by first | decide | omega) (by first | decide | omega) mi26) ?_
                rintro _ _ _ ⟨rfl, ⟨G27, rfl⟩, z28, rfl, z28a, z28b⟩
                refine r_if_ne hX hP rfl (tgt := 84) rfl (by first | decide | omega) (by first | decide | omega) (fun c29 => ?_) (fun c29 => ?_)
                · skip
                  refine r_ex hX hP 2 (pc' := 86) (st' := [(0, e), (2, (Ad E 1))]) (lo' := [(0, (2, (Ad E 1))), (1, (0, e)), (2, (0, a)), (3, (0, ch))]) rfl ?_
                  have mi30 : MI E (hv [120] [19, 72, 73, 74, 75, 76, 77, 78, 79, 80, 81, 82, 83, 84, 85, 86, 87, 88, 90, 91, 92] (up (up G 1 (Ad E 1) 1 0) 1 (Ad E 1) 0 0) G27) := mi_keep mi26 rfl rfl rfl rfl rfl rfl (fun _ => rfl) (fun _ => rfl) (fun _ => rfl) (fun _ => rfl) (fun _ => rfl) (fun _ => rfl) (fun _ => rfl) (fun _ => rfl) (fun _ => rfl) (fun _ => rfl) (fun _ => rfl) (fun _ => rfl) (fun _ => rfl)
                  refine r_callV gd hX hP rfl cv_12_560 hS (d' := 3) (mc' := 0) (ms' := 0) (as' := [(0, e)]) (st := []) (by first | decide | omega) (by first | decide | omega) (by first | decide | omega) rfl rfl (Nat.le_of_ble_eq_true rfl) (c_X12_cuts E S (hv [120] [19, 72, 73, 74, 75, 76, 77, 78, 79, 80, 81, 82, 83, 84, 85, 86, 87, 88, 90, 91, 92] (up (up G 1 (Ad E 1) 1 0) 1 (Ad E 1) 0 0) G27) e hS (by first | decide | omega) (by first | decide | omega) mi30) ?_
                  rintro _ _ _ ⟨rfl, ⟨G31, rfl⟩, rfl, -⟩
                  refine r_ex hX hP 1 (pc' := 90) (st' := [(2, (Ad E 1))]) (lo' := [(0, (2, (Ad E 1))), (1, (0, e)), (2, (0, a)), (3, (0, ch))]) rfl ?_
                  refine r_getC hX hP rfl fl_12_259 hS (fun s32 => ?_)
                  refine r_ex hX hP 5 (pc' := 99) (st' := [(0, ((20 * ch) + a)), (2, (Ad E 78))]) (lo' := [(0, (2, (Ad E 1))), (1, (0, e)), (2, (0, a)), (3, (0, ch))]) rfl ?_
                  refine r_lald hX hP rfl al_78 s32 (by first | decide | omega) (by first | decide | omega) (fun x33 x33e x33a x33b => ?_)
                  refine r_ex hX hP 1 (pc' := 101) (st' := [(0, x33)]) (lo' := [(0, (2, (Ad E 1))), (1, (0, e)), (2, (0, a)), (3, (0, ch))]) rfl ?_
                  refine r_hvI hX (fun w34 w34a w34b w34e => ?_)
                  exact r_retI hX hP rfl rfl (by first | decide | omega) (by first | decide | omega) ⟨rfl, ⟨_, (hq_call (hq_call (hq_up (hq_up (hq_refl _ _ _) rfl) rfl) rfl) rfl).symm⟩, w34, rfl, (by first | decide | omega)⟩
                · skip
                  refine r_ex hX hP 2 (pc' := 80) (st' := [(0, 8), (2, (Ad E 1))]) (lo' := [(0, (2, (Ad E 1))), (1, (0, e)), (2, (0, a)), (3, (0, ch))]) rfl ?_
                  refine r_callV gd hX hP rfl cv_12_327 hS (d' := 0) (mc' := 0) (ms' := 0) (as' := [(0, 8)]) (st := []) (by first | decide | omega) (by first | decide | omega) (by first | decide | omega) rfl rfl (Nat.le_of_ble_eq_true rfl) (c_X12_refuse E S (hv [120] [19, 72, 73, 74, 75, 76, 77, 78, 79, 80, 81, 82, 83, 84, 85, 86, 87, 88, 90, 91, 92] (up (up G 1 (Ad E 1) 1 0) 1 (Ad E 1) 0 0) G27) 8 hS (by first | decide | omega) (by first | decide | omega)) ?_
                  rintro _ _ _ ⟨rfl, ⟨G35, rfl⟩, z36, rfl, rfl⟩
                  exact r_retI hX hP rfl rfl (by first | decide | omega) (by first | decide | omega) ⟨rfl, ⟨_, (hq_call (hq_call (hq_up (hq_up (hq_refl _ _ _) rfl) rfl) rfl) rfl).symm⟩, (-1), rfl, (by first | decide | omega)⟩
              · skip
                refine r_ex hX hP 2 (pc' := 59) (st' := [(0, 7), (2, (Ad E 1))]) (lo' := [(0, (2, (Ad E 1))), (1, (0, e)), (2, (0, a)), (3, (0, ch))]) rfl ?_
                refine r_callV gd hX hP rfl cv_12_327 hS (d' := 0) (mc' := 0) (ms' := 0) (as' := [(0, 7)]) (st := []) (by first | decide | omega) (by first | decide | omega) (by first | decide | omega) rfl rfl (Nat.le_of_ble_eq_true rfl) (c_X12_refuse E S (up (up G 1 (Ad E 1) 1 0) 1 (Ad E 1) 0 0) 7 hS (by first | decide | omega) (by first | decide | omega)) ?_
                rintro _ _ _ ⟨rfl, ⟨G37, rfl⟩, z38, rfl, rfl⟩
                exact r_retI hX hP rfl rfl (by first | decide | omega) (by first | decide | omega) ⟨rfl, ⟨_, (hq_call (hq_up (hq_up (hq_refl _ _ _) rfl) rfl) rfl).symm⟩, (-1), rfl, (by first | decide | omega)⟩
            · skip
              exfalso; omega
          · skip
            refine r_if_ne hX hP rfl (tgt := 48) rfl (by first | decide | omega) (by first | decide | omega) (fun c39 => ?_) (fun c39 => ?_)
            · skip
              exfalso; omega
            · skip
              refine r_ex hX hP 2 (pc' := 44) (st' := [(0, 1), (2, (Ad E 1))]) (lo' := [(0, (2, (Ad E 1))), (1, (0, e)), (2, (0, a)), (3, (0, ch))]) rfl ?_
              refine r_callV gd hX hP rfl cv_12_327 hS (d' := 0) (mc' := 0) (ms' := 0) (as' := [(0, 1)]) (st := []) (by first | decide | omega) (by first | decide | omega) (by first | decide | omega) rfl rfl (Nat.le_of_ble_eq_true rfl) (c_X12_refuse E S (up (up G 1 (Ad E 1) 1 0) 1 (Ad E 1) 0 0) 1 hS (by first | decide | omega) (by first | decide | omega)) ?_
              rintro _ _ _ ⟨rfl, ⟨G40, rfl⟩, z41, rfl, rfl⟩
              exact r_retI hX hP rfl rfl (by first | decide | omega) (by first | decide | omega) ⟨rfl, ⟨_, (hq_call (hq_up (hq_up (hq_refl _ _ _) rfl) rfl) rfl).symm⟩, (-1), rfl, (by first | decide | omega)⟩
      · skip
        refine r_if_eq hX hP rfl (tgt := 42) rfl (by first | decide | omega) (by first | decide | omega) (fun c42 => ?_) (fun c42 => ?_)
        · skip
          refine r_ex hX hP 2 (pc' := 44) (st' := [(0, 1), (2, (Ad E 1))]) (lo' := [(0, (2, (Ad E 1))), (1, (0, e)), (2, (0, a)), (3, (0, ch))]) rfl ?_
          refine r_callV gd hX hP rfl cv_12_327 hS (d' := 0) (mc' := 0) (ms' := 0) (as' := [(0, 1)]) (st := []) (by first | decide | omega) (by first | decide | omega) (by first | decide | omega) rfl rfl (Nat.le_of_ble_eq_true rfl) (c_X12_refuse E S (up (up G 1 (Ad E 1) 1 0) 1 (Ad E 1) 0 0) 1 hS (by first | decide | omega) (by first | decide | omega)) ?_
          rintro _ _ _ ⟨rfl, ⟨G43, rfl⟩, z44, rfl, rfl⟩
          exact r_retI hX hP rfl rfl (by first | decide | omega) (by first | decide | omega) ⟨rfl, ⟨_, (hq_call (hq_up (hq_up (hq_refl _ _ _) rfl) rfl) rfl).symm⟩, (-1), rfl, (by first | decide | omega)⟩
        · skip
          exfalso; omega
  · skip
    refine r_if_eq hX hP rfl (tgt := 42) rfl (by first | decide | omega) (by first | decide | omega) (fun c45 => ?_) (fun c45 => ?_)
    · skip
      refine r_ex hX hP 2 (pc' := 44) (st' := [(0, 1), (2, (Ad E 1))]) (lo' := [(0, (2, (Ad E 1))), (1, (0, e)), (2, (0, a)), (3, (0, ch))]) rfl ?_
      refine r_callV gd hX hP rfl cv_12_327 hS (d' := 0) (mc' := 0) (ms' := 0) (as' := [(0, 1)]) (st := []) (by first | decide | omega) (by first | decide | omega) (by first | decide | omega) rfl rfl (Nat.le_of_ble_eq_true rfl) (c_X12_refuse E S (up (up G 1 (Ad E 1) 1 0) 1 (Ad E 1) 0 0) 1 hS (by first | decide | omega) (by first | decide | omega)) ?_
      rintro _ _ _ ⟨rfl, ⟨G46, rfl⟩, z47, rfl, rfl⟩
      exact r_retI hX hP rfl rfl (by first | decide | omega) (by first | decide | omega) ⟨rfl, ⟨_, (hq_call (hq_up (hq_up (hq_refl _ _ _) rfl) rfl) rfl).symm⟩, (-1), rfl, (by first | decide | omega)⟩
    · skip
      exfalso; omega
set_option maxRecDepth 100000 in
set_option maxHeartbeats 4000000 in
theorem c_X12_done (E : En) (S : Sg) (G : Gh) (t : Int) (hS : S (Ad E 1) = 1) (t_a : (-2147483648) ≤ t) (t_b : t ≤ 2147483647) (mi : MI E G) : Calls E mX12_done [(2, (Ad E 1)), (0, t)] S G 40 0 0 (fun r S' G' => S = S' ∧ (∃ G1, hv [0, 1, 120] [19, 72, 73, 74, 75, 76, 77, 78, 79, 80, 81, 82, 83, 84, 85, 86, 87, 88, 90, 91, 92] G G1 = G') ∧ ∃ z : Int, r = some (0, z) ∧ (-2147483648) ≤ z ∧ z ≤ 2147483647) := by
  refine calls_by [(0, (2, (Ad E 1))), (1, (0, t))] rfl rfl (Nat.le_of_ble_eq_true rfl) (fun X hX => ?_)
  have hP := hPX12_done
  refine r_ex hX hP 2 (pc' := 2) (st' := [(0, 0), (2, (Ad E 1))]) (lo' := [(0, (2, (Ad E 1))), (1, (0, t))]) rfl ?_
  refine r_putIK hX hP rfl fp_12_304 hS (by first | decide | omega) (by first | decide | omega) (fun h1 => ?_)
  refine r_ex hX hP 2 (pc' := 7) (st' := [(0, 0), (2, (Ad E 1))]) (lo' := [(0, (2, (Ad E 1))), (1, (0, t))]) rfl ?_
  refine r_putIK hX hP rfl fp_12_307 hS (by first | decide | omega) (by first | decide | omega) (fun h2 => ?_)
  refine r_ex hX hP 2 (pc' := 12) (st' := [(0, t), (2, (Ad E 1))]) (lo' := [(0, (2, (Ad E 1))), (1, (0, t))]) rfl ?_
  refine r_peekI hX (tl1 8 rfl (by decide)) hS (fun trp3 trp3e trp3a trp3b => ?_)
  refine r_callV gd hX hP rfl cv_12_604 hS (d' := 1) (mc' := 0) (ms' := 0) (as' := [(0, t)]) (st := []) (by first | decide | omega) (by first | decide | omega) (by first | decide | omega) rfl rfl (Nat.le_of_ble_eq_true rfl) (c_X12_isTrade E S (up (up G 1 (Ad E 1) 1 0) 1 (Ad E 1) 0 0) t hS trp3 trp3e (by first | decide | omega) (by first | decide | omega)) ?_
  rintro _ _ _ ⟨rfl, rfl, z4, rfl, (⟨rfl, f5, f6⟩ | ⟨rfl, f7⟩)⟩
  · skip
    refine r_if_ne hX hP rfl (tgt := 24) rfl (by first | decide | omega) (by first | decide | omega) (fun c8 => ?_) (fun c8 => ?_)
    · skip
      refine r_ex hX hP 2 (pc' := 26) (st' := [(0, t), (2, (Ad E 1))]) (lo' := [(0, (2, (Ad E 1))), (1, (0, t))]) rfl ?_
      refine r_callV gd hX hP rfl cv_12_530 hS (d' := 1) (mc' := 0) (ms' := 0) (as' := [(0, t)]) (st := []) (by first | decide | omega) (by first | decide | omega) (by first | decide | omega) rfl rfl (Nat.le_of_ble_eq_true rfl) (c_X12_tradeCounts E S (up (up G 1 (Ad E 1) 1 0) 1 (Ad E 1) 0 0) t hS (by first | decide | omega) (by first | decide | omega)) ?_
      rintro _ _ _ ⟨rfl, rfl, z9, rfl, z9a, z9b⟩
      refine r_if_ne hX hP rfl (tgt := 39) rfl (by first | decide | omega) (by first | decide | omega) (fun c10 => ?_) (fun c10 => ?_)
      · skip
        refine r_ex hX hP 2 (pc' := 41) (st' := [(2, (Ad E 1)), (2, (Ad E 1))]) (lo' := [(0, (2, (Ad E 1))), (1, (0, t))]) rfl ?_
        refine r_getC hX hP rfl fl_12_61 hS (fun s11 => ?_)
        refine r_ex hX hP 1 (pc' := 45) (st' := [(0, t), (2, (Ad E 16)), (2, (Ad E 1))]) (lo' := [(0, (2, (Ad E 1))), (1, (0, t))]) rfl ?_
        refine r_iald hX hP rfl al_16 s11 (by first | decide | omega) (by first | decide | omega) (fun x12 x12e x12a x12b => ?_)
        refine r_ex hX hP 1 (pc' := 47) (st' := [(0, (-1)), (0, x12), (2, (Ad E 1))]) (lo' := [(0, (2, (Ad E 1))), (1, (0, t))]) rfl ?_
        have mi13 : MI E (up (up G 1 (Ad E 1) 1 0) 1 (Ad E 1) 0 0) := mi_keep mi rfl rfl rfl rfl rfl rfl (fun _ => rfl) (fun _ => rfl) (fun _ => rfl) (fun _ => rfl) (fun _ => rfl) (fun _ => rfl) (fun _ => rfl) (fun _ => rfl) (fun _ => rfl) (fun _ => rfl) (fun _ => rfl) (fun _ => rfl) (fun _ => rfl)
        refine r_callV gd hX hP rfl cv_12_597 hS (d' := 39) (mc' := 0) (ms' := 0) (as' := [(0, x12), (0, (-1))]) (st := []) (by first | decide | omega) (by first | decide | omega) (by first | decide | omega) rfl rfl (Nat.le_of_ble_eq_true rfl) (c_X12_runs E S (up (up G 1 (Ad E 1) 1 0) 1 (Ad E 1) 0 0) x12 (-1) hS (by first | decide | omega) (by first | decide | omega) (by first | decide | omega) (by first | decide | omega) mi13) ?_
        rintro _ _ _ ⟨rfl, ⟨G14, rfl⟩, z15, rfl, z15a, z15b⟩
        refine r_if_ne hX hP rfl (tgt := 60) rfl (by first | decide | omega) (by first | decide | omega) (fun c16 => ?_) (fun c16 => ?_)
        · skip
          refine r_ex hX hP 1 (pc' := 61) (st' := [(2, (Ad E 1))]) (lo' := [(0, (2, (Ad E 1))), (1, (0, t))]) rfl ?_
          refine r_getC hX hP rfl fl_12_70 hS (fun s17 => ?_)
          refine r_ex hX hP 1 (pc' := 65) (st' := [(0, t), (2, (Ad E 19))]) (lo' := [(0, (2, (Ad E 1))), (1, (0, t))]) rfl ?_
          refine r_zald hX hP rfl al_19 s17 (by first | decide | omega) (by first | decide | omega) (fun x18 x18e x18a x18b => ?_)
          refine r_if_eq hX hP rfl (tgt := 73) rfl (by first | decide | omega) (by first | decide | omega) (fun c19 => ?_) (fun c19 => ?_)
          · skip
            refine r_ex hX hP 1 (pc' := 74) (st' := [(0, 0)]) (lo' := [(0, (2, (Ad E 1))), (1, (0, t))]) rfl ?_
            exact r_retI hX hP rfl rfl (by first | decide | omega) (by first | decide | omega) ⟨rfl, ⟨_, (hq_call (hq_up (hq_up (hq_refl _ _ _) rfl) rfl) rfl).symm⟩, 0, rfl, (by first | decide | omega)⟩
          · skip
            refine r_ex hX hP 2 (pc' := 74) (st' := [(0, 1)]) (lo' := [(0, (2, (Ad E 1))), (1, (0, t))]) rfl ?_
            exact r_retI hX hP rfl rfl (by first | decide | omega) (by first | decide | omega) ⟨rfl, ⟨_, (hq_call (hq_up (hq_up (hq_refl _ _ _) rfl) rfl) rfl).symm⟩, 1, rfl, (by first | decide | omega)⟩
        · skip
          refine r_ex hX hP 2 (pc' := 56) (st' := [(0, 8), (2, (Ad E 1))]) (lo' := [(0, (2, (Ad E 1))), (1, (0, t))]) rfl ?_
          refine r_callV gd hX hP rfl cv_12_327 hS (d' := 0) (mc' := 0) (ms' := 0) (as' := [(0, 8)]) (st := []) (by first | decide | omega) (by first | decide | omega) (by first | decide | omega) rfl rfl (Nat.le_of_ble_eq_true rfl) (c_X12_refuse E S (hv [120] [19, 72, 73, 74, 75, 76, 77, 78, 79, 80, 81, 82, 83, 84, 85, 86, 87, 88, 90, 91, 92] (up (up G 1 (Ad E 1) 1 0) 1 (Ad E 1) 0 0) G14) 8 hS (by first | decide | omega) (by first | decide | omega)) ?_
          rintro _ _ _ ⟨rfl, ⟨G20, rfl⟩, z21, rfl, rfl⟩
          exact r_retI hX hP rfl rfl (by first | decide | omega) (by first | decide | omega) ⟨rfl, ⟨_, (hq_call (hq_call (hq_up (hq_up (hq_refl _ _ _) rfl) rfl) rfl) rfl).symm⟩, (-1), rfl, (by first | decide | omega)⟩
      · skip
        refine r_ex hX hP 2 (pc' := 35) (st' := [(0, 7), (2, (Ad E 1))]) (lo' := [(0, (2, (Ad E 1))), (1, (0, t))]) rfl ?_
        refine r_callV gd hX hP rfl cv_12_327 hS (d' := 0) (mc' := 0) (ms' := 0) (as' := [(0, 7)]) (st := []) (by first | decide | omega) (by first | decide | omega) (by first | decide | omega) rfl rfl (Nat.le_of_ble_eq_true rfl) (c_X12_refuse E S (up (up G 1 (Ad E 1) 1 0) 1 (Ad E 1) 0 0) 7 hS (by first | decide | omega) (by first | decide | omega)) ?_
        rintro _ _ _ ⟨rfl, ⟨G22, rfl⟩, z23, rfl, rfl⟩
        exact r_retI hX hP rfl rfl (by first | decide | omega) (by first | decide | omega) ⟨rfl, ⟨_, (hq_call (hq_up (hq_up (hq_refl _ _ _) rfl) rfl) rfl).symm⟩, (-1), rfl, (by first | decide | omega)⟩
    · skip
      exfalso; omega
  · skip
    refine r_if_ne hX hP rfl (tgt := 24) rfl (by first | decide | omega) (by first | decide | omega) (fun c24 => ?_) (fun c24 => ?_)
    · skip
      exfalso; omega
    · skip
      refine r_ex hX hP 2 (pc' := 20) (st' := [(0, 1), (2, (Ad E 1))]) (lo' := [(0, (2, (Ad E 1))), (1, (0, t))]) rfl ?_
      refine r_callV gd hX hP rfl cv_12_327 hS (d' := 0) (mc' := 0) (ms' := 0) (as' := [(0, 1)]) (st := []) (by first | decide | omega) (by first | decide | omega) (by first | decide | omega) rfl rfl (Nat.le_of_ble_eq_true rfl) (c_X12_refuse E S (up (up G 1 (Ad E 1) 1 0) 1 (Ad E 1) 0 0) 1 hS (by first | decide | omega) (by first | decide | omega)) ?_
      rintro _ _ _ ⟨rfl, ⟨G25, rfl⟩, z26, rfl, rfl⟩
      exact r_retI hX hP rfl rfl (by first | decide | omega) (by first | decide | omega) ⟨rfl, ⟨_, (hq_call (hq_up (hq_up (hq_refl _ _ _) rfl) rfl) rfl).symm⟩, (-1), rfl, (by first | decide | omega)⟩
