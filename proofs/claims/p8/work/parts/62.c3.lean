theorem al_99 : Al 99 1 9 (1, (-9223372036854775808), 9223372036854775807) := ⟨rfl, by decide, by decide⟩
theorem fl_X4_28_134 : Fl RX4 28 134 2 (0, 0, 1) := ⟨5, 6, fs_134, RX4, TX4, rfl, rfl, by decide, rfl, by decide, rfl, cf_X4, (tbg sg2 6 rfl rfl)⟩
theorem co_X4_divisor : Co mX4_divisor 2 := ⟨(tbg sg7 8 rfl rfl), (tbg sg1 7 rfl rfl), by decide, by decide, by decide +kernel, by decide⟩
theorem cs_X4_38 : Cs RX4 38 mX4_divisor 2 := ⟨co_X4_divisor, (tbg sg7 6 rfl rfl), (tbg sg7 7 rfl rfl)⟩
theorem fl_X4_25_134 : Fl RX4 25 134 0 (1, (-9223372036854775808), 9223372036854775807) := ⟨5, 6, fs_134, RX4, TX4, rfl, rfl, by decide, rfl, by decide, rfl, cf_X4, (tbg sg2 2 rfl rfl)⟩
theorem fl_X4_9_134 : Fl RX4 9 134 1 (1, (-9223372036854775808), 9223372036854775807) := ⟨5, 6, fs_134, RX4, TX4, rfl, rfl, by decide, rfl, by decide, rfl, cf_X4, (tbg sg2 4 rfl rfl)⟩
theorem fp_X4_28_134 : Fp RX4 28 134 2 (0, 0, 1) := ⟨fl_X4_28_134, 5, 6, fs_134, RX4, TX4, .boolean, rfl, rfl, rfl, by decide +kernel, fun E S x h => zfit h⟩
theorem fp_X4_25_134 : Fp RX4 25 134 0 (1, (-9223372036854775808), 9223372036854775807) := ⟨fl_X4_25_134, 5, 6, fs_134, RX4, TX4, .long, rfl, rfl, rfl, by decide +kernel, fun E S x h => ⟨rfl, rfl⟩⟩
theorem fp_X4_9_134 : Fp RX4 9 134 1 (1, (-9223372036854775808), 9223372036854775807) := ⟨fl_X4_9_134, 5, 6, fs_134, RX4, TX4, .long, rfl, rfl, rfl, by decide +kernel, fun E S x h => ⟨rfl, rfl⟩⟩
theorem fl_X4_15_134 : Fl RX4 15 134 3 (2, 99, 0) := ⟨5, 6, fs_134, RX4, TX4, rfl, rfl, by decide, rfl, by decide, rfl, cf_X4, (tbg sg2 8 rfl rfl)⟩
theorem co_X3_addTimes : Co mX3_addTimes 3 := ⟨(tbg sg6 112 rfl rfl), (tbg sg1 25 rfl rfl), by decide, by decide, by decide +kernel, by decide⟩
theorem cs_X4_44 : Cs RX4 44 mX3_addTimes 3 := ⟨co_X3_addTimes, (tbg sg7 20 rfl rfl), (tbg sg6 111 rfl rfl)⟩
theorem fl_X4_19_134 : Fl RX4 19 134 4 (2, 99, 0) := ⟨5, 6, fs_134, RX4, TX4, rfl, rfl, by decide, rfl, by decide, rfl, cf_X4, (tbg sg2 9 rfl rfl)⟩
theorem fl_X4_22_134 : Fl RX4 22 134 5 (2, 99, 0) := ⟨5, 6, fs_134, RX4, TX4, rfl, rfl, by decide, rfl, by decide, rfl, cf_X4, (tbg sg2 10 rfl rfl)⟩
theorem co_X3_put : Co mX3_put 2 := ⟨(tbg sg6 45 rfl rfl), (tbg sg1 25 rfl rfl), by decide, by decide, by decide +kernel, by decide⟩
theorem cs_X4_32 : Cs RX4 32 mX3_put 2 := ⟨co_X3_put, (tbg sg6 221 rfl rfl), (tbg sg6 44 rfl rfl)⟩
theorem co_X3_isLess : Co mX3_isLess 2 := ⟨(tbg sg6 119 rfl rfl), (tbg sg1 25 rfl rfl), by decide, by decide, by decide +kernel, by decide⟩
theorem cs_X4_54 : Cs RX4 54 mX3_isLess 2 := ⟨co_X3_isLess, (tbg sg7 25 rfl rfl), (tbg sg6 118 rfl rfl)⟩
theorem fl_X9_63_136 : Fl RX9 63 136 0 (0, 0, 30) := ⟨10, 16, fs_136, RX9, TX9, rfl, rfl, by decide, rfl, by decide, rfl, cf_X9, (tbg sg3 169 rfl rfl)⟩
theorem fp_X9_63_136 : Fp RX9 63 136 0 (0, 0, 30) := ⟨fl_X9_63_136, 10, 16, fs_136, RX9, TX9, .int, rfl, rfl, rfl, by decide +kernel, fun E S x h => ⟨rfl, rfl⟩⟩
theorem fl_X9_66_136 : Fl RX9 66 136 1 (0, 0, 3) := ⟨10, 16, fs_136, RX9, TX9, rfl, rfl, by decide, rfl, by decide, rfl, cf_X9, (tbg sg3 174 rfl rfl)⟩
theorem fp_X9_66_136 : Fp RX9 66 136 1 (0, 0, 3) := ⟨fl_X9_66_136, 10, 16, fs_136, RX9, TX9, .int, rfl, rfl, rfl, by decide +kernel, fun E S x h => ⟨rfl, rfl⟩⟩
theorem fl_X9_9_136 : Fl RX9 9 136 2 (0, (-1), 2) := ⟨10, 16, fs_136, RX9, TX9, rfl, rfl, by decide, rfl, by decide, rfl, cf_X9, (tbg sg3 179 rfl rfl)⟩
theorem fp_X9_9_136 : Fp RX9 9 136 2 (0, (-1), 2) := ⟨fl_X9_9_136, 10, 16, fs_136, RX9, TX9, .int, rfl, rfl, rfl, by decide +kernel, fun E S x h => ⟨rfl, rfl⟩⟩
theorem fl_X9_34_136 : Fl RX9 34 136 9 (2, 124, 0) := ⟨10, 16, fs_136, RX9, TX9, rfl, rfl, by decide, rfl, by decide, rfl, cf_X9, (tbg sg3 208 rfl rfl)⟩
theorem co_J7_fill_53178 : Co mJ7_fill_53178 2 := ⟨(tbg sg3 168 rfl rfl), (tbg sg1 15 rfl rfl), by decide, by decide, by decide +kernel, by decide⟩
theorem cs_X9_57 : Cs RX9 57 mJ7_fill_53178 2 := ⟨co_J7_fill_53178, (tbg sg3 166 rfl rfl), (tbg sg3 167 rfl rfl)⟩
theorem fl_X9_37_136 : Fl RX9 37 136 10 (2, 124, 0) := ⟨10, 16, fs_136, RX9, TX9, rfl, rfl, by decide, rfl, by decide, rfl, cf_X9, (tbg sg3 212 rfl rfl)⟩
theorem fl_X9_15_136 : Fl RX9 15 136 3 (2, 120, 0) := ⟨10, 16, fs_136, RX9, TX9, rfl, rfl, by decide, rfl, by decide, rfl, cf_X9, (tbg sg3 183 rfl rfl)⟩
theorem al_120 : Al 120 0 30 (0, (-2147483648), 2147483647) := ⟨rfl, by decide, by decide⟩
theorem fl_X9_28_136 : Fl RX9 28 136 7 (2, 122, 0) := ⟨10, 16, fs_136, RX9, TX9, rfl, rfl, by decide, rfl, by decide, rfl, cf_X9, (tbg sg3 202 rfl rfl)⟩
theorem al_122 : Al 122 0 30 (0, 0, 3) := ⟨rfl, by decide, by decide⟩
theorem fl_X9_31_136 : Fl RX9 31 136 8 (2, 123, 0) := ⟨10, 16, fs_136, RX9, TX9, rfl, rfl, by decide, rfl, by decide, rfl, cf_X9, (tbg sg3 206 rfl rfl)⟩
theorem al_123 : Al 123 0 30 (0, (-1), 59) := ⟨rfl, by decide, by decide⟩
theorem fl_X9_40_136 : Fl RX9 40 136 11 (2, 125, 0) := ⟨10, 16, fs_136, RX9, TX9, rfl, rfl, by decide, rfl, by decide, rfl, cf_X9, (tbg sg3 216 rfl rfl)⟩
theorem fl_X9_22_136 : Fl RX9 22 136 5 (2, 121, 0) := ⟨10, 16, fs_136, RX9, TX9, rfl, rfl, by decide, rfl, by decide, rfl, cf_X9, (tbg sg3 193 rfl rfl)⟩
theorem al_121 : Al 121 0 30 (0, (-2147483648), 2147483647) := ⟨rfl, by decide, by decide⟩
theorem fl_X9_19_136 : Fl RX9 19 136 4 (2, 119, 0) := ⟨10, 16, fs_136, RX9, TX9, rfl, rfl, by decide, rfl, by decide, rfl, cf_X9, (tbg sg3 188 rfl rfl)⟩
theorem al_119 : Al 119 0 30 (0, (-2147483648), 2147483647) := ⟨rfl, by decide, by decide⟩
theorem fl_X9_44_136 : Fl RX9 44 136 12 (2, 126, 0) := ⟨10, 16, fs_136, RX9, TX9, rfl, rfl, by decide, rfl, by decide, rfl, cf_X9, (tbg sg3 220 rfl rfl)⟩
theorem al_126 : Al 126 3 30 (0, 0, 1) := ⟨rfl, by decide, by decide⟩
theorem fl_X9_48_136 : Fl RX9 48 136 13 (2, 119, 0) := ⟨10, 16, fs_136, RX9, TX9, rfl, rfl, by decide, rfl, by decide, rfl, cf_X9, (tbg sg3 223 rfl rfl)⟩
theorem fl_X9_25_136 : Fl RX9 25 136 6 (2, 119, 0) := ⟨10, 16, fs_136, RX9, TX9, rfl, rfl, by decide, rfl, by decide, rfl, cf_X9, (tbg sg3 198 rfl rfl)⟩
theorem fl_X9_51_136 : Fl RX9 51 136 14 (2, 127, 0) := ⟨10, 16, fs_136, RX9, TX9, rfl, rfl, by decide, rfl, by decide, rfl, cf_X9, (tbg sg3 224 rfl rfl)⟩
theorem al_127 : Al 127 1 30 (1, (-9223372036854775808), 9223372036854775807) := ⟨rfl, by decide, by decide⟩
theorem co_X9_isOneMore : Co mX9_isOneMore 2 := ⟨(tbg sg5 183 rfl rfl), (tbg sg1 17 rfl rfl), by decide, by decide, by decide +kernel, by decide⟩
theorem cv_X9_81_136 : Cv RX9 81 mX9_isOneMore 136 2 := ⟨co_X9_isOneMore, (tbg sg5 180 rfl rfl), (tbg sg5 181 rfl rfl), 10, 16, fs_136, RX9, TX9, rfl, by decide, rfl, (tbg sg5 182 rfl rfl)⟩
theorem fl_X9_54_136 : Fl RX9 54 136 15 (2, 127, 0) := ⟨10, 16, fs_136, RX9, TX9, rfl, rfl, by decide, rfl, by decide, rfl, cf_X9, (tbg sg3 227 rfl rfl)⟩
theorem co_X9_isLive : Co mX9_isLive 1 := ⟨(tbg sg5 175 rfl rfl), (tbg sg1 17 rfl rfl), by decide, by decide, by decide +kernel, by decide⟩
theorem cv_X9_69_136 : Cv RX9 69 mX9_isLive 136 1 := ⟨co_X9_isLive, (tbg sg5 172 rfl rfl), (tbg sg5 174 rfl rfl), 10, 16, fs_136, RX9, TX9, rfl, by decide, rfl, (tbm 49 (by decide +kernel) rfl)⟩
theorem co_X9_ratio : Co mX9_ratio 2 := ⟨(tbg sg5 188 rfl rfl), (tbg sg1 17 rfl rfl), by decide, by decide, by decide +kernel, by decide⟩
theorem cv_X9_77_136 : Cv RX9 77 mX9_ratio 136 2 := ⟨co_X9_ratio, (tbg sg5 185 rfl rfl), (tbg sg5 187 rfl rfl), 10, 16, fs_136, RX9, TX9, rfl, by decide, rfl, (tbm 51 (by decide +kernel) rfl)⟩
theorem co_X9_give : Co mX9_give 3 := ⟨(tbg sg5 179 rfl rfl), (tbg sg1 17 rfl rfl), by decide, by decide, by decide +kernel, by decide⟩
theorem cv_X9_73_136 : Cv RX9 73 mX9_give 136 3 := ⟨co_X9_give, (tbg sg5 176 rfl rfl), (tbg sg5 178 rfl rfl), 10, 16, fs_136, RX9, TX9, rfl, by decide, rfl, (tbm 50 (by decide +kernel) rfl)⟩
theorem co_X4_put : Co mX4_put 1 := ⟨(tbg sg6 220 rfl rfl), (tbg sg1 7 rfl rfl), by decide, by decide, by decide +kernel, by decide⟩
theorem cv_X9_93_134 : Cv RX9 93 mX4_put 134 1 := ⟨co_X4_put, (tbg sg7 15 rfl rfl), (tbg sg6 218 rfl rfl), 5, 6, fs_134, RX4, TX4, rfl, by decide, rfl, (tbg sg6 219 rfl rfl)⟩
theorem co_X4_plus : Co mX4_plus 2 := ⟨(tbg sg7 19 rfl rfl), (tbg sg1 7 rfl rfl), by decide, by decide, by decide +kernel, by decide⟩
theorem cv_X9_99_134 : Cv RX9 99 mX4_plus 134 2 := ⟨co_X4_plus, (tbg sg7 16 rfl rfl), (tbg sg7 17 rfl rfl), 5, 6, fs_134, RX4, TX4, rfl, by decide, rfl, (tbg sg7 18 rfl rfl)⟩
set_option maxRecDepth 100000 in
set_option maxHeartbeats 4000000 in
theorem c_X3_put (E : En) (S : Sg) (G : Gh) (row : Int) (number : Int) (row_s : S row = 99) (number_a : (-9223372036854775808) ≤ number) (number_b : number ≤ 9223372036854775807) : Calls E mX3_put [(2, row), (1, number)] S G 0 0 0 (fun r S' G' => S = S' ∧ (∃ G1, hw [(99, -1)] G G1 = G') ∧ r = none ∧ True) := by
  refine calls_by [(0, (2, row)), (1, (1, number))] rfl rfl (Nat.le_of_ble_eq_true rfl) (fun X hX => ?_)
  have hP := hPX3_put
  refine r_ex hX hP 4 (pc' := 5) (st' := []) (lo' := [(0, (2, row)), (1, (1, number)), (3, (1, number)), (5, (0, 0))]) rfl ?_
  have loop5 : ∀ (nF : Nat) (l3_h5 l5_h5 : Int) (Gh5 : Gh), (-9223372036854775808) ≤ l3_h5 → l3_h5 ≤ 9223372036854775807 → 0 ≤ l5_h5 → l5_h5 ≤ 9 → 9 - l5_h5 < (nF : Int) → X 0 0 5 [] [(0, (2, row)), (1, (1, number)), (3, (1, l3_h5)), (5, (0, l5_h5))] S (hw [(99, -1)] G Gh5) := by
    intro nF
    induction nF with
    | zero => intro l3_h5 l5_h5 Gh5 yh5_0 yh5_1 yh5_2 yh5_3 ym5; exfalso; omega
    | succ nF ih5 =>
      intro l3_h5 l5_h5 Gh5 yh5_0 yh5_1 yh5_2 yh5_3 ym5
      refine r_ex hX hP 2 (pc' := 9) (st' := [(0, 9), (0, l5_h5)]) (lo' := [(0, (2, row)), (1, (1, number)), (3, (1, l3_h5)), (5, (0, l5_h5))]) rfl ?_
      refine r_ic_ge hX hP rfl (tgt := 32) rfl (by first | decide | omega) (by first | decide | omega) (by first | decide | omega) (by first | decide | omega) (fun c1 => ?_) (fun c1 => ?_)
      · skip
        exact r_retV hX hP rfl rfl (by first | decide | omega) (by first | decide | omega) ⟨rfl, ⟨_, (hw_sub (hw_refl _ _) rfl).symm⟩, rfl, trivial⟩
      · skip
        refine r_ex hX hP 3 (pc' := 16) (st' := [(1, l3_h5), (0, l5_h5), (2, row)]) (lo' := [(0, (2, row)), (1, (1, number)), (3, (1, l3_h5)), (5, (0, l5_h5))]) rfl ?_
        refine r_ldc2 hX hP rfl (v := 1099511627775) (tbg sg6 46 rfl rfl) ?_
        refine r_land hX hP rfl (fun b2 b2a b2b b2e => ?_)
        refine r_lastK hX hP rfl al_99 row_s (by first | decide | omega) (by first | decide | omega) (by first | decide | omega) (by first | decide | omega) (fun h3 => ?_)
        refine r_ex hX hP 2 (pc' := 24) (st' := [(0, 40), (1, l3_h5)]) (lo' := [(0, (2, row)), (1, (1, number)), (3, (1, l3_h5)), (5, (0, l5_h5))]) rfl ?_
        refine r_lushr hX hP rfl (fun b4 b4a b4b b4e => ?_)
        refine r_ex hX hP 3 (pc' := 5) (st' := []) (lo' := [(0, (2, row)), (1, (1, number)), (3, (1, b4)), (5, (0, (l5_h5 + 1)))]) rfl ?_
        refine r_eqG (X := X) (hw_up (hw_base _ _ _) rfl) ?_
        exact ih5 b4 (l5_h5 + 1) _ (by first | decide | omega) (by first | decide | omega) (by first | decide | omega) (by first | decide | omega) (by first | decide | omega)
  refine r_eqG (X := X) (hw_refl [(99, -1)] _) ?_
  exact loop5 ((9 - 0) + 1 : Int).toNat number 0 _ (by first | decide | omega) (by first | decide | omega) (by first | decide | omega) (by first | decide | omega) (by first | decide | omega)
set_option maxRecDepth 100000 in
set_option maxHeartbeats 4000000 in
theorem c_X3_copy (E : En) (S : Sg) (G : Gh) (frm : Int) (into : Int) (frm_s : S frm = 99) (into_s : S into = 99) : Calls E mX3_copy [(2, frm), (2, into)] S G 3 0 0 (fun r S' G' => S = S' ∧ (∃ G1, hw [(99, -1)] G G1 = G') ∧ r = none ∧ True) := by
  refine calls_by [(0, (2, frm)), (1, (2, into))] rfl rfl (Nat.le_of_ble_eq_true rfl) (fun X hX => ?_)
  have hP := hPX3_copy
  refine r_ex hX hP 5 (pc' := 6) (st' := [(0, 9), (0, 0), (2, into), (0, 0), (2, frm)]) (lo' := [(0, (2, frm)), (1, (2, into))]) rfl ?_
  refine r_acopyJ hX hP rfl (n := 9) al_99 al_99 (tbg sg6 131 rfl rfl) (tbg sg3 126 rfl rfl) (tbg sg3 125 rfl rfl) (tbg sg1 16 rfl rfl) (by decide) (Nat.le_of_ble_eq_true rfl) frm_s into_s (by decide) (by decide) ?_
  rw [cpy_hw]
  generalize cpy _ _ _ _ _ _ = G1
  exact r_retV hX hP rfl rfl (by first | decide | omega) (by first | decide | omega) ⟨rfl, ⟨_, (hw_sub (hw_refl _ _) rfl).symm⟩, rfl, trivial⟩
set_option maxRecDepth 100000 in
set_option maxHeartbeats 4000000 in
theorem c_X3_addTimes (E : En) (S : Sg) (G : Gh) (row : Int) (other : Int) (times : Int) (row_s : S row = 99) (other_s : S other = 99) (times_a : (-9223372036854775808) ≤ times) (times_b : times ≤ 9223372036854775807) : Calls E mX3_addTimes [(2, row), (2, other), (1, times)] S G 0 0 0 (fun r S' G' => S = S' ∧ (∃ G1, hw [(99, -1)] G G1 = G') ∧ r = none ∧ True) := by
  refine calls_by [(0, (2, row)), (1, (2, other)), (2, (1, times))] rfl rfl (Nat.le_of_ble_eq_true rfl) (fun X hX => ?_)
  have hP := hPX3_addTimes
  refine r_ex hX hP 4 (pc' := 6) (st' := []) (lo' := [(0, (2, row)), (1, (2, other)), (2, (1, times)), (4, (1, 0)), (6, (0, 0))]) rfl ?_
  have loop6 : ∀ (nF : Nat) (l4_h6 l6_h6 : Int) (Gh6 : Gh), (-9223372036854775808) ≤ l4_h6 → l4_h6 ≤ 9223372036854775807 → 0 ≤ l6_h6 → l6_h6 ≤ 9 → 9 - l6_h6 < (nF : Int) → X 0 0 6 [] [(0, (2, row)), (1, (2, other)), (2, (1, times)), (4, (1, l4_h6)), (6, (0, l6_h6))] S (hw [(99, -1)] G Gh6) := by
    intro nF
    induction nF with
    | zero => intro l4_h6 l6_h6 Gh6 yh6_0 yh6_1 yh6_2 yh6_3 ym6; exfalso; omega
    | succ nF ih6 =>
      intro l4_h6 l6_h6 Gh6 yh6_0 yh6_1 yh6_2 yh6_3 ym6
      refine r_ex hX hP 2 (pc' := 10) (st' := [(0, 9), (0, l6_h6)]) (lo' := [(0, (2, row)), (1, (2, other)), (2, (1, times)), (4, (1, l4_h6)), (6, (0, l6_h6))]) rfl ?_
      refine r_ic_ge hX hP rfl (tgt := 52) rfl (by first | decide | omega) (by first | decide | omega) (by first | decide | omega) (by first | decide | omega) (fun c1 => ?_) (fun c1 => ?_)
      · skip
        exact r_retV hX hP rfl rfl (by first | decide | omega) (by first | decide | omega) ⟨rfl, ⟨_, (hw_sub (hw_refl _ _) rfl).symm⟩, rfl, trivial⟩
      · skip
        refine r_ex hX hP 2 (pc' := 16) (st' := [(0, l6_h6), (2, row)]) (lo' := [(0, (2, row)), (1, (2, other)), (2, (1, times)), (4, (1, l4_h6)), (6, (0, l6_h6))]) rfl ?_
        refine r_lald hX hP rfl al_99 row_s (by first | decide | omega) (by first | decide | omega) (fun x2 x2e x2a x2b => ?_)
        refine r_ex hX hP 2 (pc' := 20) (st' := [(0, l6_h6), (2, other), (1, x2)]) (lo' := [(0, (2, row)), (1, (2, other)), (2, (1, times)), (4, (1, l4_h6)), (6, (0, l6_h6))]) rfl ?_
        refine r_lald hX hP rfl al_99 other_s (by first | decide | omega) (by first | decide | omega) (fun x3 x3e x3a x3b => ?_)
        refine r_ex hX hP 2 (pc' := 23) (st' := [(1, (x3 * times)), (1, x2)]) (lo' := [(0, (2, row)), (1, (2, other)), (2, (1, times)), (4, (1, l4_h6)), (6, (0, l6_h6))]) rfl ?_
        refine r_hvL hX (fun w4 w4a w4b w4e => ?_)
        refine r_ex hX hP 1 (pc' := 24) (st' := [(1, (x2 + w4))]) (lo' := [(0, (2, row)), (1, (2, other)), (2, (1, times)), (4, (1, l4_h6)), (6, (0, l6_h6))]) rfl ?_
        refine r_hvL hX (fun w5 w5a w5b w5e => ?_)
        refine r_ex hX hP 2 (pc' := 27) (st' := [(1, (w5 + l4_h6))]) (lo' := [(0, (2, row)), (1, (2, other)), (2, (1, times)), (4, (1, l4_h6)), (6, (0, l6_h6))]) rfl ?_
        refine r_hvL hX (fun w6 w6a w6b w6e => ?_)
        refine r_ex hX hP 4 (pc' := 34) (st' := [(1, w6), (0, l6_h6), (2, row)]) (lo' := [(0, (2, row)), (1, (2, other)), (2, (1, times)), (4, (1, l4_h6)), (6, (0, l6_h6)), (7, (1, w6))]) rfl ?_
        refine r_ldc2 hX hP rfl (v := 1099511627775) (tbg sg6 46 rfl rfl) ?_
        refine r_land hX hP rfl (fun b7 b7a b7b b7e => ?_)
        refine r_lastK hX hP rfl al_99 row_s (by first | decide | omega) (by first | decide | omega) (by first | decide | omega) (by first | decide | omega) (fun h8 => ?_)
        refine r_ex hX hP 2 (pc' := 43) (st' := [(0, 40), (1, w6)]) (lo' := [(0, (2, row)), (1, (2, other)), (2, (1, times)), (4, (1, l4_h6)), (6, (0, l6_h6)), (7, (1, w6))]) rfl ?_
        refine r_lushr hX hP rfl (fun b9 b9a b9b b9e => ?_)
        refine r_ex hX hP 3 (pc' := 6) (st' := []) (lo' := [(0, (2, row)), (1, (2, other)), (2, (1, times)), (4, (1, b9)), (6, (0, (l6_h6 + 1))), (7, (1, w6))]) rfl ?_
        refine r_pick hX [0, 1, 2, 3, 4] (lo' := [(0, (2, row)), (1, (2, other)), (2, (1, times)), (4, (1, b9)), (6, (0, (l6_h6 + 1)))]) rfl ?_
        refine r_eqG (X := X) (hw_up (hw_base _ _ _) rfl) ?_
        exact ih6 b9 (l6_h6 + 1) _ (by first | decide | omega) (by first | decide | omega) (by first | decide | omega) (by first | decide | omega) (by first | decide | omega)
  refine r_eqG (X := X) (hw_refl [(99, -1)] _) ?_
  exact loop6 ((9 - 0) + 1 : Int).toNat 0 0 _ (by first | decide | omega) (by first | decide | omega) (by first | decide | omega) (by first | decide | omega) (by first | decide | omega)
set_option maxRecDepth 100000 in
set_option maxHeartbeats 4000000 in
theorem c_X3_subtract (E : En) (S : Sg) (G : Gh) (row : Int) (other : Int) (row_s : S row = 99) (other_s : S other = 99) : Calls E mX3_subtract [(2, row), (2, other)] S G 0 0 0 (fun r S' G' => S = S' ∧ (∃ G1, hw [(99, -1)] G G1 = G') ∧ r = none ∧ True) := by
  refine calls_by [(0, (2, row)), (1, (2, other))] rfl rfl (Nat.le_of_ble_eq_true rfl) (fun X hX => ?_)
  have hP := hPX3_subtract
  refine r_ex hX hP 4 (pc' := 5) (st' := []) (lo' := [(0, (2, row)), (1, (2, other)), (2, (1, 0)), (4, (0, 0))]) rfl ?_
  have loop5 : ∀ (nF : Nat) (l2_h5 l4_h5 : Int) (Gh5 : Gh), (-9223372036854775808) ≤ l2_h5 → l2_h5 ≤ 9223372036854775807 → 0 ≤ l4_h5 → l4_h5 ≤ 9 → 9 - l4_h5 < (nF : Int) → X 0 0 5 [] [(0, (2, row)), (1, (2, other)), (2, (1, l2_h5)), (4, (0, l4_h5))] S (hw [(99, -1)] G Gh5) := by
    intro nF
    induction nF with
    | zero => intro l2_h5 l4_h5 Gh5 yh5_0 yh5_1 yh5_2 yh5_3 ym5; exfalso; omega
    | succ nF ih5 =>
      intro l2_h5 l4_h5 Gh5 yh5_0 yh5_1 yh5_2 yh5_3 ym5
      refine r_ex hX hP 2 (pc' := 9) (st' := [(0, 9), (0, l4_h5)]) (lo' := [(0, (2, row)), (1, (2, other)), (2, (1, l2_h5)), (4, (0, l4_h5))]) rfl ?_
      refine r_ic_ge hX hP rfl (tgt := 54) rfl (by first | decide | omega) (by first | decide | omega) (by first | decide | omega) (by first | decide | omega) (fun c1 => ?_) (fun c1 => ?_)
      · skip
        exact r_retV hX hP rfl rfl (by first | decide | omega) (by first | decide | omega) ⟨rfl, ⟨_, (hw_sub (hw_refl _ _) rfl).symm⟩, rfl, trivial⟩
      · skip
        refine r_ex hX hP 2 (pc' := 15) (st' := [(0, l4_h5), (2, row)]) (lo' := [(0, (2, row)), (1, (2, other)), (2, (1, l2_h5)), (4, (0, l4_h5))]) rfl ?_
        refine r_lald hX hP rfl al_99 row_s (by first | decide | omega) (by first | decide | omega) (fun x2 x2e x2a x2b => ?_)
        refine r_ex hX hP 2 (pc' := 19) (st' := [(0, l4_h5), (2, other), (1, x2)]) (lo' := [(0, (2, row)), (1, (2, other)), (2, (1, l2_h5)), (4, (0, l4_h5))]) rfl ?_
        refine r_lald hX hP rfl al_99 other_s (by first | decide | omega) (by first | decide | omega) (fun x3 x3e x3a x3b => ?_)
        refine r_ex hX hP 1 (pc' := 21) (st' := [(1, (x2 - x3))]) (lo' := [(0, (2, row)), (1, (2, other)), (2, (1, l2_h5)), (4, (0, l4_h5))]) rfl ?_
        refine r_hvL hX (fun w4 w4a w4b w4e => ?_)
        refine r_ex hX hP 2 (pc' := 23) (st' := [(1, (w4 - l2_h5))]) (lo' := [(0, (2, row)), (1, (2, other)), (2, (1, l2_h5)), (4, (0, l4_h5))]) rfl ?_
        refine r_hvL hX (fun w5 w5a w5b w5e => ?_)
        refine r_ex hX hP 4 (pc' := 30) (st' := [(1, w5), (0, l4_h5), (2, row)]) (lo' := [(0, (2, row)), (1, (2, other)), (2, (1, l2_h5)), (4, (0, l4_h5)), (5, (1, w5))]) rfl ?_
        refine r_ldc2 hX hP rfl (v := 1099511627775) (tbg sg6 46 rfl rfl) ?_
        refine r_land hX hP rfl (fun b6 b6a b6b b6e => ?_)
        refine r_lastK hX hP rfl al_99 row_s (by first | decide | omega) (by first | decide | omega) (by first | decide | omega) (by first | decide | omega) (fun h7 => ?_)
        refine r_ex hX hP 2 (pc' := 38) (st' := [(1, 0), (1, w5)]) (lo' := [(0, (2, row)), (1, (2, other)), (2, (1, l2_h5)), (4, (0, l4_h5)), (5, (1, w5))]) rfl ?_
        refine r_lc_ge hX hP rfl rfl (tgt := 46) rfl (by first | decide | omega) (by first | decide | omega) (by first | decide | omega) (by first | decide | omega) (fun c8 => ?_) (fun c8 => ?_)
        · skip
          refine r_ex hX hP 4 (pc' := 5) (st' := []) (lo' := [(0, (2, row)), (1, (2, other)), (2, (1, 0)), (4, (0, (l4_h5 + 1))), (5, (1, w5))]) rfl ?_
          refine r_pick hX [0, 1, 2, 3] (lo' := [(0, (2, row)), (1, (2, other)), (2, (1, 0)), (4, (0, (l4_h5 + 1)))]) rfl ?_
          refine r_eqG (X := X) (hw_up (hw_base _ _ _) rfl) ?_
          exact ih5 0 (l4_h5 + 1) _ (by first | decide | omega) (by first | decide | omega) (by first | decide | omega) (by first | decide | omega) (by first | decide | omega)
        · skip
          refine r_ex hX hP 5 (pc' := 5) (st' := []) (lo' := [(0, (2, row)), (1, (2, other)), (2, (1, 1)), (4, (0, (l4_h5 + 1))), (5, (1, w5))]) rfl ?_
          refine r_pick hX [0, 1, 2, 3] (lo' := [(0, (2, row)), (1, (2, other)), (2, (1, 1)), (4, (0, (l4_h5 + 1)))]) rfl ?_
          refine r_eqG (X := X) (hw_up (hw_base _ _ _) rfl) ?_
          exact ih5 1 (l4_h5 + 1) _ (by first | decide | omega) (by first | decide | omega) (by first | decide | omega) (by first | decide | omega) (by first | decide | omega)
  refine r_eqG (X := X) (hw_refl [(99, -1)] _) ?_
  exact loop5 ((9 - 0) + 1 : Int).toNat 0 0 _ (by first | decide | omega) (by first | decide | omega) (by first | decide | omega) (by first | decide | omega) (by first | decide | omega)
set_option maxRecDepth 100000 in
set_option maxHeartbeats 4000000 in
theorem c_X3_divide (E : En) (S : Sg) (G : Gh) (row : Int) (divisor : Int) (row_s : S row = 99) (divisor_a : (-9223372036854775808) ≤ divisor) (divisor_b : divisor ≤ 9223372036854775807) : Calls E mX3_divide [(2, row), (1, divisor)] S G 0 0 0 (fun r S' G' => S = S' ∧ (∃ G1, hw [(99, -1)] G G1 = G') ∧ ∃ z : Int, r = some (1, z) ∧ (-9223372036854775808) ≤ z ∧ z ≤ 9223372036854775807) := by
  refine calls_by [(0, (2, row)), (1, (1, divisor))] rfl rfl (Nat.le_of_ble_eq_true rfl) (fun X hX => ?_)
  have hP := hPX3_divide
  refine r_ex hX hP 4 (pc' := 6) (st' := []) (lo' := [(0, (2, row)), (1, (1, divisor)), (3, (1, 0)), (5, (0, 8))]) rfl ?_
  have x47 : ∀ (l3_x47 l5_x47 : Int) (Gx47 : Gh), (-9223372036854775808) ≤ l3_x47 → l3_x47 ≤ 9223372036854775807 → (-1) ≤ l5_x47 → l5_x47 ≤ 8 → X 0 0 47 [] [(0, (2, row)), (1, (1, divisor)), (3, (1, l3_x47)), (5, (0, l5_x47))] S (hw [(99, -1)] G Gx47) := by
    intro l3_x47 l5_x47 Gx47 yx47_0 yx47_1 yx47_2 yx47_3
    refine r_ex hX hP 1 (pc' := 48) (st' := [(1, l3_x47)]) (lo' := [(0, (2, row)), (1, (1, divisor)), (3, (1, l3_x47)), (5, (0, l5_x47))]) rfl ?_
    exact r_retL hX hP rfl rfl (by first | decide | omega) (by first | decide | omega) ⟨rfl, ⟨_, (hw_sub (hw_refl _ _) rfl).symm⟩, l3_x47, rfl, (by first | decide | omega)⟩
  have loop6 : ∀ (nF : Nat) (l3_h6 l5_h6 : Int) (Gh6 : Gh), (-9223372036854775808) ≤ l3_h6 → l3_h6 ≤ 9223372036854775807 → (-1) ≤ l5_h6 → l5_h6 ≤ 8 → l5_h6 - (-1) < (nF : Int) → X 0 0 6 [] [(0, (2, row)), (1, (1, divisor)), (3, (1, l3_h6)), (5, (0, l5_h6))] S (hw [(99, -1)] G Gh6) := by
    intro nF
    induction nF with
    | zero => intro l3_h6 l5_h6 Gh6 yh6_0 yh6_1 yh6_2 yh6_3 ym6; exfalso; omega
    | succ nF ih6 =>
      intro l3_h6 l5_h6 Gh6 yh6_0 yh6_1 yh6_2 yh6_3 ym6
      refine r_ex hX hP 1 (pc' := 8) (st' := [(0, l5_h6)]) (lo' := [(0, (2, row)), (1, (1, divisor)), (3, (1, l3_h6)), (5, (0, l5_h6))]) rfl ?_
      refine r_if_lt hX hP rfl (tgt := 47) rfl (by first | decide | omega) (by first | decide | omega) (fun c1 => ?_) (fun c1 => ?_)
      · skip
        refine r_eqG (X := X) (hw_sub (hw_refl [(99, -1)] _) rfl) ?_
        exact x47 l3_h6 l5_h6 _ (by first | decide | omega) (by first | decide | omega) (by first | decide | omega) (by first | decide | omega)
      · skip
        refine r_ex hX hP 2 (pc' := 13) (st' := [(1, 0), (1, divisor)]) (lo' := [(0, (2, row)), (1, (1, divisor)), (3, (1, l3_h6)), (5, (0, l5_h6))]) rfl ?_
        refine r_lc_le hX hP rfl rfl (tgt := 47) rfl (by first | decide | omega) (by first | decide | omega) (by first | decide | omega) (by first | decide | omega) (fun c2 => ?_) (fun c2 => ?_)
        · skip
          refine r_eqG (X := X) (hw_sub (hw_refl [(99, -1)] _) rfl) ?_
          exact x47 l3_h6 l5_h6 _ (by first | decide | omega) (by first | decide | omega) (by first | decide | omega) (by first | decide | omega)
        · skip
          refine r_ex hX hP 2 (pc' := 20) (st' := [(0, 40), (1, l3_h6)]) (lo' := [(0, (2, row)), (1, (1, divisor)), (3, (1, l3_h6)), (5, (0, l5_h6))]) rfl ?_
          refine r_lshl hX hP rfl (fun b3 b3a b3b b3e => ?_)
          refine r_ex hX hP 2 (pc' := 24) (st' := [(0, l5_h6), (2, row), (1, b3)]) (lo' := [(0, (2, row)), (1, (1, divisor)), (3, (1, l3_h6)), (5, (0, l5_h6))]) rfl ?_
          refine r_lald hX hP rfl al_99 row_s (by first | decide | omega) (by first | decide | omega) (fun x4 x4e x4a x4b => ?_)
          refine r_ex hX hP 1 (pc' := 26) (st' := [(1, (b3 + x4))]) (lo' := [(0, (2, row)), (1, (1, divisor)), (3, (1, l3_h6)), (5, (0, l5_h6))]) rfl ?_
          refine r_hvL hX (fun w5 w5a w5b w5e => ?_)
          refine r_ex hX hP 5 (pc' := 34) (st' := [(1, divisor), (1, w5), (0, l5_h6), (2, row)]) (lo' := [(0, (2, row)), (1, (1, divisor)), (3, (1, l3_h6)), (5, (0, l5_h6)), (6, (1, w5))]) rfl ?_
          refine r_ldiv hX hP rfl (by first | decide | omega) (by first | decide | omega) (by first | decide | omega) (by first | decide | omega) (by first | decide | omega) ?_
          obtain ⟨q6, q6e⟩ : ∃ q : Int, q = (Int.tdiv w5 divisor) := ⟨_, rfl⟩
          rw [← q6e]
          have q6b := td_gen q6e (by first | decide | omega)
          refine r_hvL hX (fun w7 w7a w7b w7e => ?_)
          refine r_lastK hX hP rfl al_99 row_s (by first | decide | omega) (by first | decide | omega) (by first | decide | omega) (by first | decide | omega) (fun h8 => ?_)
          refine r_ex hX hP 2 (pc' := 39) (st' := [(1, divisor), (1, w5)]) (lo' := [(0, (2, row)), (1, (1, divisor)), (3, (1, l3_h6)), (5, (0, l5_h6)), (6, (1, w5))]) rfl ?_
          refine r_lrem hX hP rfl (by first | decide | omega) (by first | decide | omega) (by first | decide | omega) (by first | decide | omega) (by first | decide | omega) ?_
          obtain ⟨q9, q9e⟩ : ∃ q : Int, q = (Int.tmod w5 divisor) := ⟨_, rfl⟩
          rw [← q9e]
          have q9b := tm_gen q9e (by first | decide | omega)
          refine r_ex hX hP 3 (pc' := 6) (st' := []) (lo' := [(0, (2, row)), (1, (1, divisor)), (3, (1, q9)), (5, (0, (l5_h6 + (-1)))), (6, (1, w5))]) rfl ?_
          refine r_pick hX [0, 1, 2, 3] (lo' := [(0, (2, row)), (1, (1, divisor)), (3, (1, q9)), (5, (0, (l5_h6 + (-1))))]) rfl ?_
          refine r_eqG (X := X) (hw_up (hw_base _ _ _) rfl) ?_
          exact ih6 q9 (l5_h6 + (-1)) _ (by first | decide | omega) (by first | decide | omega) (by first | decide | omega) (by first | decide | omega) (by first | decide | omega)
  refine r_eqG (X := X) (hw_refl [(99, -1)] _) ?_
  exact loop6 ((8 - (-1)) + 1 : Int).toNat 0 8 _ (by first | decide | omega) (by first | decide | omega) (by first | decide | omega) (by first | decide | omega) (by first | decide | omega)
set_option maxRecDepth 100000 in
set_option maxHeartbeats 4000000 in
theorem c_X3_isLess (E : En) (S : Sg) (G : Gh) (row : Int) (other : Int) (row_s : S row = 99) (other_s : S other = 99) : Calls E mX3_isLess [(2, row), (2, other)] S G 0 0 0 (fun r S' G' => S = S' ∧ G = G' ∧ ∃ z : Int, r = some (0, z) ∧ 0 ≤ z ∧ z ≤ 1) := by
  refine calls_by [(0, (2, row)), (1, (2, other))] rfl rfl (Nat.le_of_ble_eq_true rfl) (fun X hX => ?_)
  have hP := hPX3_isLess
  refine r_ex hX hP 2 (pc' := 3) (st' := []) (lo' := [(0, (2, row)), (1, (2, other)), (2, (0, 8))]) rfl ?_
  have x23 : ∀ (l2_x23 : Int), 0 ≤ l2_x23 → l2_x23 ≤ 8 → X 0 0 23 [] [(0, (2, row)), (1, (2, other)), (2, (0, l2_x23))] S G := by
    intro l2_x23 yx23_0 yx23_1
    refine r_ex hX hP 2 (pc' := 25) (st' := [(0, l2_x23), (2, row)]) (lo' := [(0, (2, row)), (1, (2, other)), (2, (0, l2_x23))]) rfl ?_
    refine r_lald hX hP rfl al_99 row_s (by first | decide | omega) (by first | decide | omega) (fun x1 x1e x1a x1b => ?_)
    refine r_ex hX hP 2 (pc' := 28) (st' := [(0, l2_x23), (2, other), (1, x1)]) (lo' := [(0, (2, row)), (1, (2, other)), (2, (0, l2_x23))]) rfl ?_
    refine r_lald hX hP rfl al_99 other_s (by first | decide | omega) (by first | decide | omega) (fun x2 x2e x2a x2b => ?_)
    refine r_lc_ge hX hP rfl rfl (tgt := 37) rfl (by first | decide | omega) (by first | decide | omega) (by first | decide | omega) (by first | decide | omega) (fun c3 => ?_) (fun c3 => ?_)
    · skip
      refine r_ex hX hP 1 (pc' := 38) (st' := [(0, 0)]) (lo' := [(0, (2, row)), (1, (2, other)), (2, (0, l2_x23))]) rfl ?_
      exact r_retZ hX hP rfl rfl (by first | decide | omega) (by first | decide | omega) (by first | decide | omega) (by first | decide | omega) ⟨rfl, rfl, 0, rfl, (by first | decide | omega)⟩
    · skip
      refine r_ex hX hP 2 (pc' := 38) (st' := [(0, 1)]) (lo' := [(0, (2, row)), (1, (2, other)), (2, (0, l2_x23))]) rfl ?_
      exact r_retZ hX hP rfl rfl (by first | decide | omega) (by first | decide | omega) (by first | decide | omega) (by first | decide | omega) ⟨rfl, rfl, 1, rfl, (by first | decide | omega)⟩
  have loop3 : ∀ (nF : Nat) (l2_h3 : Int), 0 ≤ l2_h3 → l2_h3 ≤ 8 → l2_h3 - 0 < (nF : Int) → X 0 0 3 [] [(0, (2, row)), (1, (2, other)), (2, (0, l2_h3))] S G := by
    intro nF
    induction nF with
    | zero => intro l2_h3 yh3_0 yh3_1 ym3; exfalso; omega
    | succ nF ih3 =>
      intro l2_h3 yh3_0 yh3_1 ym3
      refine r_ex hX hP 1 (pc' := 4) (st' := [(0, l2_h3)]) (lo' := [(0, (2, row)), (1, (2, other)), (2, (0, l2_h3))]) rfl ?_
      refine r_if_le hX hP rfl (tgt := 23) rfl (by first | decide | omega) (by first | decide | omega) (fun c4 => ?_) (fun c4 => ?_)
      · skip
        exact x23 l2_h3 (by first | decide | omega) (by first | decide | omega)
      · skip
        refine r_ex hX hP 2 (pc' := 9) (st' := [(0, l2_h3), (2, row)]) (lo' := [(0, (2, row)), (1, (2, other)), (2, (0, l2_h3))]) rfl ?_
        refine r_lald hX hP rfl al_99 row_s (by first | decide | omega) (by first | decide | omega) (fun x5 x5e x5a x5b => ?_)
        refine r_ex hX hP 2 (pc' := 12) (st' := [(0, l2_h3), (2, other), (1, x5)]) (lo' := [(0, (2, row)), (1, (2, other)), (2, (0, l2_h3))]) rfl ?_
        refine r_lald hX hP rfl al_99 other_s (by first | decide | omega) (by first | decide | omega) (fun x6 x6e x6a x6b => ?_)
        refine r_lc_ne hX hP rfl rfl (tgt := 23) rfl (by first | decide | omega) (by first | decide | omega) (by first | decide | omega) (by first | decide | omega) (fun c7 => ?_) (fun c7 => ?_)
        · skip
          exact x23 l2_h3 (by first | decide | omega) (by first | decide | omega)
        · skip
          refine r_ex hX hP 2 (pc' := 3) (st' := []) (lo' := [(0, (2, row)), (1, (2, other)), (2, (0, (l2_h3 + (-1))))]) rfl ?_
          exact ih3 (l2_h3 + (-1)) (by first | decide | omega) (by first | decide | omega) (by first | decide | omega)
  exact loop3 ((8 - 0) + 1 : Int).toNat 8 (by first | decide | omega) (by first | decide | omega) (by first | decide | omega)
set_option maxRecDepth 100000 in
set_option maxHeartbeats 4000000 in
theorem c_X3_cutToLong (E : En) (S : Sg) (G : Gh) (row : Int) (row_s : S row = 99) : Calls E mX3_cutToLong [(2, row)] S G 0 0 0 (fun r S' G' => S = S' ∧ G = G' ∧ ∃ z : Int, r = some (1, z) ∧ (-9223372036854775808) ≤ z ∧ z ≤ 9223372036854775807) := by
  refine calls_by [(0, (2, row))] rfl rfl (Nat.le_of_ble_eq_true rfl) (fun X hX => ?_)
  have hP := hPX3_cutToLong
  refine r_ex hX hP 2 (pc' := 2) (st' := [(0, 0), (2, row)]) (lo' := [(0, (2, row))]) rfl ?_
  refine r_lald hX hP rfl al_99 row_s (by first | decide | omega) (by first | decide | omega) (fun x1 x1e x1a x1b => ?_)
  refine r_ldc2 hX hP rfl (v := 1000000000) (tbg sg6 148 rfl rfl) ?_
  refine r_lc_ge hX hP rfl rfl (tgt := 14) rfl (by first | decide | omega) (by first | decide | omega) (by first | decide | omega) (by first | decide | omega) (fun c2 => ?_) (fun c2 => ?_)
  · skip
    refine r_ex hX hP 4 (pc' := 18) (st' := []) (lo' := [(0, (2, row)), (1, (0, 0)), (2, (0, 1))]) rfl ?_
    have loop18 : ∀ (nF : Nat) (l1_h18 l2_h18 : Int), 0 ≤ l1_h18 → l1_h18 ≤ 1 → 1 ≤ l2_h18 → l2_h18 ≤ 9 → 9 - l2_h18 < (nF : Int) → X 0 0 18 [] [(0, (2, row)), (1, (0, l1_h18)), (2, (0, l2_h18))] S G := by
      intro nF
      induction nF with
      | zero => intro l1_h18 l2_h18 yh18_0 yh18_1 yh18_2 yh18_3 ym18; exfalso; omega
      | succ nF ih18 =>
        intro l1_h18 l2_h18 yh18_0 yh18_1 yh18_2 yh18_3 ym18
        refine r_ex hX hP 2 (pc' := 21) (st' := [(0, 9), (0, l2_h18)]) (lo' := [(0, (2, row)), (1, (0, l1_h18)), (2, (0, l2_h18))]) rfl ?_
        refine r_ic_ge hX hP rfl (tgt := 48) rfl (by first | decide | omega) (by first | decide | omega) (by first | decide | omega) (by first | decide | omega) (fun c3 => ?_) (fun c3 => ?_)
        · skip
          refine r_ex hX hP 1 (pc' := 49) (st' := [(0, l1_h18)]) (lo' := [(0, (2, row)), (1, (0, l1_h18)), (2, (0, l2_h18))]) rfl ?_
          refine r_if_eq hX hP rfl (tgt := 58) rfl (by first | decide | omega) (by first | decide | omega) (fun c4 => ?_) (fun c4 => ?_)
          · skip
            refine r_ldc2 hX hP rfl (v := 1000000000) (tbg sg6 148 rfl rfl) ?_
            exact r_retL hX hP rfl rfl (by first | decide | omega) (by first | decide | omega) ⟨rfl, rfl, 1000000000, rfl, (by first | decide | omega)⟩
          · skip
            refine r_ex hX hP 2 (pc' := 54) (st' := [(0, 0), (2, row)]) (lo' := [(0, (2, row)), (1, (0, l1_h18)), (2, (0, l2_h18))]) rfl ?_
            refine r_laldK hX hP rfl al_99 row_s (by first | decide | omega) (by first | decide | omega) (x := x1) x1e ?_
            refine r_ex hX hP 1 (pc' := 61) (st' := [(1, x1)]) (lo' := [(0, (2, row)), (1, (0, l1_h18)), (2, (0, l2_h18))]) rfl ?_
            exact r_retL hX hP rfl rfl (by first | decide | omega) (by first | decide | omega) ⟨rfl, rfl, x1, rfl, (by first | decide | omega)⟩
        · skip
          refine r_ex hX hP 1 (pc' := 25) (st' := [(0, l1_h18)]) (lo' := [(0, (2, row)), (1, (0, l1_h18)), (2, (0, l2_h18))]) rfl ?_
          refine r_if_eq hX hP rfl (tgt := 40) rfl (by first | decide | omega) (by first | decide | omega) (fun c5 => ?_) (fun c5 => ?_)
          · skip
            refine r_ex hX hP 4 (pc' := 18) (st' := []) (lo' := [(0, (2, row)), (1, (0, 0)), (2, (0, (l2_h18 + 1)))]) rfl ?_
            exact ih18 0 (l2_h18 + 1) (by first | decide | omega) (by first | decide | omega) (by first | decide | omega) (by first | decide | omega) (by first | decide | omega)
          · skip
            refine r_ex hX hP 2 (pc' := 30) (st' := [(0, l2_h18), (2, row)]) (lo' := [(0, (2, row)), (1, (0, l1_h18)), (2, (0, l2_h18))]) rfl ?_
            refine r_lald hX hP rfl al_99 row_s (by first | decide | omega) (by first | decide | omega) (fun x6 x6e x6a x6b => ?_)
            refine r_ex hX hP 1 (pc' := 32) (st' := [(1, 0), (1, x6)]) (lo' := [(0, (2, row)), (1, (0, l1_h18)), (2, (0, l2_h18))]) rfl ?_
            refine r_lc_ne hX hP rfl rfl (tgt := 40) rfl (by first | decide | omega) (by first | decide | omega) (by first | decide | omega) (by first | decide | omega) (fun c7 => ?_) (fun c7 => ?_)
            · skip
              refine r_ex hX hP 4 (pc' := 18) (st' := []) (lo' := [(0, (2, row)), (1, (0, 0)), (2, (0, (l2_h18 + 1)))]) rfl ?_
              exact ih18 0 (l2_h18 + 1) (by first | decide | omega) (by first | decide | omega) (by first | decide | omega) (by first | decide | omega) (by first | decide | omega)
            · skip
              refine r_ex hX hP 5 (pc' := 18) (st' := []) (lo' := [(0, (2, row)), (1, (0, 1)), (2, (0, (l2_h18 + 1)))]) rfl ?_
              exact ih18 1 (l2_h18 + 1) (by first | decide | omega) (by first | decide | omega) (by first | decide | omega) (by first | decide | omega) (by first | decide | omega)
    exact loop18 ((9 - 1) + 1 : Int).toNat 0 1 (by first | decide | omega) (by first | decide | omega) (by first | decide | omega) (by first | decide | omega) (by first | decide | omega)
  · skip
    refine r_ex hX hP 5 (pc' := 18) (st' := []) (lo' := [(0, (2, row)), (1, (0, 1)), (2, (0, 1))]) rfl ?_
    have loop18 : ∀ (nF : Nat) (l1_h18 l2_h18 : Int), 0 ≤ l1_h18 → l1_h18 ≤ 1 → 1 ≤ l2_h18 → l2_h18 ≤ 9 → 9 - l2_h18 < (nF : Int) → X 0 0 18 [] [(0, (2, row)), (1, (0, l1_h18)), (2, (0, l2_h18))] S G := by
      intro nF
      induction nF with
      | zero => intro l1_h18 l2_h18 yh18_0 yh18_1 yh18_2 yh18_3 ym18; exfalso; omega
      | succ nF ih18 =>
        intro l1_h18 l2_h18 yh18_0 yh18_1 yh18_2 yh18_3 ym18
        refine r_ex hX hP 2 (pc' := 21) (st' := [(0, 9), (0, l2_h18)]) (lo' := [(0, (2, row)), (1, (0, l1_h18)), (2, (0, l2_h18))]) rfl ?_
        refine r_ic_ge hX hP rfl (tgt := 48) rfl (by first | decide | omega) (by first | decide | omega) (by first | decide | omega) (by first | decide | omega) (fun c8 => ?_) (fun c8 => ?_)
        · skip
          refine r_ex hX hP 1 (pc' := 49) (st' := [(0, l1_h18)]) (lo' := [(0, (2, row)), (1, (0, l1_h18)), (2, (0, l2_h18))]) rfl ?_
          refine r_if_eq hX hP rfl (tgt := 58) rfl (by first | decide | omega) (by first | decide | omega) (fun c9 => ?_) (fun c9 => ?_)
          · skip
            refine r_ldc2 hX hP rfl (v := 1000000000) (tbg sg6 148 rfl rfl) ?_
            exact r_retL hX hP rfl rfl (by first | decide | omega) (by first | decide | omega) ⟨rfl, rfl, 1000000000, rfl, (by first | decide | omega)⟩
          · skip
            refine r_ex hX hP 2 (pc' := 54) (st' := [(0, 0), (2, row)]) (lo' := [(0, (2, row)), (1, (0, l1_h18)), (2, (0, l2_h18))]) rfl ?_
            refine r_laldK hX hP rfl al_99 row_s (by first | decide | omega) (by first | decide | omega) (x := x1) x1e ?_
            refine r_ex hX hP 1 (pc' := 61) (st' := [(1, x1)]) (lo' := [(0, (2, row)), (1, (0, l1_h18)), (2, (0, l2_h18))]) rfl ?_
            exact r_retL hX hP rfl rfl (by first | decide | omega) (by first | decide | omega) ⟨rfl, rfl, x1, rfl, (by first | decide | omega)⟩
        · skip
          refine r_ex hX hP 1 (pc' := 25) (st' := [(0, l1_h18)]) (lo' := [(0, (2, row)), (1, (0, l1_h18)), (2, (0, l2_h18))]) rfl ?_
          refine r_if_eq hX hP rfl (tgt := 40) rfl (by first | decide | omega) (by first | decide | omega) (fun c10 => ?_) (fun c10 => ?_)
          · skip
            refine r_ex hX hP 4 (pc' := 18) (st' := []) (lo' := [(0, (2, row)), (1, (0, 0)), (2, (0, (l2_h18 + 1)))]) rfl ?_
            exact ih18 0 (l2_h18 + 1) (by first | decide | omega) (by first | decide | omega) (by first | decide | omega) (by first | decide | omega) (by first | decide | omega)
          · skip
            refine r_ex hX hP 2 (pc' := 30) (st' := [(0, l2_h18), (2, row)]) (lo' := [(0, (2, row)), (1, (0, l1_h18)), (2, (0, l2_h18))]) rfl ?_
            refine r_lald hX hP rfl al_99 row_s (by first | decide | omega) (by first | decide | omega) (fun x11 x11e x11a x11b => ?_)
            refine r_ex hX hP 1 (pc' := 32) (st' := [(1, 0), (1, x11)]) (lo' := [(0, (2, row)), (1, (0, l1_h18)), (2, (0, l2_h18))]) rfl ?_
            refine r_lc_ne hX hP rfl rfl (tgt := 40) rfl (by first | decide | omega) (by first | decide | omega) (by first | decide | omega) (by first | decide | omega) (fun c12 => ?_) (fun c12 => ?_)
            · skip
              refine r_ex hX hP 4 (pc' := 18) (st' := []) (lo' := [(0, (2, row)), (1, (0, 0)), (2, (0, (l2_h18 + 1)))]) rfl ?_
              exact ih18 0 (l2_h18 + 1) (by first | decide | omega) (by first | decide | omega) (by first | decide | omega) (by first | decide | omega) (by first | decide | omega)
            · skip
              refine r_ex hX hP 5 (pc' := 18) (st' := []) (lo' := [(0, (2, row)), (1, (0, 1)), (2, (0, (l2_h18 + 1)))]) rfl ?_
              exact ih18 1 (l2_h18 + 1) (by first | decide | omega) (by first | decide | omega) (by first | decide | omega) (by first | decide | omega) (by first | decide | omega)
    exact loop18 ((9 - 1) + 1 : Int).toNat 1 1 (by first | decide | omega) (by first | decide | omega) (by first | decide | omega) (by first | decide | omega) (by first | decide | omega)
set_option maxRecDepth 100000 in
set_option maxHeartbeats 4000000 in
theorem c_divG (E : En) (S : Sg) (G : Gh) (a : Int) (b : Int) (a_a : (-9223372036854775808) ≤ a) (a_b : a ≤ 9223372036854775807) (b_a : (-9223372036854775808) ≤ b) (b_b : b ≤ 9223372036854775807) : Calls E mX4_divisor [(1, a), (1, b)] S G 3 0 0 (fun r S' G' => S = S' ∧ G = G' ∧ ∃ z : Int, r = some (1, z) ∧ 1 ≤ z ∧ z ≤ 9223372036854775807 ∧ (a ≤ 0 ∨ z ≤ a) ∧ (b ≤ 0 ∨ z ≤ b)) := by
  refine calls_by [(0, (1, a)), (2, (1, b))] rfl rfl (Nat.le_of_ble_eq_true rfl) (fun X hX => ?_)
  have hP := hPX4_divisor
  refine r_ex hX hP 1 (pc' := 1) (st' := [(1, a)]) (lo' := [(0, (1, a)), (2, (1, b))]) rfl ?_
  refine r_mabsL hX hP rfl (tbg sg7 9 rfl rfl) (tbg sg5 194 rfl rfl) (tbg sg1 14 rfl rfl) (tbg sg5 195 rfl rfl) (by decide) (by decide) (by decide) (Nat.le_of_ble_eq_true rfl) (by first | decide | omega) (by first | decide | omega) (fun c1 => ?_) (fun c1 => ?_)
  · skip
    refine r_ex hX hP 2 (pc' := 7) (st' := [(1, b)]) (lo' := [(0, (1, a)), (2, (1, b)), (4, (1, a))]) rfl ?_
    refine r_mabsL hX hP rfl (tbg sg7 9 rfl rfl) (tbg sg5 194 rfl rfl) (tbg sg1 14 rfl rfl) (tbg sg5 195 rfl rfl) (by decide) (by decide) (by decide) (Nat.le_of_ble_eq_true rfl) (by first | decide | omega) (by first | decide | omega) (fun c2 => ?_) (fun c2 => ?_)
    · skip
      refine r_ex hX hP 3 (pc' := 15) (st' := []) (lo' := [(0, (1, a)), (2, (1, b)), (4, (1, a)), (6, (1, b)), (8, (0, 0))]) rfl ?_
      have x50 : ∀ (l4_x50 l6_x50 l8_x50 : Int), (-9223372036854775808) ≤ l4_x50 → l4_x50 ≤ 9223372036854775807 → (-9223372036854775808) ≤ l6_x50 → l6_x50 ≤ 9223372036854775807 → 0 ≤ l8_x50 → l8_x50 ≤ 100 → (a ≤ 0 ∨ l4_x50 ≤ a) → (b ≤ 0 ∨ l4_x50 ≤ b) → X 0 0 50 [] [(0, (1, a)), (2, (1, b)), (4, (1, l4_x50)), (6, (1, l6_x50)), (8, (0, l8_x50))] S G := by
        intro l4_x50 l6_x50 l8_x50 yx50_0 yx50_1 yx50_2 yx50_3 yx50_4 yx50_5 yx50_6 yx50_7
        refine r_ex hX hP 2 (pc' := 53) (st' := [(1, 0), (1, l4_x50)]) (lo' := [(0, (1, a)), (2, (1, b)), (4, (1, l4_x50)), (6, (1, l6_x50)), (8, (0, l8_x50))]) rfl ?_
        refine r_lc_le hX hP rfl rfl (tgt := 62) rfl (by first | decide | omega) (by first | decide | omega) (by first | decide | omega) (by first | decide | omega) (fun c3 => ?_) (fun c3 => ?_)
        · skip
          refine r_ex hX hP 1 (pc' := 63) (st' := [(1, 1)]) (lo' := [(0, (1, a)), (2, (1, b)), (4, (1, l4_x50)), (6, (1, l6_x50)), (8, (0, l8_x50))]) rfl ?_
          exact r_retL hX hP rfl rfl (by first | decide | omega) (by first | decide | omega) ⟨rfl, rfl, 1, rfl, (by first | decide | omega), (by first | decide | omega), (by first | decide | omega), (by first | decide | omega)⟩
        · skip
          refine r_ex hX hP 2 (pc' := 63) (st' := [(1, l4_x50)]) (lo' := [(0, (1, a)), (2, (1, b)), (4, (1, l4_x50)), (6, (1, l6_x50)), (8, (0, l8_x50))]) rfl ?_
          exact r_retL hX hP rfl rfl (by first | decide | omega) (by first | decide | omega) ⟨rfl, rfl, l4_x50, rfl, (by first | decide | omega), (by first | decide | omega), (by first | decide | omega), (by first | decide | omega)⟩
      have loop15 : ∀ (nF : Nat) (l4_h15 l6_h15 l8_h15 : Int), (-9223372036854775808) ≤ l4_h15 → l4_h15 ≤ 9223372036854775807 → (-9223372036854775808) ≤ l6_h15 → l6_h15 ≤ 9223372036854775807 → 0 ≤ l8_h15 → l8_h15 ≤ 100 → (a ≤ 0 ∨ l8_h15 ≠ 0 ∨ l4_h15 = a) → (a ≤ 0 ∨ l8_h15 ≤ 0 ∨ (-a ≤ l6_h15 ∧ l6_h15 ≤ a ∧ (l6_h15 ≠ 0 ∨ l4_h15 ≤ a))) → (a ≤ 0 ∨ l8_h15 ≤ 1 ∨ l4_h15 ≤ a) → (b ≤ 0 ∨ l8_h15 ≠ 0 ∨ l6_h15 = b) → (b ≤ 0 ∨ l8_h15 ≤ 0 ∨ (l4_h15 ≤ b ∧ -b ≤ l6_h15 ∧ l6_h15 ≤ b)) → 100 - l8_h15 < (nF : Int) → X 0 0 15 [] [(0, (1, a)), (2, (1, b)), (4, (1, l4_h15)), (6, (1, l6_h15)), (8, (0, l8_h15))] S G := by
        intro nF
        induction nF with
        | zero => intro l4_h15 l6_h15 l8_h15 yh15_0 yh15_1 yh15_2 yh15_3 yh15_4 yh15_5 yh15_6 yh15_7 yh15_8 yh15_9 yh15_10 ym15; exfalso; omega
        | succ nF ih15 =>
          intro l4_h15 l6_h15 l8_h15 yh15_0 yh15_1 yh15_2 yh15_3 yh15_4 yh15_5 yh15_6 yh15_7 yh15_8 yh15_9 yh15_10 ym15
          refine r_ex hX hP 2 (pc' := 19) (st' := [(0, 100), (0, l8_h15)]) (lo' := [(0, (1, a)), (2, (1, b)), (4, (1, l4_h15)), (6, (1, l6_h15)), (8, (0, l8_h15))]) rfl ?_
          refine r_ic_ge hX hP rfl (tgt := 50) rfl (by first | decide | omega) (by first | decide | omega) (by first | decide | omega) (by first | decide | omega) (fun c4 => ?_) (fun c4 => ?_)
          · skip
            exact x50 l4_h15 l6_h15 l8_h15 (by first | decide | omega) (by first | decide | omega) (by first | decide | omega) (by first | decide | omega) (by first | decide | omega) (by first | decide | omega) (by first | decide | omega) (by first | decide | omega)
          · skip
            refine r_ex hX hP 2 (pc' := 25) (st' := [(1, 0), (1, l6_h15)]) (lo' := [(0, (1, a)), (2, (1, b)), (4, (1, l4_h15)), (6, (1, l6_h15)), (8, (0, l8_h15))]) rfl ?_
            refine r_lc_eq hX hP rfl rfl (tgt := 50) rfl (by first | decide | omega) (by first | decide | omega) (by first | decide | omega) (by first | decide | omega) (fun c5 => ?_) (fun c5 => ?_)
            · skip
              exact x50 l4_h15 l6_h15 l8_h15 (by first | decide | omega) (by first | decide | omega) (by first | decide | omega) (by first | decide | omega) (by first | decide | omega) (by first | decide | omega) (by first | decide | omega) (by first | decide | omega)
            · skip
              refine r_ex hX hP 2 (pc' := 33) (st' := [(1, l6_h15), (1, l4_h15)]) (lo' := [(0, (1, a)), (2, (1, b)), (4, (1, l4_h15)), (6, (1, l6_h15)), (8, (0, l8_h15))]) rfl ?_
              refine r_lrem hX hP rfl (by first | decide | omega) (by first | decide | omega) (by first | decide | omega) (by first | decide | omega) (by first | decide | omega) ?_
              obtain ⟨q6, q6e⟩ : ∃ q : Int, q = (Int.tmod l4_h15 l6_h15) := ⟨_, rfl⟩
              rw [← q6e]
              have q6b := tm_all q6e (by first | decide | omega)
              refine r_ex hX hP 7 (pc' := 15) (st' := []) (lo' := [(0, (1, a)), (2, (1, b)), (4, (1, l6_h15)), (6, (1, q6)), (8, (0, (l8_h15 + 1))), (9, (1, q6))]) rfl ?_
              refine r_pick hX [0, 1, 2, 3, 4] (lo' := [(0, (1, a)), (2, (1, b)), (4, (1, l6_h15)), (6, (1, q6)), (8, (0, (l8_h15 + 1)))]) rfl ?_
              exact ih15 l6_h15 q6 (l8_h15 + 1) (by first | decide | omega) (by first | decide | omega) (by first | decide | omega) (by first | decide | omega) (by first | decide | omega) (by first | decide | omega) (by first | decide | omega) (by first | decide | omega) (by first | decide | omega) (by first | decide | omega) (by first | decide | omega) (by first | decide | omega)
      exact loop15 ((100 - 0) + 1 : Int).toNat a b 0 (by first | decide | omega) (by first | decide | omega) (by first | decide | omega) (by first | decide | omega) (by first | decide | omega) (by first | decide | omega) (by first | decide | omega) (by first | decide | omega) (by first | decide | omega) (by first | decide | omega) (by first | decide | omega) (by first | decide | omega)
    · skip
      refine r_hvL hX (fun w7 w7a w7b w7e => ?_)
      refine r_ex hX hP 3 (pc' := 15) (st' := []) (lo' := [(0, (1, a)), (2, (1, b)), (4, (1, a)), (6, (1, w7)), (8, (0, 0))]) rfl ?_
      have x50 : ∀ (l4_x50 l6_x50 l8_x50 : Int), (-9223372036854775808) ≤ l4_x50 → l4_x50 ≤ 9223372036854775807 → (-9223372036854775808) ≤ l6_x50 → l6_x50 ≤ 9223372036854775807 → 0 ≤ l8_x50 → l8_x50 ≤ 100 → (a ≤ 0 ∨ l4_x50 ≤ a) → (b ≤ 0 ∨ l4_x50 ≤ b) → X 0 0 50 [] [(0, (1, a)), (2, (1, b)), (4, (1, l4_x50)), (6, (1, l6_x50)), (8, (0, l8_x50))] S G := by
        intro l4_x50 l6_x50 l8_x50 yx50_0 yx50_1 yx50_2 yx50_3 yx50_4 yx50_5 yx50_6 yx50_7
        refine r_ex hX hP 2 (pc' := 53) (st' := [(1, 0), (1, l4_x50)]) (lo' := [(0, (1, a)), (2, (1, b)), (4, (1, l4_x50)), (6, (1, l6_x50)), (8, (0, l8_x50))]) rfl ?_
        refine r_lc_le hX hP rfl rfl (tgt := 62) rfl (by first | decide | omega) (by first | decide | omega) (by first | decide | omega) (by first | decide | omega) (fun c8 => ?_) (fun c8 => ?_)
        · skip
          refine r_ex hX hP 1 (pc' := 63) (st' := [(1, 1)]) (lo' := [(0, (1, a)), (2, (1, b)), (4, (1, l4_x50)), (6, (1, l6_x50)), (8, (0, l8_x50))]) rfl ?_
          exact r_retL hX hP rfl rfl (by first | decide | omega) (by first | decide | omega) ⟨rfl, rfl, 1, rfl, (by first | decide | omega), (by first | decide | omega), (by first | decide | omega), (by first | decide | omega)⟩
        · skip
          refine r_ex hX hP 2 (pc' := 63) (st' := [(1, l4_x50)]) (lo' := [(0, (1, a)), (2, (1, b)), (4, (1, l4_x50)), (6, (1, l6_x50)), (8, (0, l8_x50))]) rfl ?_
          exact r_retL hX hP rfl rfl (by first | decide | omega) (by first | decide | omega) ⟨rfl, rfl, l4_x50, rfl, (by first | decide | omega), (by first | decide | omega), (by first | decide | omega), (by first | decide | omega)⟩
      have loop15 : ∀ (nF : Nat) (l4_h15 l6_h15 l8_h15 : Int), (-9223372036854775808) ≤ l4_h15 → l4_h15 ≤ 9223372036854775807 → (-9223372036854775808) ≤ l6_h15 → l6_h15 ≤ 9223372036854775807 → 0 ≤ l8_h15 → l8_h15 ≤ 100 → (a ≤ 0 ∨ l8_h15 ≠ 0 ∨ l4_h15 = a) → (a ≤ 0 ∨ l8_h15 ≤ 0 ∨ (-a ≤ l6_h15 ∧ l6_h15 ≤ a ∧ (l6_h15 ≠ 0 ∨ l4_h15 ≤ a))) → (a ≤ 0 ∨ l8_h15 ≤ 1 ∨ l4_h15 ≤ a) → (b ≤ 0 ∨ l8_h15 ≠ 0 ∨ l6_h15 = b) → (b ≤ 0 ∨ l8_h15 ≤ 0 ∨ (l4_h15 ≤ b ∧ -b ≤ l6_h15 ∧ l6_h15 ≤ b)) → 100 - l8_h15 < (nF : Int) → X 0 0 15 [] [(0, (1, a)), (2, (1, b)), (4, (1, l4_h15)), (6, (1, l6_h15)), (8, (0, l8_h15))] S G := by
        intro nF
        induction nF with
        | zero => intro l4_h15 l6_h15 l8_h15 yh15_0 yh15_1 yh15_2 yh15_3 yh15_4 yh15_5 yh15_6 yh15_7 yh15_8 yh15_9 yh15_10 ym15; exfalso; omega
        | succ nF ih15 =>
          intro l4_h15 l6_h15 l8_h15 yh15_0 yh15_1 yh15_2 yh15_3 yh15_4 yh15_5 yh15_6 yh15_7 yh15_8 yh15_9 yh15_10 ym15
          refine r_ex hX hP 2 (pc' := 19) (st' := [(0, 100), (0, l8_h15)]) (lo' := [(0, (1, a)), (2, (1, b)), (4, (1, l4_h15)), (6, (1, l6_h15)), (8, (0, l8_h15))]) rfl ?_
          refine r_ic_ge hX hP rfl (tgt := 50) rfl (by first | decide | omega) (by first | decide | omega) (by first | decide | omega) (by first | decide | omega) (fun c9 => ?_) (fun c9 => ?_)
          · skip
            exact x50 l4_h15 l6_h15 l8_h15 (by first | decide | omega) (by first | decide | omega) (by first | decide | omega) (by first | decide | omega) (by first | decide | omega) (by first | decide | omega) (by first | decide | omega) (by first | decide | omega)
          · skip
            refine r_ex hX hP 2 (pc' := 25) (st' := [(1, 0), (1, l6_h15)]) (lo' := [(0, (1, a)), (2, (1, b)), (4, (1, l4_h15)), (6, (1, l6_h15)), (8, (0, l8_h15))]) rfl ?_
            refine r_lc_eq hX hP rfl rfl (tgt := 50) rfl (by first | decide | omega) (by first | decide | omega) (by first | decide | omega) (by first | decide | omega) (fun c10 => ?_) (fun c10 => ?_)
            · skip
              exact x50 l4_h15 l6_h15 l8_h15 (by first | decide | omega) (by first | decide | omega) (by first | decide | omega) (by first | decide | omega) (by first | decide | omega) (by first | decide | omega) (by first | decide | omega) (by first | decide | omega)
            · skip
              refine r_ex hX hP 2 (pc' := 33) (st' := [(1, l6_h15), (1, l4_h15)]) (lo' := [(0, (1, a)), (2, (1, b)), (4, (1, l4_h15)), (6, (1, l6_h15)), (8, (0, l8_h15))]) rfl ?_
              refine r_lrem hX hP rfl (by first | decide | omega) (by first | decide | omega) (by first | decide | omega) (by first | decide | omega) (by first | decide | omega) ?_
              obtain ⟨q11, q11e⟩ : ∃ q : Int, q = (Int.tmod l4_h15 l6_h15) := ⟨_, rfl⟩
              rw [← q11e]
              have q11b := tm_all q11e (by first | decide | omega)
              refine r_ex hX hP 7 (pc' := 15) (st' := []) (lo' := [(0, (1, a)), (2, (1, b)), (4, (1, l6_h15)), (6, (1, q11)), (8, (0, (l8_h15 + 1))), (9, (1, q11))]) rfl ?_
              refine r_pick hX [0, 1, 2, 3, 4] (lo' := [(0, (1, a)), (2, (1, b)), (4, (1, l6_h15)), (6, (1, q11)), (8, (0, (l8_h15 + 1)))]) rfl ?_
              exact ih15 l6_h15 q11 (l8_h15 + 1) (by first | decide | omega) (by first | decide | omega) (by first | decide | omega) (by first | decide | omega) (by first | decide | omega) (by first | decide | omega) (by first | decide | omega) (by first | decide | omega) (by first | decide | omega) (by first | decide | omega) (by first | decide | omega) (by first | decide | omega)
      exact loop15 ((100 - 0) + 1 : Int).toNat a w7 0 (by first | decide | omega) (by first | decide | omega) (by first | decide | omega) (by first | decide | omega) (by first | decide | omega) (by first | decide | omega) (by first | decide | omega) (by first | decide | omega) (by first | decide | omega) (by first | decide | omega) (by first | decide | omega) (by first | decide | omega)
  · skip
    refine r_hvL hX (fun w12 w12a w12b w12e => ?_)
    refine r_ex hX hP 2 (pc' := 7) (st' := [(1, b)]) (lo' := [(0, (1, a)), (2, (1, b)), (4, (1, w12))]) rfl ?_
    refine r_mabsL hX hP rfl (tbg sg7 9 rfl rfl) (tbg sg5 194 rfl rfl) (tbg sg1 14 rfl rfl) (tbg sg5 195 rfl rfl) (by decide) (by decide) (by decide) (Nat.le_of_ble_eq_true rfl) (by first | decide | omega) (by first | decide | omega) (fun c13 => ?_) (fun c13 => ?_)
    · skip
      refine r_ex hX hP 3 (pc' := 15) (st' := []) (lo' := [(0, (1, a)), (2, (1, b)), (4, (1, w12)), (6, (1, b)), (8, (0, 0))]) rfl ?_
      have x50 : ∀ (l4_x50 l6_x50 l8_x50 : Int), (-9223372036854775808) ≤ l4_x50 → l4_x50 ≤ 9223372036854775807 → (-9223372036854775808) ≤ l6_x50 → l6_x50 ≤ 9223372036854775807 → 0 ≤ l8_x50 → l8_x50 ≤ 100 → (a ≤ 0 ∨ l4_x50 ≤ a) → (b ≤ 0 ∨ l4_x50 ≤ b) → X 0 0 50 [] [(0, (1, a)), (2, (1, b)), (4, (1, l4_x50)), (6, (1, l6_x50)), (8, (0, l8_x50))] S G := by
        intro l4_x50 l6_x50 l8_x50 yx50_0 yx50_1 yx50_2 yx50_3 yx50_4 yx50_5 yx50_6 yx50_7
        refine r_ex hX hP 2 (pc' := 53) (st' := [(1, 0), (1, l4_x50)]) (lo' := [(0, (1, a)), (2, (1, b)), (4, (1, l4_x50)), (6, (1, l6_x50)), (8, (0, l8_x50))]) rfl ?_
        refine r_lc_le hX hP rfl rfl (tgt := 62) rfl (by first | decide | omega) (by first | decide | omega) (by first | decide | omega) (by first | decide | omega) (fun c14 => ?_) (fun c14 => ?_)
        · skip
          refine r_ex hX hP 1 (pc' := 63) (st' := [(1, 1)]) (lo' := [(0, (1, a)), (2, (1, b)), (4, (1, l4_x50)), (6, (1, l6_x50)), (8, (0, l8_x50))]) rfl ?_
          exact r_retL hX hP rfl rfl (by first | decide | omega) (by first | decide | omega) ⟨rfl, rfl, 1, rfl, (by first | decide | omega), (by first | decide | omega), (by first | decide | omega), (by first | decide | omega)⟩
        · skip
          refine r_ex hX hP 2 (pc' := 63) (st' := [(1, l4_x50)]) (lo' := [(0, (1, a)), (2, (1, b)), (4, (1, l4_x50)), (6, (1, l6_x50)), (8, (0, l8_x50))]) rfl ?_
          exact r_retL hX hP rfl rfl (by first | decide | omega) (by first | decide | omega) ⟨rfl, rfl, l4_x50, rfl, (by first | decide | omega), (by first | decide | omega), (by first | decide | omega), (by first | decide | omega)⟩
      have loop15 : ∀ (nF : Nat) (l4_h15 l6_h15 l8_h15 : Int), (-9223372036854775808) ≤ l4_h15 → l4_h15 ≤ 9223372036854775807 → (-9223372036854775808) ≤ l6_h15 → l6_h15 ≤ 9223372036854775807 → 0 ≤ l8_h15 → l8_h15 ≤ 100 → (a ≤ 0 ∨ l8_h15 ≠ 0 ∨ l4_h15 = a) → (a ≤ 0 ∨ l8_h15 ≤ 0 ∨ (-a ≤ l6_h15 ∧ l6_h15 ≤ a ∧ (l6_h15 ≠ 0 ∨ l4_h15 ≤ a))) → (a ≤ 0 ∨ l8_h15 ≤ 1 ∨ l4_h15 ≤ a) → (b ≤ 0 ∨ l8_h15 ≠ 0 ∨ l6_h15 = b) → (b ≤ 0 ∨ l8_h15 ≤ 0 ∨ (l4_h15 ≤ b ∧ -b ≤ l6_h15 ∧ l6_h15 ≤ b)) → 100 - l8_h15 < (nF : Int) → X 0 0 15 [] [(0, (1, a)), (2, (1, b)), (4, (1, l4_h15)), (6, (1, l6_h15)), (8, (0, l8_h15))] S G := by
        intro nF
        induction nF with
        | zero => intro l4_h15 l6_h15 l8_h15 yh15_0 yh15_1 yh15_2 yh15_3 yh15_4 yh15_5 yh15_6 yh15_7 yh15_8 yh15_9 yh15_10 ym15; exfalso; omega
        | succ nF ih15 =>
          intro l4_h15 l6_h15 l8_h15 yh15_0 yh15_1 yh15_2 yh15_3 yh15_4 yh15_5 yh15_6 yh15_7 yh15_8 yh15_9 yh15_10 ym15
          refine r_ex hX hP 2 (pc' := 19) (st' := [(0, 100), (0, l8_h15)]) (lo' := [(0, (1, a)), (2, (1, b)), (4, (1, l4_h15)), (6, (1, l6_h15)), (8, (0, l8_h15))]) rfl ?_
          refine r_ic_ge hX hP rfl (tgt := 50) rfl (by first | decide | omega) (by first | decide | omega) (by first | decide | omega) (by first | decide | omega) (fun c15 => ?_) (fun c15 => ?_)
          · skip
            exact x50 l4_h15 l6_h15 l8_h15 (by first | decide | omega) (by first | decide | omega) (by first | decide | omega) (by first | decide | omega) (by first | decide | omega) (by first | decide | omega) (by first | decide | omega) (by first | decide | omega)
          · skip
            refine r_ex hX hP 2 (pc' := 25) (st' := [(1, 0), (1, l6_h15)]) (lo' := [(0, (1, a)), (2, (1, b)), (4, (1, l4_h15)), (6, (1, l6_h15)), (8, (0, l8_h15))]) rfl ?_
            refine r_lc_eq hX hP rfl rfl (tgt := 50) rfl (by first | decide | omega) (by first | decide | omega) (by first | decide | omega) (by first | decide | omega) (fun c16 => ?_) (fun c16 => ?_)
            · skip
              exact x50 l4_h15 l6_h15 l8_h15 (by first | decide | omega) (by first | decide | omega) (by first | decide | omega) (by first | decide | omega) (by first | decide | omega) (by first | decide | omega) (by first | decide | omega) (by first | decide | omega)
            · skip
              refine r_ex hX hP 2 (pc' := 33) (st' := [(1, l6_h15), (1, l4_h15)]) (lo' := [(0, (1, a)), (2, (1, b)), (4, (1, l4_h15)), (6, (1, l6_h15)), (8, (0, l8_h15))]) rfl ?_
              refine r_lrem hX hP rfl (by first | decide | omega) (by first | decide | omega) (by first | decide | omega) (by first | decide | omega) (by first | decide | omega) ?_
              obtain ⟨q17, q17e⟩ : ∃ q : Int, q = (Int.tmod l4_h15 l6_h15) := ⟨_, rfl⟩
              rw [← q17e]
              have q17b := tm_all q17e (by first | decide | omega)
              refine r_ex hX hP 7 (pc' := 15) (st' := []) (lo' := [(0, (1, a)), (2, (1, b)), (4, (1, l6_h15)), (6, (1, q17)), (8, (0, (l8_h15 + 1))), (9, (1, q17))]) rfl ?_
              refine r_pick hX [0, 1, 2, 3, 4] (lo' := [(0, (1, a)), (2, (1, b)), (4, (1, l6_h15)), (6, (1, q17)), (8, (0, (l8_h15 + 1)))]) rfl ?_
              exact ih15 l6_h15 q17 (l8_h15 + 1) (by first | decide | omega) (by first | decide | omega) (by first | decide | omega) (by first | decide | omega) (by first | decide | omega) (by first | decide | omega) (by first | decide | omega) (by first | decide | omega) (by first | decide | omega) (by first | decide | omega) (by first | decide | omega) (by first | decide | omega)
      exact loop15 ((100 - 0) + 1 : Int).toNat w12 b 0 (by first | decide | omega) (by first | decide | omega) (by first | decide | omega) (by first | decide | omega) (by first | decide | omega) (by first | decide | omega) (by first | decide | omega) (by first | decide | omega) (by first | decide | omega) (by first | decide | omega) (by first | decide | omega) (by first | decide | omega)
    · skip
      refine r_hvL hX (fun w18 w18a w18b w18e => ?_)
      refine r_ex hX hP 3 (pc' := 15) (st' := []) (lo' := [(0, (1, a)), (2, (1, b)), (4, (1, w12)), (6, (1, w18)), (8, (0, 0))]) rfl ?_
      have x50 : ∀ (l4_x50 l6_x50 l8_x50 : Int), (-9223372036854775808) ≤ l4_x50 → l4_x50 ≤ 9223372036854775807 → (-9223372036854775808) ≤ l6_x50 → l6_x50 ≤ 9223372036854775807 → 0 ≤ l8_x50 → l8_x50 ≤ 100 → (a ≤ 0 ∨ l4_x50 ≤ a) → (b ≤ 0 ∨ l4_x50 ≤ b) → X 0 0 50 [] [(0, (1, a)), (2, (1, b)), (4, (1, l4_x50)), (6, (1, l6_x50)), (8, (0, l8_x50))] S G := by
        intro l4_x50 l6_x50 l8_x50 yx50_0 yx50_1 yx50_2 yx50_3 yx50_4 yx50_5 yx50_6 yx50_7
        refine r_ex hX hP 2 (pc' := 53) (st' := [(1, 0), (1, l4_x50)]) (lo' := [(0, (1, a)), (2, (1, b)), (4, (1, l4_x50)), (6, (1, l6_x50)), (8, (0, l8_x50))]) rfl ?_
        refine r_lc_le hX hP rfl rfl (tgt := 62) rfl (by first | decide | omega) (by first | decide | omega) (by first | decide | omega) (by first | decide | omega) (fun c19 => ?_) (fun c19 => ?_)
        · skip
          refine r_ex hX hP 1 (pc' := 63) (st' := [(1, 1)]) (lo' := [(0, (1, a)), (2, (1, b)), (4, (1, l4_x50)), (6, (1, l6_x50)), (8, (0, l8_x50))]) rfl ?_
          exact r_retL hX hP rfl rfl (by first | decide | omega) (by first | decide | omega) ⟨rfl, rfl, 1, rfl, (by first | decide | omega), (by first | decide | omega), (by first | decide | omega), (by first | decide | omega)⟩
        · skip
          refine r_ex hX hP 2 (pc' := 63) (st' := [(1, l4_x50)]) (lo' := [(0, (1, a)), (2, (1, b)), (4, (1, l4_x50)), (6, (1, l6_x50)), (8, (0, l8_x50))]) rfl ?_
          exact r_retL hX hP rfl rfl (by first | decide | omega) (by first | decide | omega) ⟨rfl, rfl, l4_x50, rfl, (by first | decide | omega), (by first | decide | omega), (by first | decide | omega), (by first | decide | omega)⟩
      have loop15 : ∀ (nF : Nat) (l4_h15 l6_h15 l8_h15 : Int), (-9223372036854775808) ≤ l4_h15 → l4_h15 ≤ 9223372036854775807 → (-9223372036854775808) ≤ l6_h15 → l6_h15 ≤ 9223372036854775807 → 0 ≤ l8_h15 → l8_h15 ≤ 100 → (a ≤ 0 ∨ l8_h15 ≠ 0 ∨ l4_h15 = a) → (a ≤ 0 ∨ l8_h15 ≤ 0 ∨ (-a ≤ l6_h15 ∧ l6_h15 ≤ a ∧ (l6_h15 ≠ 0 ∨ l4_h15 ≤ a))) → (a ≤ 0 ∨ l8_h15 ≤ 1 ∨ l4_h15 ≤ a) → (b ≤ 0 ∨ l8_h15 ≠ 0 ∨ l6_h15 = b) → (b ≤ 0 ∨ l8_h15 ≤ 0 ∨ (l4_h15 ≤ b ∧ -b ≤ l6_h15 ∧ l6_h15 ≤ b)) → 100 - l8_h15 < (nF : Int) → X 0 0 15 [] [(0, (1, a)), (2, (1, b)), (4, (1, l4_h15)), (6, (1, l6_h15)), (8, (0, l8_h15))] S G := by
        intro nF
        induction nF with
        | zero => intro l4_h15 l6_h15 l8_h15 yh15_0 yh15_1 yh15_2 yh15_3 yh15_4 yh15_5 yh15_6 yh15_7 yh15_8 yh15_9 yh15_10 ym15; exfalso; omega
        | succ nF ih15 =>
          intro l4_h15 l6_h15 l8_h15 yh15_0 yh15_1 yh15_2 yh15_3 yh15_4 yh15_5 yh15_6 yh15_7 yh15_8 yh15_9 yh15_10 ym15
          refine r_ex hX hP 2 (pc' := 19) (st' := [(0, 100), (0, l8_h15)]) (lo' := [(0, (1, a)), (2, (1, b)), (4, (1, l4_h15)), (6, (1, l6_h15)), (8, (0, l8_h15))]) rfl ?_
          refine r_ic_ge hX hP rfl (tgt := 50) rfl (by first | decide | omega) (by first | decide | omega) (by first | decide | omega) (by first | decide | omega) (fun c20 => ?_) (fun c20 => ?_)
          · skip
            exact x50 l4_h15 l6_h15 l8_h15 (by first | decide | omega) (by first | decide | omega) (by first | decide | omega) (by first | decide | omega) (by first | decide | omega) (by first | decide | omega) (by first | decide | omega) (by first | decide | omega)
          · skip
            refine r_ex hX hP 2 (pc' := 25) (st' := [(1, 0), (1, l6_h15)]) (lo' := [(0, (1, a)), (2, (1, b)), (4, (1, l4_h15)), (6, (1, l6_h15)), (8, (0, l8_h15))]) rfl ?_
            refine r_lc_eq hX hP rfl rfl (tgt := 50) rfl (by first | decide | omega) (by first | decide | omega) (by first | decide | omega) (by first | decide | omega) (fun c21 => ?_) (fun c21 => ?_)
            · skip
              exact x50 l4_h15 l6_h15 l8_h15 (by first | decide | omega) (by first | decide | omega) (by first | decide | omega) (by first | decide | omega) (by first | decide | omega) (by first | decide | omega) (by first | decide | omega) (by first | decide | omega)
            · skip
              refine r_ex hX hP 2 (pc' := 33) (st' := [(1, l6_h15), (1, l4_h15)]) (lo' := [(0, (1, a)), (2, (1, b)), (4, (1, l4_h15)), (6, (1, l6_h15)), (8, (0, l8_h15))]) rfl ?_
              refine r_lrem hX hP rfl (by first | decide | omega) (by first | decide | omega) (by first | decide | omega) (by first | decide | omega) (by first | decide | omega) ?_
              obtain ⟨q22, q22e⟩ : ∃ q : Int, q = (Int.tmod l4_h15 l6_h15) := ⟨_, rfl⟩
              rw [← q22e]
              have q22b := tm_all q22e (by first | decide | omega)
              refine r_ex hX hP 7 (pc' := 15) (st' := []) (lo' := [(0, (1, a)), (2, (1, b)), (4, (1, l6_h15)), (6, (1, q22)), (8, (0, (l8_h15 + 1))), (9, (1, q22))]) rfl ?_
              refine r_pick hX [0, 1, 2, 3, 4] (lo' := [(0, (1, a)), (2, (1, b)), (4, (1, l6_h15)), (6, (1, q22)), (8, (0, (l8_h15 + 1)))]) rfl ?_
              exact ih15 l6_h15 q22 (l8_h15 + 1) (by first | decide | omega) (by first | decide | omega) (by first | decide | omega) (by first | decide | omega) (by first | decide | omega) (by first | decide | omega) (by first | decide | omega) (by first | decide | omega) (by first | decide | omega) (by first | decide | omega) (by first | decide | omega) (by first | decide | omega)
      exact loop15 ((100 - 0) + 1 : Int).toNat w12 w18 0 (by first | decide | omega) (by first | decide | omega) (by first | decide | omega) (by first | decide | omega) (by first | decide | omega) (by first | decide | omega) (by first | decide | omega) (by first | decide | omega) (by first | decide | omega) (by first | decide | omega) (by first | decide | omega) (by first | decide | omega)
set_option maxRecDepth 100000 in
set_option maxHeartbeats 4000000 in
theorem c_X4_times (E : En) (S : Sg) (G : Gh) (this : Int) (m : Int) (n : Int) (hS : S this = 134) (m_a : (-9223372036854775808) ≤ m) (m_b : m ≤ 9223372036854775807) (n_a : (-9223372036854775808) ≤ n) (n_b : n ≤ 9223372036854775807) : Calls E mX4_times [(2, this), (1, m), (1, n)] S G 4 0 0 (fun r S' G' => S = S' ∧ (∃ G1, hw [(134, 0), (134, 1), (134, 2)] G G1 = G') ∧ r = none ∧ True) := by
  refine calls_by [(0, (2, this)), (1, (1, m)), (3, (1, n))] rfl rfl (Nat.le_of_ble_eq_true rfl) (fun X hX => ?_)
  have hP := hPX4_times
  refine r_ex hX hP 1 (pc' := 1) (st' := [(2, this)]) (lo' := [(0, (2, this)), (1, (1, m)), (3, (1, n))]) rfl ?_
  refine r_getI hX hP rfl fl_X4_28_134 hS (fun of1 of1e of1a of1b => ?_)
  refine r_if_ne hX hP rfl (tgt := 19) rfl (by first | decide | omega) (by first | decide | omega) (fun c2 => ?_) (fun c2 => ?_)
  · skip
    exact r_retV hX hP rfl rfl (by first | decide | omega) (by first | decide | omega) ⟨rfl, ⟨_, (hw_refl _ _).symm⟩, rfl, trivial⟩
  · skip
    refine r_ex hX hP 2 (pc' := 9) (st' := [(1, 0), (1, m)]) (lo' := [(0, (2, this)), (1, (1, m)), (3, (1, n))]) rfl ?_
    refine r_lc_le hX hP rfl rfl (tgt := 19) rfl (by first | decide | omega) (by first | decide | omega) (by first | decide | omega) (by first | decide | omega) (fun c3 => ?_) (fun c3 => ?_)
    · skip
      exact r_retV hX hP rfl rfl (by first | decide | omega) (by first | decide | omega) ⟨rfl, ⟨_, (hw_refl _ _).symm⟩, rfl, trivial⟩
    · skip
      refine r_ex hX hP 2 (pc' := 15) (st' := [(1, 0), (1, n)]) (lo' := [(0, (2, this)), (1, (1, m)), (3, (1, n))]) rfl ?_
      refine r_lc_gt hX hP rfl rfl (tgt := 20) rfl (by first | decide | omega) (by first | decide | omega) (by first | decide | omega) (by first | decide | omega) (fun c4 => ?_) (fun c4 => ?_)
      · skip
        refine r_ex hX hP 2 (pc' := 22) (st' := [(1, n), (1, m)]) (lo' := [(0, (2, this)), (1, (1, m)), (3, (1, n))]) rfl ?_
        refine r_callS gd hX hP rfl cs_X4_38 (d' := 3) (mc' := 0) (ms' := 0) (as' := [(1, m), (1, n)]) (st := []) (by first | decide | omega) (by first | decide | omega) (by first | decide | omega) rfl rfl (Nat.le_of_ble_eq_true rfl) (c_divG E S G m n (by first | decide | omega) (by first | decide | omega) (by first | decide | omega) (by first | decide | omega)) ?_
        rintro _ _ _ ⟨rfl, rfl, z5, rfl, z5a, z5b, f6, f7⟩
        refine r_ex hX hP 3 (pc' := 30) (st' := [(1, z5), (1, m)]) (lo' := [(0, (2, this)), (1, (1, m)), (3, (1, n)), (5, (1, z5))]) rfl ?_
        refine r_ldiv hX hP rfl (by first | decide | omega) (by first | decide | omega) (by first | decide | omega) (by first | decide | omega) (by first | decide | omega) ?_
        obtain ⟨q8, q8e⟩ : ∃ q : Int, q = (Int.tdiv m z5) := ⟨_, rfl⟩
        rw [← q8e]
        have q8b := td_pos2 q8e (by first | decide | omega) (by first | decide | omega)
        refine r_ex hX hP 3 (pc' := 36) (st' := [(1, z5), (1, n)]) (lo' := [(0, (2, this)), (1, (1, m)), (3, (1, n)), (5, (1, z5)), (7, (1, q8))]) rfl ?_
        refine r_ldiv hX hP rfl (by first | decide | omega) (by first | decide | omega) (by first | decide | omega) (by first | decide | omega) (by first | decide | omega) ?_
        obtain ⟨q9, q9e⟩ : ∃ q : Int, q = (Int.tdiv n z5) := ⟨_, rfl⟩
        rw [← q9e]
        have q9b := td_pos2 q9e (by first | decide | omega) (by first | decide | omega)
        refine r_ex hX hP 2 (pc' := 40) (st' := [(2, this)]) (lo' := [(0, (2, this)), (1, (1, m)), (3, (1, n)), (5, (1, z5)), (7, (1, q8)), (9, (1, q9))]) rfl ?_
        refine r_getL hX hP rfl fl_X4_25_134 hS (fun af10 af10e af10a af10b => ?_)
        refine r_ex hX hP 1 (pc' := 45) (st' := [(1, q9), (1, af10)]) (lo' := [(0, (2, this)), (1, (1, m)), (3, (1, n)), (5, (1, z5)), (7, (1, q8)), (9, (1, q9))]) rfl ?_
        refine r_callS gd hX hP rfl cs_X4_38 (d' := 3) (mc' := 0) (ms' := 0) (as' := [(1, af10), (1, q9)]) (st := []) (by first | decide | omega) (by first | decide | omega) (by first | decide | omega) rfl rfl (Nat.le_of_ble_eq_true rfl) (c_divG E S G af10 q9 (by first | decide | omega) (by first | decide | omega) (by first | decide | omega) (by first | decide | omega)) ?_
        rintro _ _ _ ⟨rfl, rfl, z11, rfl, z11a, z11b, f12, f13⟩
        refine r_ex hX hP 3 (pc' := 53) (st' := [(2, this), (1, q8)]) (lo' := [(0, (2, this)), (1, (1, m)), (3, (1, n)), (5, (1, z5)), (7, (1, q8)), (9, (1, q9)), (11, (1, z11))]) rfl ?_
        refine r_getL hX hP rfl fl_X4_9_134 hS (fun bf14 bf14e bf14a bf14b => ?_)
        refine r_callS gd hX hP rfl cs_X4_38 (d' := 3) (mc' := 0) (ms' := 0) (as' := [(1, q8), (1, bf14)]) (st := []) (by first | decide | omega) (by first | decide | omega) (by first | decide | omega) rfl rfl (Nat.le_of_ble_eq_true rfl) (c_divG E S G q8 bf14 (by first | decide | omega) (by first | decide | omega) (by first | decide | omega) (by first | decide | omega)) ?_
        rintro _ _ _ ⟨rfl, rfl, z15, rfl, z15a, z15b, f16, f17⟩
        refine r_ex hX hP 3 (pc' := 65) (st' := [(1, z11), (1, q9)]) (lo' := [(0, (2, this)), (1, (1, m)), (3, (1, n)), (5, (1, z5)), (7, (1, q8)), (9, (1, q9)), (11, (1, z11)), (13, (1, z15))]) rfl ?_
        refine r_ldiv hX hP rfl (by first | decide | omega) (by first | decide | omega) (by first | decide | omega) (by first | decide | omega) (by first | decide | omega) ?_
        obtain ⟨q18, q18e⟩ : ∃ q : Int, q = (Int.tdiv q9 z11) := ⟨_, rfl⟩
        rw [← q18e]
        have q18b := td_pos2 q18e (by first | decide | omega) (by first | decide | omega)
        refine r_ex hX hP 3 (pc' := 72) (st' := [(1, z15), (1, q8)]) (lo' := [(0, (2, this)), (1, (1, m)), (3, (1, n)), (5, (1, z5)), (7, (1, q8)), (9, (1, q18)), (11, (1, z11)), (13, (1, z15))]) rfl ?_
        refine r_ldiv hX hP rfl (by first | decide | omega) (by first | decide | omega) (by first | decide | omega) (by first | decide | omega) (by first | decide | omega) ?_
        obtain ⟨q19, q19e⟩ : ∃ q : Int, q = (Int.tdiv q8 z15) := ⟨_, rfl⟩
        rw [← q19e]
        have q19b := td_pos2 q19e (by first | decide | omega) (by first | decide | omega)
        refine r_ex hX hP 2 (pc' := 76) (st' := [(2, this)]) (lo' := [(0, (2, this)), (1, (1, m)), (3, (1, n)), (5, (1, z5)), (7, (1, q19)), (9, (1, q18)), (11, (1, z11)), (13, (1, z15))]) rfl ?_
        refine r_getKL hX hP rfl fl_X4_25_134 hS (x := af10) af10e ?_
        refine r_ex hX hP 1 (pc' := 81) (st' := [(1, z11), (1, af10)]) (lo' := [(0, (2, this)), (1, (1, m)), (3, (1, n)), (5, (1, z5)), (7, (1, q19)), (9, (1, q18)), (11, (1, z11)), (13, (1, z15))]) rfl ?_
        refine r_ldiv hX hP rfl (by first | decide | omega) (by first | decide | omega) (by first | decide | omega) (by first | decide | omega) (by first | decide | omega) ?_
        obtain ⟨q20, q20e⟩ : ∃ q : Int, q = (Int.tdiv af10 z11) := ⟨_, rfl⟩
        rw [← q20e]
        have q20b := td_gen q20e (by first | decide | omega)
        refine r_hvL hX (fun w21 w21a w21b w21e => ?_)
        refine r_ex hX hP 2 (pc' := 85) (st' := [(2, this)]) (lo' := [(0, (2, this)), (1, (1, m)), (3, (1, n)), (5, (1, z5)), (7, (1, q19)), (9, (1, q18)), (11, (1, z11)), (13, (1, z15)), (15, (1, w21))]) rfl ?_
        refine r_getKL hX hP rfl fl_X4_9_134 hS (x := bf14) bf14e ?_
        refine r_ex hX hP 1 (pc' := 90) (st' := [(1, z15), (1, bf14)]) (lo' := [(0, (2, this)), (1, (1, m)), (3, (1, n)), (5, (1, z5)), (7, (1, q19)), (9, (1, q18)), (11, (1, z11)), (13, (1, z15)), (15, (1, w21))]) rfl ?_
        refine r_ldiv hX hP rfl (by first | decide | omega) (by first | decide | omega) (by first | decide | omega) (by first | decide | omega) (by first | decide | omega) ?_
        obtain ⟨q22, q22e⟩ : ∃ q : Int, q = (Int.tdiv bf14 z15) := ⟨_, rfl⟩
        rw [← q22e]
        have q22b := td_gen q22e (by first | decide | omega)
        refine r_hvL hX (fun w23 w23a w23b w23e => ?_)
        refine r_ex hX hP 2 (pc' := 95) (st' := [(1, w21)]) (lo' := [(0, (2, this)), (1, (1, m)), (3, (1, n)), (5, (1, z5)), (7, (1, q19)), (9, (1, q18)), (11, (1, z11)), (13, (1, z15)), (15, (1, w21)), (17, (1, w23))]) rfl ?_
        refine r_ldc2 hX hP rfl (v := 1000000000000) (tbg sg7 10 rfl rfl) ?_
        refine r_ex hX hP 1 (pc' := 100) (st' := [(1, q19), (1, 1000000000000), (1, w21)]) (lo' := [(0, (2, this)), (1, (1, m)), (3, (1, n)), (5, (1, z5)), (7, (1, q19)), (9, (1, q18)), (11, (1, z11)), (13, (1, z15)), (15, (1, w21)), (17, (1, w23))]) rfl ?_
        refine r_ldiv hX hP rfl (by first | decide | omega) (by first | decide | omega) (by first | decide | omega) (by first | decide | omega) (by first | decide | omega) ?_
        obtain ⟨q24, q24e⟩ : ∃ q : Int, q = (Int.tdiv 1000000000000 q19) := ⟨_, rfl⟩
        rw [← q24e]
        have q24b := td_pos2 q24e (by first | decide | omega) (by first | decide | omega)
        refine r_lc_gt hX hP rfl rfl (tgt := 117) rfl (by first | decide | omega) (by first | decide | omega) (by first | decide | omega) (by first | decide | omega) (fun c25 => ?_) (fun c25 => ?_)
        · skip
          refine r_ex hX hP 2 (pc' := 119) (st' := [(0, 1), (2, this)]) (lo' := [(0, (2, this)), (1, (1, m)), (3, (1, n)), (5, (1, z5)), (7, (1, q19)), (9, (1, q18)), (11, (1, z11)), (13, (1, z15)), (15, (1, w21)), (17, (1, w23))]) rfl ?_
          refine r_putIK hX hP rfl fp_X4_28_134 hS (by first | decide | omega) (by first | decide | omega) (fun h26 => ?_)
          exact r_retV hX hP rfl rfl (by first | decide | omega) (by first | decide | omega) ⟨rfl, ⟨_, (hw_up (hw_refl _ _) rfl).symm⟩, rfl, trivial⟩
        · skip
          refine r_ex hX hP 1 (pc' := 107) (st' := [(1, w23)]) (lo' := [(0, (2, this)), (1, (1, m)), (3, (1, n)), (5, (1, z5)), (7, (1, q19)), (9, (1, q18)), (11, (1, z11)), (13, (1, z15)), (15, (1, w21)), (17, (1, w23))]) rfl ?_
          refine r_ldc2 hX hP rfl (v := 1000000000000) (tbg sg7 10 rfl rfl) ?_
          refine r_ex hX hP 1 (pc' := 112) (st' := [(1, q18), (1, 1000000000000), (1, w23)]) (lo' := [(0, (2, this)), (1, (1, m)), (3, (1, n)), (5, (1, z5)), (7, (1, q19)), (9, (1, q18)), (11, (1, z11)), (13, (1, z15)), (15, (1, w21)), (17, (1, w23))]) rfl ?_
          refine r_ldiv hX hP rfl (by first | decide | omega) (by first | decide | omega) (by first | decide | omega) (by first | decide | omega) (by first | decide | omega) ?_
          obtain ⟨q27, q27e⟩ : ∃ q : Int, q = (Int.tdiv 1000000000000 q18) := ⟨_, rfl⟩
          rw [← q27e]
          have q27b := td_pos2 q27e (by first | decide | omega) (by first | decide | omega)
          refine r_lc_le hX hP rfl rfl (tgt := 123) rfl (by first | decide | omega) (by first | decide | omega) (by first | decide | omega) (by first | decide | omega) (fun c28 => ?_) (fun c28 => ?_)
          · skip
            refine r_ex hX hP 4 (pc' := 129) (st' := [(1, (w21 * q19)), (2, this)]) (lo' := [(0, (2, this)), (1, (1, m)), (3, (1, n)), (5, (1, z5)), (7, (1, q19)), (9, (1, q18)), (11, (1, z11)), (13, (1, z15)), (15, (1, w21)), (17, (1, w23))]) rfl ?_
            refine r_hvL hX (fun w29 w29a w29b w29e => ?_)
            refine r_putLK hX hP rfl fp_X4_25_134 hS (by first | decide | omega) (by first | decide | omega) (fun h30 => ?_)
            refine r_ex hX hP 4 (pc' := 138) (st' := [(1, (w23 * q18)), (2, this)]) (lo' := [(0, (2, this)), (1, (1, m)), (3, (1, n)), (5, (1, z5)), (7, (1, q19)), (9, (1, q18)), (11, (1, z11)), (13, (1, z15)), (15, (1, w21)), (17, (1, w23))]) rfl ?_
            refine r_hvL hX (fun w31 w31a w31b w31e => ?_)
            refine r_putLK hX hP rfl fp_X4_9_134 hS (by first | decide | omega) (by first | decide | omega) (fun h32 => ?_)
            exact r_retV hX hP rfl rfl (by first | decide | omega) (by first | decide | omega) ⟨rfl, ⟨_, (hw_up (hw_up (hw_refl _ _) rfl) rfl).symm⟩, rfl, trivial⟩
          · skip
            refine r_ex hX hP 2 (pc' := 119) (st' := [(0, 1), (2, this)]) (lo' := [(0, (2, this)), (1, (1, m)), (3, (1, n)), (5, (1, z5)), (7, (1, q19)), (9, (1, q18)), (11, (1, z11)), (13, (1, z15)), (15, (1, w21)), (17, (1, w23))]) rfl ?_
            refine r_putIK hX hP rfl fp_X4_28_134 hS (by first | decide | omega) (by first | decide | omega) (fun h33 => ?_)
            exact r_retV hX hP rfl rfl (by first | decide | omega) (by first | decide | omega) ⟨rfl, ⟨_, (hw_up (hw_refl _ _) rfl).symm⟩, rfl, trivial⟩
      · skip
        exact r_retV hX hP rfl rfl (by first | decide | omega) (by first | decide | omega) ⟨rfl, ⟨_, (hw_refl _ _).symm⟩, rfl, trivial⟩
set_option maxRecDepth 100000 in
set_option maxHeartbeats 4000000 in
theorem c_X4_plus (E : En) (S : Sg) (G : Gh) (this : Int) (m : Int) (n : Int) (hS : S this = 134) (m_a : (-9223372036854775808) ≤ m) (m_b : m ≤ 9223372036854775807) (n_a : (-9223372036854775808) ≤ n) (n_b : n ≤ 9223372036854775807) : Calls E mX4_plus [(2, this), (1, m), (1, n)] S G 4 0 0 (fun r S' G' => S = S' ∧ (∃ G1, hw [(99, -1), (134, 0), (134, 1), (134, 2)] G G1 = G') ∧ r = none ∧ True) := by
  refine calls_by [(0, (2, this)), (1, (1, m)), (3, (1, n))] rfl rfl (Nat.le_of_ble_eq_true rfl) (fun X hX => ?_)
  have hP := hPX4_plus
  refine r_ex hX hP 2 (pc' := 2) (st' := [(1, 0), (1, n)]) (lo' := [(0, (2, this)), (1, (1, m)), (3, (1, n))]) rfl ?_
  refine r_lc_gt hX hP rfl rfl (tgt := 7) rfl (by first | decide | omega) (by first | decide | omega) (by first | decide | omega) (by first | decide | omega) (fun c1 => ?_) (fun c1 => ?_)
  · skip
    refine r_ex hX hP 1 (pc' := 8) (st' := [(2, this)]) (lo' := [(0, (2, this)), (1, (1, m)), (3, (1, n))]) rfl ?_
    refine r_getR hX hP rfl fl_X4_15_134 hS (fun cf2 cf2e cf2s => ?_)
    refine r_ex hX hP 1 (pc' := 12) (st' := [(2, this), (2, cf2)]) (lo' := [(0, (2, this)), (1, (1, m)), (3, (1, n))]) rfl ?_
    refine r_getKR hX hP rfl fl_X4_15_134 hS (x := cf2) cf2e ?_
    refine r_ex hX hP 3 (pc' := 18) (st' := [(1, (n - 1)), (2, cf2), (2, cf2)]) (lo' := [(0, (2, this)), (1, (1, m)), (3, (1, n))]) rfl ?_
    refine r_callS gd hX hP rfl cs_X4_44 (d' := 0) (mc' := 0) (ms' := 0) (as' := [(2, cf2), (2, cf2), (1, (n - 1))]) (st := []) (by first | decide | omega) (by first | decide | omega) (by first | decide | omega) rfl rfl (Nat.le_of_ble_eq_true rfl) (c_X3_addTimes E S G cf2 cf2 (n - 1) cf2s cf2s (by first | decide | omega) (by first | decide | omega)) ?_
    rintro _ _ _ ⟨rfl, ⟨G3, rfl⟩, rfl, -⟩
    refine r_ex hX hP 1 (pc' := 22) (st' := [(2, this)]) (lo' := [(0, (2, this)), (1, (1, m)), (3, (1, n))]) rfl ?_
    refine r_getR hX hP rfl fl_X4_19_134 hS (fun wf4 wf4e wf4s => ?_)
    refine r_ex hX hP 1 (pc' := 26) (st' := [(2, this), (2, wf4)]) (lo' := [(0, (2, this)), (1, (1, m)), (3, (1, n))]) rfl ?_
    refine r_getKR hX hP rfl fl_X4_19_134 hS (x := wf4) wf4e ?_
    refine r_ex hX hP 3 (pc' := 32) (st' := [(1, (n - 1)), (2, wf4), (2, wf4)]) (lo' := [(0, (2, this)), (1, (1, m)), (3, (1, n))]) rfl ?_
    refine r_callS gd hX hP rfl cs_X4_44 (d' := 0) (mc' := 0) (ms' := 0) (as' := [(2, wf4), (2, wf4), (1, (n - 1))]) (st := []) (by first | decide | omega) (by first | decide | omega) (by first | decide | omega) rfl rfl (Nat.le_of_ble_eq_true rfl) (c_X3_addTimes E S (hw [(99, -1)] G G3) wf4 wf4 (n - 1) wf4s wf4s (by first | decide | omega) (by first | decide | omega)) ?_
    rintro _ _ _ ⟨rfl, ⟨G5, rfl⟩, rfl, -⟩
    refine r_ex hX hP 2 (pc' := 37) (st' := [(1, 0), (1, m)]) (lo' := [(0, (2, this)), (1, (1, m)), (3, (1, n))]) rfl ?_
    refine r_lc_ge hX hP rfl rfl (tgt := 48) rfl (by first | decide | omega) (by first | decide | omega) (by first | decide | omega) (by first | decide | omega) (fun c6 => ?_) (fun c6 => ?_)
    · skip
      refine r_ex hX hP 1 (pc' := 49) (st' := [(2, this)]) (lo' := [(0, (2, this)), (1, (1, m)), (3, (1, n))]) rfl ?_
      refine r_getKR hX hP rfl fl_X4_15_134 hS (x := cf2) cf2e ?_
      refine r_ex hX hP 1 (pc' := 53) (st' := [(2, this), (2, cf2)]) (lo' := [(0, (2, this)), (1, (1, m)), (3, (1, n))]) rfl ?_
      refine r_getR hX hP rfl fl_X4_22_134 hS (fun bf7 bf7e bf7s => ?_)
      refine r_ex hX hP 1 (pc' := 57) (st' := [(1, m), (2, bf7), (2, cf2)]) (lo' := [(0, (2, this)), (1, (1, m)), (3, (1, n))]) rfl ?_
      refine r_mabsL hX hP rfl (tbg sg7 9 rfl rfl) (tbg sg5 194 rfl rfl) (tbg sg1 14 rfl rfl) (tbg sg5 195 rfl rfl) (by decide) (by decide) (by decide) (Nat.le_of_ble_eq_true rfl) (by first | decide | omega) (by first | decide | omega) (fun c8 => ?_) (fun c8 => ?_)
      · skip
        refine r_callS gd hX hP rfl cs_X4_44 (d' := 0) (mc' := 0) (ms' := 0) (as' := [(2, cf2), (2, bf7), (1, m)]) (st := []) (by first | decide | omega) (by first | decide | omega) (by first | decide | omega) rfl rfl (Nat.le_of_ble_eq_true rfl) (c_X3_addTimes E S (hw [(99, -1)] (hw [(99, -1)] G G3) G5) cf2 bf7 m cf2s bf7s (by first | decide | omega) (by first | decide | omega)) ?_
        rintro _ _ _ ⟨rfl, ⟨G9, rfl⟩, rfl, -⟩
        refine r_ex hX hP 1 (pc' := 64) (st' := [(2, this)]) (lo' := [(0, (2, this)), (1, (1, m)), (3, (1, n))]) rfl ?_
        refine r_getKR hX hP rfl fl_X4_22_134 hS (x := bf7) bf7e ?_
        refine r_ex hX hP 1 (pc' := 68) (st' := [(2, this), (2, bf7)]) (lo' := [(0, (2, this)), (1, (1, m)), (3, (1, n))]) rfl ?_
        refine r_getKR hX hP rfl fl_X4_22_134 hS (x := bf7) bf7e ?_
        refine r_ex hX hP 3 (pc' := 74) (st' := [(1, (n - 1)), (2, bf7), (2, bf7)]) (lo' := [(0, (2, this)), (1, (1, m)), (3, (1, n))]) rfl ?_
        refine r_callS gd hX hP rfl cs_X4_44 (d' := 0) (mc' := 0) (ms' := 0) (as' := [(2, bf7), (2, bf7), (1, (n - 1))]) (st := []) (by first | decide | omega) (by first | decide | omega) (by first | decide | omega) rfl rfl (Nat.le_of_ble_eq_true rfl) (c_X3_addTimes E S (hw [(99, -1)] (hw [(99, -1)] (hw [(99, -1)] G G3) G5) G9) bf7 bf7 (n - 1) bf7s bf7s (by first | decide | omega) (by first | decide | omega)) ?_
        rintro _ _ _ ⟨rfl, ⟨G10, rfl⟩, rfl, -⟩
        refine r_ex hX hP 1 (pc' := 78) (st' := [(2, this)]) (lo' := [(0, (2, this)), (1, (1, m)), (3, (1, n))]) rfl ?_
        refine r_getI hX hP rfl fl_X4_28_134 hS (fun of11 of11e of11a of11b => ?_)
        refine r_if_eq hX hP rfl (tgt := 85) rfl (by first | decide | omega) (by first | decide | omega) (fun c12 => ?_) (fun c12 => ?_)
        · skip
          refine r_ex hX hP 1 (pc' := 86) (st' := [(2, this)]) (lo' := [(0, (2, this)), (1, (1, m)), (3, (1, n))]) rfl ?_
          refine r_getL hX hP rfl fl_X4_25_134 hS (fun af13 af13e af13a af13b => ?_)
          refine r_ex hX hP 2 (pc' := 91) (st' := [(1, (af13 * n))]) (lo' := [(0, (2, this)), (1, (1, m)), (3, (1, n))]) rfl ?_
          refine r_hvL hX (fun w14 w14a w14b w14e => ?_)
          refine r_ex hX hP 2 (pc' := 93) (st' := [(2, this), (1, m), (1, w14)]) (lo' := [(0, (2, this)), (1, (1, m)), (3, (1, n))]) rfl ?_
          refine r_getL hX hP rfl fl_X4_9_134 hS (fun bf15 bf15e bf15a bf15b => ?_)
          refine r_ex hX hP 1 (pc' := 97) (st' := [(1, (m * bf15)), (1, w14)]) (lo' := [(0, (2, this)), (1, (1, m)), (3, (1, n))]) rfl ?_
          refine r_hvL hX (fun w16 w16a w16b w16e => ?_)
          refine r_ex hX hP 1 (pc' := 98) (st' := [(1, (w14 + w16))]) (lo' := [(0, (2, this)), (1, (1, m)), (3, (1, n))]) rfl ?_
          refine r_hvL hX (fun w17 w17a w17b w17e => ?_)
          refine r_ex hX hP 2 (pc' := 101) (st' := [(2, this)]) (lo' := [(0, (2, this)), (1, (1, m)), (3, (1, n)), (5, (1, w17))]) rfl ?_
          refine r_getKL hX hP rfl fl_X4_9_134 hS (x := bf15) bf15e ?_
          refine r_ex hX hP 2 (pc' := 106) (st' := [(1, (bf15 * n))]) (lo' := [(0, (2, this)), (1, (1, m)), (3, (1, n)), (5, (1, w17))]) rfl ?_
          refine r_hvL hX (fun w18 w18a w18b w18e => ?_)
          refine r_ex hX hP 3 (pc' := 112) (st' := [(1, w18), (1, w17)]) (lo' := [(0, (2, this)), (1, (1, m)), (3, (1, n)), (5, (1, w17)), (7, (1, w18))]) rfl ?_
          refine r_callS gd hX hP rfl cs_X4_38 (d' := 3) (mc' := 0) (ms' := 0) (as' := [(1, w17), (1, w18)]) (st := []) (by first | decide | omega) (by first | decide | omega) (by first | decide | omega) rfl rfl (Nat.le_of_ble_eq_true rfl) (c_divG E S (hw [(99, -1)] (hw [(99, -1)] (hw [(99, -1)] (hw [(99, -1)] G G3) G5) G9) G10) w17 w18 (by first | decide | omega) (by first | decide | omega) (by first | decide | omega) (by first | decide | omega)) ?_
          rintro _ _ _ ⟨rfl, rfl, z19, rfl, z19a, z19b, f20, f21⟩
          refine r_ex hX hP 4 (pc' := 122) (st' := [(1, z19), (1, w17), (2, this)]) (lo' := [(0, (2, this)), (1, (1, m)), (3, (1, n)), (5, (1, w17)), (7, (1, w18)), (9, (1, z19))]) rfl ?_
          refine r_ldiv hX hP rfl (by first | decide | omega) (by first | decide | omega) (by first | decide | omega) (by first | decide | omega) (by first | decide | omega) ?_
          obtain ⟨q22, q22e⟩ : ∃ q : Int, q = (Int.tdiv w17 z19) := ⟨_, rfl⟩
          rw [← q22e]
          have q22b := td_gen q22e (by first | decide | omega)
          refine r_hvL hX (fun w23 w23a w23b w23e => ?_)
          refine r_putLK hX hP rfl fp_X4_25_134 hS (by first | decide | omega) (by first | decide | omega) (fun h24 => ?_)
          refine r_ex hX hP 3 (pc' := 131) (st' := [(1, z19), (1, w18), (2, this)]) (lo' := [(0, (2, this)), (1, (1, m)), (3, (1, n)), (5, (1, w17)), (7, (1, w18)), (9, (1, z19))]) rfl ?_
          refine r_ldiv hX hP rfl (by first | decide | omega) (by first | decide | omega) (by first | decide | omega) (by first | decide | omega) (by first | decide | omega) ?_
          obtain ⟨q25, q25e⟩ : ∃ q : Int, q = (Int.tdiv w18 z19) := ⟨_, rfl⟩
          rw [← q25e]
          have q25b := td_gen q25e (by first | decide | omega)
          refine r_hvL hX (fun w26 w26a w26b w26e => ?_)
          refine r_putLK hX hP rfl fp_X4_9_134 hS (by first | decide | omega) (by first | decide | omega) (fun h27 => ?_)
          refine r_ex hX hP 2 (pc' := 137) (st' := [(2, this), (2, this)]) (lo' := [(0, (2, this)), (1, (1, m)), (3, (1, n)), (5, (1, w17)), (7, (1, w18)), (9, (1, z19))]) rfl ?_
          refine r_getKL hX hP rfl fl_X4_25_134 hS (x := w23) h24 ?_
          refine r_mabsL hX hP rfl (tbg sg7 9 rfl rfl) (tbg sg5 194 rfl rfl) (tbg sg1 14 rfl rfl) (tbg sg5 195 rfl rfl) (by decide) (by decide) (by decide) (Nat.le_of_ble_eq_true rfl) (by first | decide | omega) (by first | decide | omega) (fun c28 => ?_) (fun c28 => ?_)
          · skip
            refine r_ldc2 hX hP rfl (v := 1000000000000) (tbg sg7 10 rfl rfl) ?_
            refine r_lc_gt hX hP rfl rfl (tgt := 161) rfl (by first | decide | omega) (by first | decide | omega) (by first | decide | omega) (by first | decide | omega) (fun c29 => ?_) (fun c29 => ?_)
            · skip
              refine r_ex hX hP 2 (pc' := 166) (st' := [(0, 1), (2, this)]) (lo' := [(0, (2, this)), (1, (1, m)), (3, (1, n)), (5, (1, w17)), (7, (1, w18)), (9, (1, z19))]) rfl ?_
              refine r_putIK hX hP rfl fp_X4_28_134 hS (by first | decide | omega) (by first | decide | omega) (fun h30 => ?_)
              exact r_retV hX hP rfl rfl (by first | decide | omega) (by first | decide | omega) ⟨rfl, ⟨_, (hw_up (hw_up (hw_up (hw_sub (hw_sub (hw_sub (hw_sub (hw_refl _ _) rfl) rfl) rfl) rfl) rfl) rfl) rfl).symm⟩, rfl, trivial⟩
            · skip
              refine r_ex hX hP 1 (pc' := 151) (st' := [(2, this), (2, this)]) (lo' := [(0, (2, this)), (1, (1, m)), (3, (1, n)), (5, (1, w17)), (7, (1, w18)), (9, (1, z19))]) rfl ?_
              refine r_getKL hX hP rfl fl_X4_9_134 hS (x := w26) h27 ?_
              refine r_ldc2 hX hP rfl (v := 1000000000000) (tbg sg7 10 rfl rfl) ?_
              refine r_lc_le hX hP rfl rfl (tgt := 165) rfl (by first | decide | omega) (by first | decide | omega) (by first | decide | omega) (by first | decide | omega) (fun c31 => ?_) (fun c31 => ?_)
              · skip
                refine r_ex hX hP 1 (pc' := 166) (st' := [(0, 0), (2, this)]) (lo' := [(0, (2, this)), (1, (1, m)), (3, (1, n)), (5, (1, w17)), (7, (1, w18)), (9, (1, z19))]) rfl ?_
                refine r_putIK hX hP rfl fp_X4_28_134 hS (by first | decide | omega) (by first | decide | omega) (fun h32 => ?_)
                exact r_retV hX hP rfl rfl (by first | decide | omega) (by first | decide | omega) ⟨rfl, ⟨_, (hw_up (hw_up (hw_up (hw_sub (hw_sub (hw_sub (hw_sub (hw_refl _ _) rfl) rfl) rfl) rfl) rfl) rfl) rfl).symm⟩, rfl, trivial⟩
              · skip
                refine r_ex hX hP 2 (pc' := 166) (st' := [(0, 1), (2, this)]) (lo' := [(0, (2, this)), (1, (1, m)), (3, (1, n)), (5, (1, w17)), (7, (1, w18)), (9, (1, z19))]) rfl ?_
                refine r_putIK hX hP rfl fp_X4_28_134 hS (by first | decide | omega) (by first | decide | omega) (fun h33 => ?_)
                exact r_retV hX hP rfl rfl (by first | decide | omega) (by first | decide | omega) ⟨rfl, ⟨_, (hw_up (hw_up (hw_up (hw_sub (hw_sub (hw_sub (hw_sub (hw_refl _ _) rfl) rfl) rfl) rfl) rfl) rfl) rfl).symm⟩, rfl, trivial⟩
          · skip
            refine r_hvL hX (fun w34 w34a w34b w34e => ?_)
            refine r_ldc2 hX hP rfl (v := 1000000000000) (tbg sg7 10 rfl rfl) ?_
            refine r_lc_gt hX hP rfl rfl (tgt := 161) rfl (by first | decide | omega) (by first | decide | omega) (by first | decide | omega) (by first | decide | omega) (fun c35 => ?_) (fun c35 => ?_)
            · skip
              refine r_ex hX hP 2 (pc' := 166) (st' := [(0, 1), (2, this)]) (lo' := [(0, (2, this)), (1, (1, m)), (3, (1, n)), (5, (1, w17)), (7, (1, w18)), (9, (1, z19))]) rfl ?_
              refine r_putIK hX hP rfl fp_X4_28_134 hS (by first | decide | omega) (by first | decide | omega) (fun h36 => ?_)
              exact r_retV hX hP rfl rfl (by first | decide | omega) (by first | decide | omega) ⟨rfl, ⟨_, (hw_up (hw_up (hw_up (hw_sub (hw_sub (hw_sub (hw_sub (hw_refl _ _) rfl) rfl) rfl) rfl) rfl) rfl) rfl).symm⟩, rfl, trivial⟩
            · skip
              refine r_ex hX hP 1 (pc' := 151) (st' := [(2, this), (2, this)]) (lo' := [(0, (2, this)), (1, (1, m)), (3, (1, n)), (5, (1, w17)), (7, (1, w18)), (9, (1, z19))]) rfl ?_
              refine r_getKL hX hP rfl fl_X4_9_134 hS (x := w26) h27 ?_
              refine r_ldc2 hX hP rfl (v := 1000000000000) (tbg sg7 10 rfl rfl) ?_
              refine r_lc_le hX hP rfl rfl (tgt := 165) rfl (by first | decide | omega) (by first | decide | omega) (by first | decide | omega) (by first | decide | omega) (fun c37 => ?_) (fun c37 => ?_)
              · skip
                refine r_ex hX hP 1 (pc' := 166) (st' := [(0, 0), (2, this)]) (lo' := [(0, (2, this)), (1, (1, m)), (3, (1, n)), (5, (1, w17)), (7, (1, w18)), (9, (1, z19))]) rfl ?_
                refine r_putIK hX hP rfl fp_X4_28_134 hS (by first | decide | omega) (by first | decide | omega) (fun h38 => ?_)
                exact r_retV hX hP rfl rfl (by first | decide | omega) (by first | decide | omega) ⟨rfl, ⟨_, (hw_up (hw_up (hw_up (hw_sub (hw_sub (hw_sub (hw_sub (hw_refl _ _) rfl) rfl) rfl) rfl) rfl) rfl) rfl).symm⟩, rfl, trivial⟩
              · skip
                refine r_ex hX hP 2 (pc' := 166) (st' := [(0, 1), (2, this)]) (lo' := [(0, (2, this)), (1, (1, m)), (3, (1, n)), (5, (1, w17)), (7, (1, w18)), (9, (1, z19))]) rfl ?_
                refine r_putIK hX hP rfl fp_X4_28_134 hS (by first | decide | omega) (by first | decide | omega) (fun h39 => ?_)
                exact r_retV hX hP rfl rfl (by first | decide | omega) (by first | decide | omega) ⟨rfl, ⟨_, (hw_up (hw_up (hw_up (hw_sub (hw_sub (hw_sub (hw_sub (hw_refl _ _) rfl) rfl) rfl) rfl) rfl) rfl) rfl).symm⟩, rfl, trivial⟩
        · skip
          exact r_retV hX hP rfl rfl (by first | decide | omega) (by first | decide | omega) ⟨rfl, ⟨_, (hw_sub (hw_sub (hw_sub (hw_sub (hw_refl _ _) rfl) rfl) rfl) rfl).symm⟩, rfl, trivial⟩
      · skip
        refine r_callS gd hX hP rfl cs_X4_44 (d' := 0) (mc' := 0) (ms' := 0) (as' := [(2, cf2), (2, bf7), (1, (-m))]) (st := []) (by first | decide | omega) (by first | decide | omega) (by first | decide | omega) rfl rfl (Nat.le_of_ble_eq_true rfl) (c_X3_addTimes E S (hw [(99, -1)] (hw [(99, -1)] G G3) G5) cf2 bf7 (-m) cf2s bf7s (by first | decide | omega) (by first | decide | omega)) ?_
        rintro _ _ _ ⟨rfl, ⟨G40, rfl⟩, rfl, -⟩
        refine r_ex hX hP 1 (pc' := 64) (st' := [(2, this)]) (lo' := [(0, (2, this)), (1, (1, m)), (3, (1, n))]) rfl ?_
        refine r_getKR hX hP rfl fl_X4_22_134 hS (x := bf7) bf7e ?_
        refine r_ex hX hP 1 (pc' := 68) (st' := [(2, this), (2, bf7)]) (lo' := [(0, (2, this)), (1, (1, m)), (3, (1, n))]) rfl ?_
        refine r_getKR hX hP rfl fl_X4_22_134 hS (x := bf7) bf7e ?_
        refine r_ex hX hP 3 (pc' := 74) (st' := [(1, (n - 1)), (2, bf7), (2, bf7)]) (lo' := [(0, (2, this)), (1, (1, m)), (3, (1, n))]) rfl ?_
        refine r_callS gd hX hP rfl cs_X4_44 (d' := 0) (mc' := 0) (ms' := 0) (as' := [(2, bf7), (2, bf7), (1, (n - 1))]) (st := []) (by first | decide | omega) (by first | decide | omega) (by first | decide | omega) rfl rfl (Nat.le_of_ble_eq_true rfl) (c_X3_addTimes E S (hw [(99, -1)] (hw [(99, -1)] (hw [(99, -1)] G G3) G5) G40) bf7 bf7 (n - 1) bf7s bf7s (by first | decide | omega) (by first | decide | omega)) ?_
        rintro _ _ _ ⟨rfl, ⟨G41, rfl⟩, rfl, -⟩
        refine r_ex hX hP 1 (pc' := 78) (st' := [(2, this)]) (lo' := [(0, (2, this)), (1, (1, m)), (3, (1, n))]) rfl ?_
        refine r_getI hX hP rfl fl_X4_28_134 hS (fun of42 of42e of42a of42b => ?_)
        refine r_if_eq hX hP rfl (tgt := 85) rfl (by first | decide | omega) (by first | decide | omega) (fun c43 => ?_) (fun c43 => ?_)
        · skip
          refine r_ex hX hP 1 (pc' := 86) (st' := [(2, this)]) (lo' := [(0, (2, this)), (1, (1, m)), (3, (1, n))]) rfl ?_
          refine r_getL hX hP rfl fl_X4_25_134 hS (fun af44 af44e af44a af44b => ?_)
          refine r_ex hX hP 2 (pc' := 91) (st' := [(1, (af44 * n))]) (lo' := [(0, (2, this)), (1, (1, m)), (3, (1, n))]) rfl ?_
          refine r_hvL hX (fun w45 w45a w45b w45e => ?_)
          refine r_ex hX hP 2 (pc' := 93) (st' := [(2, this), (1, m), (1, w45)]) (lo' := [(0, (2, this)), (1, (1, m)), (3, (1, n))]) rfl ?_
          refine r_getL hX hP rfl fl_X4_9_134 hS (fun bf46 bf46e bf46a bf46b => ?_)
          refine r_ex hX hP 1 (pc' := 97) (st' := [(1, (m * bf46)), (1, w45)]) (lo' := [(0, (2, this)), (1, (1, m)), (3, (1, n))]) rfl ?_
          refine r_hvL hX (fun w47 w47a w47b w47e => ?_)
          refine r_ex hX hP 1 (pc' := 98) (st' := [(1, (w45 + w47))]) (lo' := [(0, (2, this)), (1, (1, m)), (3, (1, n))]) rfl ?_
          refine r_hvL hX (fun w48 w48a w48b w48e => ?_)
          refine r_ex hX hP 2 (pc' := 101) (st' := [(2, this)]) (lo' := [(0, (2, this)), (1, (1, m)), (3, (1, n)), (5, (1, w48))]) rfl ?_
          refine r_getKL hX hP rfl fl_X4_9_134 hS (x := bf46) bf46e ?_
          refine r_ex hX hP 2 (pc' := 106) (st' := [(1, (bf46 * n))]) (lo' := [(0, (2, this)), (1, (1, m)), (3, (1, n)), (5, (1, w48))]) rfl ?_
          refine r_hvL hX (fun w49 w49a w49b w49e => ?_)
          refine r_ex hX hP 3 (pc' := 112) (st' := [(1, w49), (1, w48)]) (lo' := [(0, (2, this)), (1, (1, m)), (3, (1, n)), (5, (1, w48)), (7, (1, w49))]) rfl ?_
          refine r_callS gd hX hP rfl cs_X4_38 (d' := 3) (mc' := 0) (ms' := 0) (as' := [(1, w48), (1, w49)]) (st := []) (by first | decide | omega) (by first | decide | omega) (by first | decide | omega) rfl rfl (Nat.le_of_ble_eq_true rfl) (c_divG E S (hw [(99, -1)] (hw [(99, -1)] (hw [(99, -1)] (hw [(99, -1)] G G3) G5) G40) G41) w48 w49 (by first | decide | omega) (by first | decide | omega) (by first | decide | omega) (by first | decide | omega)) ?_
          rintro _ _ _ ⟨rfl, rfl, z50, rfl, z50a, z50b, f51, f52⟩
          refine r_ex hX hP 4 (pc' := 122) (st' := [(1, z50), (1, w48), (2, this)]) (lo' := [(0, (2, this)), (1, (1, m)), (3, (1, n)), (5, (1, w48)), (7, (1, w49)), (9, (1, z50))]) rfl ?_
          refine r_ldiv hX hP rfl (by first | decide | omega) (by first | decide | omega) (by first | decide | omega) (by first | decide | omega) (by first | decide | omega) ?_
          obtain ⟨q53, q53e⟩ : ∃ q : Int, q = (Int.tdiv w48 z50) := ⟨_, rfl⟩
          rw [← q53e]
          have q53b := td_gen q53e (by first | decide | omega)
          refine r_hvL hX (fun w54 w54a w54b w54e => ?_)
          refine r_putLK hX hP rfl fp_X4_25_134 hS (by first | decide | omega) (by first | decide | omega) (fun h55 => ?_)
          refine r_ex hX hP 3 (pc' := 131) (st' := [(1, z50), (1, w49), (2, this)]) (lo' := [(0, (2, this)), (1, (1, m)), (3, (1, n)), (5, (1, w48)), (7, (1, w49)), (9, (1, z50))]) rfl ?_
          refine r_ldiv hX hP rfl (by first | decide | omega) (by first | decide | omega) (by first | decide | omega) (by first | decide | omega) (by first | decide | omega) ?_
          obtain ⟨q56, q56e⟩ : ∃ q : Int, q = (Int.tdiv w49 z50) := ⟨_, rfl⟩
          rw [← q56e]
          have q56b := td_gen q56e (by first | decide | omega)
          refine r_hvL hX (fun w57 w57a w57b w57e => ?_)
          refine r_putLK hX hP rfl fp_X4_9_134 hS (by first | decide | omega) (by first | decide | omega) (fun h58 => ?_)
          refine r_ex hX hP 2 (pc' := 137) (st' := [(2, this), (2, this)]) (lo' := [(0, (2, this)), (1, (1, m)), (3, (1, n)), (5, (1, w48)), (7, (1, w49)), (9, (1, z50))]) rfl ?_
          refine r_getKL hX hP rfl fl_X4_25_134 hS (x := w54) h55 ?_
          refine r_mabsL hX hP rfl (tbg sg7 9 rfl rfl) (tbg sg5 194 rfl rfl) (tbg sg1 14 rfl rfl) (tbg sg5 195 rfl rfl) (by decide) (by decide) (by decide) (Nat.le_of_ble_eq_true rfl) (by first | decide | omega) (by first | decide | omega) (fun c59 => ?_) (fun c59 => ?_)
          · skip
            refine r_ldc2 hX hP rfl (v := 1000000000000) (tbg sg7 10 rfl rfl) ?_
            refine r_lc_gt hX hP rfl rfl (tgt := 161) rfl (by first | decide | omega) (by first | decide | omega) (by first | decide | omega) (by first | decide | omega) (fun c60 => ?_) (fun c60 => ?_)
            · skip
              refine r_ex hX hP 2 (pc' := 166) (st' := [(0, 1), (2, this)]) (lo' := [(0, (2, this)), (1, (1, m)), (3, (1, n)), (5, (1, w48)), (7, (1, w49)), (9, (1, z50))]) rfl ?_
              refine r_putIK hX hP rfl fp_X4_28_134 hS (by first | decide | omega) (by first | decide | omega) (fun h61 => ?_)
              exact r_retV hX hP rfl rfl (by first | decide | omega) (by first | decide | omega) ⟨rfl, ⟨_, (hw_up (hw_up (hw_up (hw_sub (hw_sub (hw_sub (hw_sub (hw_refl _ _) rfl) rfl) rfl) rfl) rfl) rfl) rfl).symm⟩, rfl, trivial⟩
            · skip
              refine r_ex hX hP 1 (pc' := 151) (st' := [(2, this), (2, this)]) (lo' := [(0, (2, this)), (1, (1, m)), (3, (1, n)), (5, (1, w48)), (7, (1, w49)), (9, (1, z50))]) rfl ?_
              refine r_getKL hX hP rfl fl_X4_9_134 hS (x := w57) h58 ?_
              refine r_ldc2 hX hP rfl (v := 1000000000000) (tbg sg7 10 rfl rfl) ?_
              refine r_lc_le hX hP rfl rfl (tgt := 165) rfl (by first | decide | omega) (by first | decide | omega) (by first | decide | omega) (by first | decide | omega) (fun c62 => ?_) (fun c62 => ?_)
              · skip
                refine r_ex hX hP 1 (pc' := 166) (st' := [(0, 0), (2, this)]) (lo' := [(0, (2, this)), (1, (1, m)), (3, (1, n)), (5, (1, w48)), (7, (1, w49)), (9, (1, z50))]) rfl ?_
                refine r_putIK hX hP rfl fp_X4_28_134 hS (by first | decide | omega) (by first | decide | omega) (fun h63 => ?_)
                exact r_retV hX hP rfl rfl (by first | decide | omega) (by first | decide | omega) ⟨rfl, ⟨_, (hw_up (hw_up (hw_up (hw_sub (hw_sub (hw_sub (hw_sub (hw_refl _ _) rfl) rfl) rfl) rfl) rfl) rfl) rfl).symm⟩, rfl, trivial⟩
              · skip
                refine r_ex hX hP 2 (pc' := 166) (st' := [(0, 1), (2, this)]) (lo' := [(0, (2, this)), (1, (1, m)), (3, (1, n)), (5, (1, w48)), (7, (1, w49)), (9, (1, z50))]) rfl ?_
                refine r_putIK hX hP rfl fp_X4_28_134 hS (by first | decide | omega) (by first | decide | omega) (fun h64 => ?_)
                exact r_retV hX hP rfl rfl (by first | decide | omega) (by first | decide | omega) ⟨rfl, ⟨_, (hw_up (hw_up (hw_up (hw_sub (hw_sub (hw_sub (hw_sub (hw_refl _ _) rfl) rfl) rfl) rfl) rfl) rfl) rfl).symm⟩, rfl, trivial⟩
          · skip
            refine r_hvL hX (fun w65 w65a w65b w65e => ?_)
            refine r_ldc2 hX hP rfl (v := 1000000000000) (tbg sg7 10 rfl rfl) ?_
            refine r_lc_gt hX hP rfl rfl (tgt := 161) rfl (by first | decide | omega) (by first | decide | omega) (by first | decide | omega) (by first | decide | omega) (fun c66 => ?_) (fun c66 => ?_)
            · skip
              refine r_ex hX hP 2 (pc' := 166) (st' := [(0, 1), (2, this)]) (lo' := [(0, (2, this)), (1, (1, m)), (3, (1, n)), (5, (1, w48)), (7, (1, w49)), (9, (1, z50))]) rfl ?_
              refine r_putIK hX hP rfl fp_X4_28_134 hS (by first | decide | omega) (by first | decide | omega) (fun h67 => ?_)
              exact r_retV hX hP rfl rfl (by first | decide | omega) (by first | decide | omega) ⟨rfl, ⟨_, (hw_up (hw_up (hw_up (hw_sub (hw_sub (hw_sub (hw_sub (hw_refl _ _) rfl) rfl) rfl) rfl) rfl) rfl) rfl).symm⟩, rfl, trivial⟩
            · skip
              refine r_ex hX hP 1 (pc' := 151) (st' := [(2, this), (2, this)]) (lo' := [(0, (2, this)), (1, (1, m)), (3, (1, n)), (5, (1, w48)), (7, (1, w49)), (9, (1, z50))]) rfl ?_
              refine r_getKL hX hP rfl fl_X4_9_134 hS (x := w57) h58 ?_
              refine r_ldc2 hX hP rfl (v := 1000000000000) (tbg sg7 10 rfl rfl) ?_
              refine r_lc_le hX hP rfl rfl (tgt := 165) rfl (by first | decide | omega) (by first | decide | omega) (by first | decide | omega) (by first | decide | omega) (fun c68 => ?_) (fun c68 => ?_)
              · skip
                refine r_ex hX hP 1 (pc' := 166) (st' := [(0, 0), (2, this)]) (lo' := [(0, (2, this)), (1, (1, m)), (3, (1, n)), (5, (1, w48)), (7, (1, w49)), (9, (1, z50))]) rfl ?_
                refine r_putIK hX hP rfl fp_X4_28_134 hS (by first | decide | omega) (by first | decide | omega) (fun h69 => ?_)
                exact r_retV hX hP rfl rfl (by first | decide | omega) (by first | decide | omega) ⟨rfl, ⟨_, (hw_up (hw_up (hw_up (hw_sub (hw_sub (hw_sub (hw_sub (hw_refl _ _) rfl) rfl) rfl) rfl) rfl) rfl) rfl).symm⟩, rfl, trivial⟩
              · skip
                refine r_ex hX hP 2 (pc' := 166) (st' := [(0, 1), (2, this)]) (lo' := [(0, (2, this)), (1, (1, m)), (3, (1, n)), (5, (1, w48)), (7, (1, w49)), (9, (1, z50))]) rfl ?_
                refine r_putIK hX hP rfl fp_X4_28_134 hS (by first | decide | omega) (by first | decide | omega) (fun h70 => ?_)
                exact r_retV hX hP rfl rfl (by first | decide | omega) (by first | decide | omega) ⟨rfl, ⟨_, (hw_up (hw_up (hw_up (hw_sub (hw_sub (hw_sub (hw_sub (hw_refl _ _) rfl) rfl) rfl) rfl) rfl) rfl) rfl).symm⟩, rfl, trivial⟩
        · skip
          exact r_retV hX hP rfl rfl (by first | decide | omega) (by first | decide | omega) ⟨rfl, ⟨_, (hw_sub (hw_sub (hw_sub (hw_sub (hw_refl _ _) rfl) rfl) rfl) rfl).symm⟩, rfl, trivial⟩
    · skip
      refine r_ex hX hP 1 (pc' := 42) (st' := [(2, this)]) (lo' := [(0, (2, this)), (1, (1, m)), (3, (1, n))]) rfl ?_
      refine r_getKR hX hP rfl fl_X4_19_134 hS (x := wf4) wf4e ?_
      refine r_ex hX hP 2 (pc' := 53) (st' := [(2, this), (2, wf4)]) (lo' := [(0, (2, this)), (1, (1, m)), (3, (1, n))]) rfl ?_
      refine r_getR hX hP rfl fl_X4_22_134 hS (fun bf71 bf71e bf71s => ?_)
      refine r_ex hX hP 1 (pc' := 57) (st' := [(1, m), (2, bf71), (2, wf4)]) (lo' := [(0, (2, this)), (1, (1, m)), (3, (1, n))]) rfl ?_
      refine r_mabsL hX hP rfl (tbg sg7 9 rfl rfl) (tbg sg5 194 rfl rfl) (tbg sg1 14 rfl rfl) (tbg sg5 195 rfl rfl) (by decide) (by decide) (by decide) (Nat.le_of_ble_eq_true rfl) (by first | decide | omega) (by first | decide | omega) (fun c72 => ?_) (fun c72 => ?_)
      · skip
        exfalso; omega
      · skip
        refine r_hvL hX (fun w73 w73a w73b w73e => ?_)
        refine r_callS gd hX hP rfl cs_X4_44 (d' := 0) (mc' := 0) (ms' := 0) (as' := [(2, wf4), (2, bf71), (1, w73)]) (st := []) (by first | decide | omega) (by first | decide | omega) (by first | decide | omega) rfl rfl (Nat.le_of_ble_eq_true rfl) (c_X3_addTimes E S (hw [(99, -1)] (hw [(99, -1)] G G3) G5) wf4 bf71 w73 wf4s bf71s (by first | decide | omega) (by first | decide | omega)) ?_
        rintro _ _ _ ⟨rfl, ⟨G74, rfl⟩, rfl, -⟩
        refine r_ex hX hP 1 (pc' := 64) (st' := [(2, this)]) (lo' := [(0, (2, this)), (1, (1, m)), (3, (1, n))]) rfl ?_
        refine r_getKR hX hP rfl fl_X4_22_134 hS (x := bf71) bf71e ?_
        refine r_ex hX hP 1 (pc' := 68) (st' := [(2, this), (2, bf71)]) (lo' := [(0, (2, this)), (1, (1, m)), (3, (1, n))]) rfl ?_
        refine r_getKR hX hP rfl fl_X4_22_134 hS (x := bf71) bf71e ?_
        refine r_ex hX hP 3 (pc' := 74) (st' := [(1, (n - 1)), (2, bf71), (2, bf71)]) (lo' := [(0, (2, this)), (1, (1, m)), (3, (1, n))]) rfl ?_
        refine r_callS gd hX hP rfl cs_X4_44 (d' := 0) (mc' := 0) (ms' := 0) (as' := [(2, bf71), (2, bf71), (1, (n - 1))]) (st := []) (by first | decide | omega) (by first | decide | omega) (by first | decide | omega) rfl rfl (Nat.le_of_ble_eq_true rfl) (c_X3_addTimes E S (hw [(99, -1)] (hw [(99, -1)] (hw [(99, -1)] G G3) G5) G74) bf71 bf71 (n - 1) bf71s bf71s (by first | decide | omega) (by first | decide | omega)) ?_
        rintro _ _ _ ⟨rfl, ⟨G75, rfl⟩, rfl, -⟩
        refine r_ex hX hP 1 (pc' := 78) (st' := [(2, this)]) (lo' := [(0, (2, this)), (1, (1, m)), (3, (1, n))]) rfl ?_
        refine r_getI hX hP rfl fl_X4_28_134 hS (fun of76 of76e of76a of76b => ?_)
        refine r_if_eq hX hP rfl (tgt := 85) rfl (by first | decide | omega) (by first | decide | omega) (fun c77 => ?_) (fun c77 => ?_)
        · skip
          refine r_ex hX hP 1 (pc' := 86) (st' := [(2, this)]) (lo' := [(0, (2, this)), (1, (1, m)), (3, (1, n))]) rfl ?_
          refine r_getL hX hP rfl fl_X4_25_134 hS (fun af78 af78e af78a af78b => ?_)
          refine r_ex hX hP 2 (pc' := 91) (st' := [(1, (af78 * n))]) (lo' := [(0, (2, this)), (1, (1, m)), (3, (1, n))]) rfl ?_
          refine r_hvL hX (fun w79 w79a w79b w79e => ?_)
          refine r_ex hX hP 2 (pc' := 93) (st' := [(2, this), (1, m), (1, w79)]) (lo' := [(0, (2, this)), (1, (1, m)), (3, (1, n))]) rfl ?_
          refine r_getL hX hP rfl fl_X4_9_134 hS (fun bf80 bf80e bf80a bf80b => ?_)
          refine r_ex hX hP 1 (pc' := 97) (st' := [(1, (m * bf80)), (1, w79)]) (lo' := [(0, (2, this)), (1, (1, m)), (3, (1, n))]) rfl ?_
          refine r_hvL hX (fun w81 w81a w81b w81e => ?_)
          refine r_ex hX hP 1 (pc' := 98) (st' := [(1, (w79 + w81))]) (lo' := [(0, (2, this)), (1, (1, m)), (3, (1, n))]) rfl ?_
          refine r_hvL hX (fun w82 w82a w82b w82e => ?_)
          refine r_ex hX hP 2 (pc' := 101) (st' := [(2, this)]) (lo' := [(0, (2, this)), (1, (1, m)), (3, (1, n)), (5, (1, w82))]) rfl ?_
          refine r_getKL hX hP rfl fl_X4_9_134 hS (x := bf80) bf80e ?_
          refine r_ex hX hP 2 (pc' := 106) (st' := [(1, (bf80 * n))]) (lo' := [(0, (2, this)), (1, (1, m)), (3, (1, n)), (5, (1, w82))]) rfl ?_
          refine r_hvL hX (fun w83 w83a w83b w83e => ?_)
          refine r_ex hX hP 3 (pc' := 112) (st' := [(1, w83), (1, w82)]) (lo' := [(0, (2, this)), (1, (1, m)), (3, (1, n)), (5, (1, w82)), (7, (1, w83))]) rfl ?_
          refine r_callS gd hX hP rfl cs_X4_38 (d' := 3) (mc' := 0) (ms' := 0) (as' := [(1, w82), (1, w83)]) (st := []) (by first | decide | omega) (by first | decide | omega) (by first | decide | omega) rfl rfl (Nat.le_of_ble_eq_true rfl) (c_divG E S (hw [(99, -1)] (hw [(99, -1)] (hw [(99, -1)] (hw [(99, -1)] G G3) G5) G74) G75) w82 w83 (by first | decide | omega) (by first | decide | omega) (by first | decide | omega) (by first | decide | omega)) ?_
          rintro _ _ _ ⟨rfl, rfl, z84, rfl, z84a, z84b, f85, f86⟩
          refine r_ex hX hP 4 (pc' := 122) (st' := [(1, z84), (1, w82), (2, this)]) (lo' := [(0, (2, this)), (1, (1, m)), (3, (1, n)), (5, (1, w82)), (7, (1, w83)), (9, (1, z84))]) rfl ?_
          refine r_ldiv hX hP rfl (by first | decide | omega) (by first | decide | omega) (by first | decide | omega) (by first | decide | omega) (by first | decide | omega) ?_
          obtain ⟨q87, q87e⟩ : ∃ q : Int, q = (Int.tdiv w82 z84) := ⟨_, rfl⟩
          rw [← q87e]
          have q87b := td_gen q87e (by first | decide | omega)
          refine r_hvL hX (fun w88 w88a w88b w88e => ?_)
          refine r_putLK hX hP rfl fp_X4_25_134 hS (by first | decide | omega) (by first | decide | omega) (fun h89 => ?_)
          refine r_ex hX hP 3 (pc' := 131) (st' := [(1, z84), (1, w83), (2, this)]) (lo' := [(0, (2, this)), (1, (1, m)), (3, (1, n)), (5, (1, w82)), (7, (1, w83)), (9, (1, z84))]) rfl ?_
          refine r_ldiv hX hP rfl (by first | decide | omega) (by first | decide | omega) (by first | decide | omega) (by first | decide | omega) (by first | decide | omega) ?_
          obtain ⟨q90, q90e⟩ : ∃ q : Int, q = (Int.tdiv w83 z84) := ⟨_, rfl⟩
          rw [← q90e]
          have q90b := td_gen q90e (by first | decide | omega)
          refine r_hvL hX (fun w91 w91a w91b w91e => ?_)
          refine r_putLK hX hP rfl fp_X4_9_134 hS (by first | decide | omega) (by first | decide | omega) (fun h92 => ?_)
          refine r_ex hX hP 2 (pc' := 137) (st' := [(2, this), (2, this)]) (lo' := [(0, (2, this)), (1, (1, m)), (3, (1, n)), (5, (1, w82)), (7, (1, w83)), (9, (1, z84))]) rfl ?_
          refine r_getKL hX hP rfl fl_X4_25_134 hS (x := w88) h89 ?_
          refine r_mabsL hX hP rfl (tbg sg7 9 rfl rfl) (tbg sg5 194 rfl rfl) (tbg sg1 14 rfl rfl) (tbg sg5 195 rfl rfl) (by decide) (by decide) (by decide) (Nat.le_of_ble_eq_true rfl) (by first | decide | omega) (by first | decide | omega) (fun c93 => ?_) (fun c93 => ?_)
          · skip
            refine r_ldc2 hX hP rfl (v := 1000000000000) (tbg sg7 10 rfl rfl) ?_
            refine r_lc_gt hX hP rfl rfl (tgt := 161) rfl (by first | decide | omega) (by first | decide | omega) (by first | decide | omega) (by first | decide | omega) (fun c94 => ?_) (fun c94 => ?_)
            · skip
              refine r_ex hX hP 2 (pc' := 166) (st' := [(0, 1), (2, this)]) (lo' := [(0, (2, this)), (1, (1, m)), (3, (1, n)), (5, (1, w82)), (7, (1, w83)), (9, (1, z84))]) rfl ?_
              refine r_putIK hX hP rfl fp_X4_28_134 hS (by first | decide | omega) (by first | decide | omega) (fun h95 => ?_)
              exact r_retV hX hP rfl rfl (by first | decide | omega) (by first | decide | omega) ⟨rfl, ⟨_, (hw_up (hw_up (hw_up (hw_sub (hw_sub (hw_sub (hw_sub (hw_refl _ _) rfl) rfl) rfl) rfl) rfl) rfl) rfl).symm⟩, rfl, trivial⟩
            · skip
              refine r_ex hX hP 1 (pc' := 151) (st' := [(2, this), (2, this)]) (lo' := [(0, (2, this)), (1, (1, m)), (3, (1, n)), (5, (1, w82)), (7, (1, w83)), (9, (1, z84))]) rfl ?_
              refine r_getKL hX hP rfl fl_X4_9_134 hS (x := w91) h92 ?_
              refine r_ldc2 hX hP rfl (v := 1000000000000) (tbg sg7 10 rfl rfl) ?_
              refine r_lc_le hX hP rfl rfl (tgt := 165) rfl (by first | decide | omega) (by first | decide | omega) (by first | decide | omega) (by first | decide | omega) (fun c96 => ?_) (fun c96 => ?_)
              · skip
                refine r_ex hX hP 1 (pc' := 166) (st' := [(0, 0), (2, this)]) (lo' := [(0, (2, this)), (1, (1, m)), (3, (1, n)), (5, (1, w82)), (7, (1, w83)), (9, (1, z84))]) rfl ?_
                refine r_putIK hX hP rfl fp_X4_28_134 hS (by first | decide | omega) (by first | decide | omega) (fun h97 => ?_)
                exact r_retV hX hP rfl rfl (by first | decide | omega) (by first | decide | omega) ⟨rfl, ⟨_, (hw_up (hw_up (hw_up (hw_sub (hw_sub (hw_sub (hw_sub (hw_refl _ _) rfl) rfl) rfl) rfl) rfl) rfl) rfl).symm⟩, rfl, trivial⟩
              · skip
                refine r_ex hX hP 2 (pc' := 166) (st' := [(0, 1), (2, this)]) (lo' := [(0, (2, this)), (1, (1, m)), (3, (1, n)), (5, (1, w82)), (7, (1, w83)), (9, (1, z84))]) rfl ?_
                refine r_putIK hX hP rfl fp_X4_28_134 hS (by first | decide | omega) (by first | decide | omega) (fun h98 => ?_)
                exact r_retV hX hP rfl rfl (by first | decide | omega) (by first | decide | omega) ⟨rfl, ⟨_, (hw_up (hw_up (hw_up (hw_sub (hw_sub (hw_sub (hw_sub (hw_refl _ _) rfl) rfl) rfl) rfl) rfl) rfl) rfl).symm⟩, rfl, trivial⟩
          · skip
            refine r_hvL hX (fun w99 w99a w99b w99e => ?_)
            refine r_ldc2 hX hP rfl (v := 1000000000000) (tbg sg7 10 rfl rfl) ?_
            refine r_lc_gt hX hP rfl rfl (tgt := 161) rfl (by first | decide | omega) (by first | decide | omega) (by first | decide | omega) (by first | decide | omega) (fun c100 => ?_) (fun c100 => ?_)
            · skip
              refine r_ex hX hP 2 (pc' := 166) (st' := [(0, 1), (2, this)]) (lo' := [(0, (2, this)), (1, (1, m)), (3, (1, n)), (5, (1, w82)), (7, (1, w83)), (9, (1, z84))]) rfl ?_
              refine r_putIK hX hP rfl fp_X4_28_134 hS (by first | decide | omega) (by first | decide | omega) (fun h101 => ?_)
              exact r_retV hX hP rfl rfl (by first | decide | omega) (by first | decide | omega) ⟨rfl, ⟨_, (hw_up (hw_up (hw_up (hw_sub (hw_sub (hw_sub (hw_sub (hw_refl _ _) rfl) rfl) rfl) rfl) rfl) rfl) rfl).symm⟩, rfl, trivial⟩
            · skip
              refine r_ex hX hP 1 (pc' := 151) (st' := [(2, this), (2, this)]) (lo' := [(0, (2, this)), (1, (1, m)), (3, (1, n)), (5, (1, w82)), (7, (1, w83)), (9, (1, z84))]) rfl ?_
              refine r_getKL hX hP rfl fl_X4_9_134 hS (x := w91) h92 ?_
              refine r_ldc2 hX hP rfl (v := 1000000000000) (tbg sg7 10 rfl rfl) ?_
              refine r_lc_le hX hP rfl rfl (tgt := 165) rfl (by first | decide | omega) (by first | decide | omega) (by first | decide | omega) (by first | decide | omega) (fun c102 => ?_) (fun c102 => ?_)
              · skip
                refine r_ex hX hP 1 (pc' := 166) (st' := [(0, 0), (2, this)]) (lo' := [(0, (2, this)), (1, (1, m)), (3, (1, n)), (5, (1, w82)), (7, (1, w83)), (9, (1, z84))]) rfl ?_
                refine r_putIK hX hP rfl fp_X4_28_134 hS (by first | decide | omega) (by first | decide | omega) (fun h103 => ?_)
                exact r_retV hX hP rfl rfl (by first | decide | omega) (by first | decide | omega) ⟨rfl, ⟨_, (hw_up (hw_up (hw_up (hw_sub (hw_sub (hw_sub (hw_sub (hw_refl _ _) rfl) rfl) rfl) rfl) rfl) rfl) rfl).symm⟩, rfl, trivial⟩
              · skip
                refine r_ex hX hP 2 (pc' := 166) (st' := [(0, 1), (2, this)]) (lo' := [(0, (2, this)), (1, (1, m)), (3, (1, n)), (5, (1, w82)), (7, (1, w83)), (9, (1, z84))]) rfl ?_
                refine r_putIK hX hP rfl fp_X4_28_134 hS (by first | decide | omega) (by first | decide | omega) (fun h104 => ?_)
                exact r_retV hX hP rfl rfl (by first | decide | omega) (by first | decide | omega) ⟨rfl, ⟨_, (hw_up (hw_up (hw_up (hw_sub (hw_sub (hw_sub (hw_sub (hw_refl _ _) rfl) rfl) rfl) rfl) rfl) rfl) rfl).symm⟩, rfl, trivial⟩
        · skip
          exact r_retV hX hP rfl rfl (by first | decide | omega) (by first | decide | omega) ⟨rfl, ⟨_, (hw_sub (hw_sub (hw_sub (hw_sub (hw_refl _ _) rfl) rfl) rfl) rfl).symm⟩, rfl, trivial⟩
  · skip
    exact r_retV hX hP rfl rfl (by first | decide | omega) (by first | decide | omega) ⟨rfl, ⟨_, (hw_refl _ _).symm⟩, rfl, trivial⟩
set_option maxRecDepth 100000 in
set_option maxHeartbeats 4000000 in
theorem c_X4_put (E : En) (S : Sg) (G : Gh) (this : Int) (whole : Int) (hS : S this = 134) (whole_a : (-9223372036854775808) ≤ whole) (whole_b : whole ≤ 9223372036854775807) : Calls E mX4_put [(2, this), (1, whole)] S G 1 0 0 (fun r S' G' => S = S' ∧ (∃ G1, hw [(99, -1), (134, 0), (134, 1), (134, 2)] G G1 = G') ∧ r = none ∧ True) := by
  refine calls_by [(0, (2, this)), (1, (1, whole))] rfl rfl (Nat.le_of_ble_eq_true rfl) (fun X hX => ?_)
  have hP := hPX4_put
  refine r_ex hX hP 2 (pc' := 2) (st' := [(1, whole), (2, this)]) (lo' := [(0, (2, this)), (1, (1, whole))]) rfl ?_
  refine r_putLK hX hP rfl fp_X4_25_134 hS (by first | decide | omega) (by first | decide | omega) (fun h1 => ?_)
  refine r_ex hX hP 2 (pc' := 7) (st' := [(1, 1), (2, this)]) (lo' := [(0, (2, this)), (1, (1, whole))]) rfl ?_
  refine r_putLK hX hP rfl fp_X4_9_134 hS (by first | decide | omega) (by first | decide | omega) (fun h2 => ?_)
  refine r_ex hX hP 2 (pc' := 12) (st' := [(0, 0), (2, this)]) (lo' := [(0, (2, this)), (1, (1, whole))]) rfl ?_
  refine r_putIK hX hP rfl fp_X4_28_134 hS (by first | decide | omega) (by first | decide | omega) (fun h3 => ?_)
  refine r_ex hX hP 1 (pc' := 16) (st' := [(2, this)]) (lo' := [(0, (2, this)), (1, (1, whole))]) rfl ?_
  refine r_getR hX hP rfl fl_X4_15_134 hS (fun cf4 cf4e cf4s => ?_)
  refine r_ex hX hP 1 (pc' := 20) (st' := [(1, whole), (2, cf4)]) (lo' := [(0, (2, this)), (1, (1, whole))]) rfl ?_
  refine r_callS gd hX hP rfl cs_X4_32 (d' := 0) (mc' := 0) (ms' := 0) (as' := [(2, cf4), (1, whole)]) (st := []) (by first | decide | omega) (by first | decide | omega) (by first | decide | omega) rfl rfl (Nat.le_of_ble_eq_true rfl) (c_X3_put E S (up (up (up G 134 this 0 whole) 134 this 1 1) 134 this 2 0) cf4 whole cf4s (by first | decide | omega) (by first | decide | omega)) ?_
  rintro _ _ _ ⟨rfl, ⟨G5, rfl⟩, rfl, -⟩
  refine r_ex hX hP 1 (pc' := 24) (st' := [(2, this)]) (lo' := [(0, (2, this)), (1, (1, whole))]) rfl ?_
  refine r_getR hX hP rfl fl_X4_19_134 hS (fun wf6 wf6e wf6s => ?_)
  refine r_ex hX hP 1 (pc' := 28) (st' := [(1, 0), (2, wf6)]) (lo' := [(0, (2, this)), (1, (1, whole))]) rfl ?_
  refine r_callS gd hX hP rfl cs_X4_32 (d' := 0) (mc' := 0) (ms' := 0) (as' := [(2, wf6), (1, 0)]) (st := []) (by first | decide | omega) (by first | decide | omega) (by first | decide | omega) rfl rfl (Nat.le_of_ble_eq_true rfl) (c_X3_put E S (hw [(99, -1)] (up (up (up G 134 this 0 whole) 134 this 1 1) 134 this 2 0) G5) wf6 0 wf6s (by first | decide | omega) (by first | decide | omega)) ?_
  rintro _ _ _ ⟨rfl, ⟨G7, rfl⟩, rfl, -⟩
  refine r_ex hX hP 1 (pc' := 32) (st' := [(2, this)]) (lo' := [(0, (2, this)), (1, (1, whole))]) rfl ?_
  refine r_getR hX hP rfl fl_X4_22_134 hS (fun bf8 bf8e bf8s => ?_)
  refine r_ex hX hP 1 (pc' := 36) (st' := [(1, 1), (2, bf8)]) (lo' := [(0, (2, this)), (1, (1, whole))]) rfl ?_
  refine r_callS gd hX hP rfl cs_X4_32 (d' := 0) (mc' := 0) (ms' := 0) (as' := [(2, bf8), (1, 1)]) (st := []) (by first | decide | omega) (by first | decide | omega) (by first | decide | omega) rfl rfl (Nat.le_of_ble_eq_true rfl) (c_X3_put E S (hw [(99, -1)] (hw [(99, -1)] (up (up (up G 134 this 0 whole) 134 this 1 1) 134 this 2 0) G5) G7) bf8 1 bf8s (by first | decide | omega) (by first | decide | omega)) ?_
  rintro _ _ _ ⟨rfl, ⟨G9, rfl⟩, rfl, -⟩
  exact r_retV hX hP rfl rfl (by first | decide | omega) (by first | decide | omega) ⟨rfl, ⟨_, (hw_sub (hw_sub (hw_sub (hw_up (hw_up (hw_up (hw_refl _ _) rfl) rfl) rfl) rfl) rfl) rfl).symm⟩, rfl, trivial⟩
set_option maxRecDepth 100000 in
set_option maxHeartbeats 4000000 in
theorem c_X4_isLeft (E : En) (S : Sg) (G : Gh) (this : Int) (hS : S this = 134) : Calls E mX4_isLeft [(2, this)] S G 1 0 0 (fun r S' G' => S = S' ∧ G = G' ∧ ∃ z : Int, r = some (0, z) ∧ 0 ≤ z ∧ z ≤ 1) := by
  refine calls_by [(0, (2, this))] rfl rfl (Nat.le_of_ble_eq_true rfl) (fun X hX => ?_)
  have hP := hPX4_isLeft
  refine r_ex hX hP 1 (pc' := 1) (st' := [(2, this)]) (lo' := [(0, (2, this))]) rfl ?_
  refine r_getR hX hP rfl fl_X4_19_134 hS (fun wf1 wf1e wf1s => ?_)
  refine r_ex hX hP 1 (pc' := 5) (st' := [(2, this), (2, wf1)]) (lo' := [(0, (2, this))]) rfl ?_
  refine r_getR hX hP rfl fl_X4_15_134 hS (fun cf2 cf2e cf2s => ?_)
  refine r_callS gd hX hP rfl cs_X4_54 (d' := 0) (mc' := 0) (ms' := 0) (as' := [(2, wf1), (2, cf2)]) (st := []) (by first | decide | omega) (by first | decide | omega) (by first | decide | omega) rfl rfl (Nat.le_of_ble_eq_true rfl) (c_X3_isLess E S G wf1 cf2 wf1s cf2s) ?_
  rintro _ _ _ ⟨rfl, rfl, z3, rfl, z3a, z3b⟩
  exact r_retZ hX hP rfl rfl (by first | decide | omega) (by first | decide | omega) (by first | decide | omega) (by first | decide | omega) ⟨rfl, rfl, z3, rfl, (by first | decide | omega)⟩
set_option maxRecDepth 100000 in
set_option maxHeartbeats 4000000 in
theorem c_X9_firstGive (E : En) (S : Sg) (G : Gh) (this : Int) (hS : S this = 136) : Calls E mX9_firstGive [(2, this)] S G 0 0 0 (fun r S' G' => S = S' ∧ G = G' ∧ ∃ z : Int, r = some (0, z) ∧ (-1) ≤ z ∧ z ≤ 29) := by
  refine calls_by [(0, (2, this))] rfl rfl (Nat.le_of_ble_eq_true rfl) (fun X hX => ?_)
  have hP := hPX9_firstGive
  refine r_ex hX hP 2 (pc' := 2) (st' := []) (lo' := [(0, (2, this)), (1, (0, 0))]) rfl ?_
  have loop2 : ∀ (nF : Nat) (l1_h2 : Int), 0 ≤ l1_h2 → l1_h2 ≤ 30 → 30 - l1_h2 < (nF : Int) → X 0 0 2 [] [(0, (2, this)), (1, (0, l1_h2))] S G := by
    intro nF
    induction nF with
    | zero => intro l1_h2 yh2_0 yh2_1 ym2; exfalso; omega
    | succ nF ih2 =>
      intro l1_h2 yh2_0 yh2_1 ym2
      refine r_ex hX hP 2 (pc' := 4) (st' := [(2, this), (0, l1_h2)]) (lo' := [(0, (2, this)), (1, (0, l1_h2))]) rfl ?_
      refine r_getI hX hP rfl fl_X9_63_136 hS (fun sf1 sf1e sf1a sf1b => ?_)
      refine r_ic_ge hX hP rfl (tgt := 27) rfl (by first | decide | omega) (by first | decide | omega) (by first | decide | omega) (by first | decide | omega) (fun c2 => ?_) (fun c2 => ?_)
      · skip
        refine r_ex hX hP 1 (pc' := 28) (st' := [(0, (-1))]) (lo' := [(0, (2, this)), (1, (0, l1_h2))]) rfl ?_
        exact r_retI hX hP rfl rfl (by first | decide | omega) (by first | decide | omega) ⟨rfl, rfl, (-1), rfl, (by first | decide | omega)⟩
      · skip
        refine r_ex hX hP 1 (pc' := 11) (st' := [(2, this)]) (lo' := [(0, (2, this)), (1, (0, l1_h2))]) rfl ?_
        refine r_getR hX hP rfl fl_X9_15_136 hS (fun kf3 kf3e kf3s => ?_)
        refine r_ex hX hP 1 (pc' := 15) (st' := [(0, l1_h2), (2, kf3)]) (lo' := [(0, (2, this)), (1, (0, l1_h2))]) rfl ?_
        refine r_iald hX hP rfl al_120 kf3s (by first | decide | omega) (by first | decide | omega) (fun x4 x4e x4a x4b => ?_)
        refine r_if_ne hX hP rfl (tgt := 21) rfl (by first | decide | omega) (by first | decide | omega) (fun c5 => ?_) (fun c5 => ?_)
        · skip
          refine r_ex hX hP 2 (pc' := 2) (st' := []) (lo' := [(0, (2, this)), (1, (0, (l1_h2 + 1)))]) rfl ?_
          exact ih2 (l1_h2 + 1) (by first | decide | omega) (by first | decide | omega) (by first | decide | omega)
        · skip
          refine r_ex hX hP 1 (pc' := 20) (st' := [(0, l1_h2)]) (lo' := [(0, (2, this)), (1, (0, l1_h2))]) rfl ?_
          exact r_retI hX hP rfl rfl (by first | decide | omega) (by first | decide | omega) ⟨rfl, rfl, l1_h2, rfl, (by first | decide | omega)⟩
  exact loop2 ((30 - 0) + 1 : Int).toNat 0 (by first | decide | omega) (by first | decide | omega) (by first | decide | omega)
set_option maxRecDepth 100000 in
set_option maxHeartbeats 4000000 in
theorem c_X9_isLive (E : En) (S : Sg) (G : Gh) (this : Int) (i : Int) (hS : S this = 136) (i_a : 0 ≤ i) (i_b : i ≤ 29) : Calls E mX9_isLive [(2, this), (0, i)] S G 0 0 0 (fun r S' G' => S = S' ∧ G = G' ∧ ∃ z : Int, r = some (0, z) ∧ 0 ≤ z ∧ z ≤ 1) := by
  refine calls_by [(0, (2, this)), (1, (0, i))] rfl rfl (Nat.le_of_ble_eq_true rfl) (fun X hX => ?_)
  have hP := hPX9_isLive
  refine r_ex hX hP 1 (pc' := 1) (st' := [(2, this)]) (lo' := [(0, (2, this)), (1, (0, i))]) rfl ?_
  refine r_getR hX hP rfl fl_X9_28_136 hS (fun rf1 rf1e rf1s => ?_)
  refine r_ex hX hP 1 (pc' := 5) (st' := [(0, i), (2, rf1)]) (lo' := [(0, (2, this)), (1, (0, i))]) rfl ?_
  refine r_iald hX hP rfl al_122 rf1s (by first | decide | omega) (by first | decide | omega) (fun x2 x2e x2a x2b => ?_)
  refine r_ex hX hP 1 (pc' := 7) (st' := [(0, 3), (0, x2)]) (lo' := [(0, (2, this)), (1, (0, i))]) rfl ?_
  refine r_ic_eq hX hP rfl (tgt := 28) rfl (by first | decide | omega) (by first | decide | omega) (by first | decide | omega) (by first | decide | omega) (fun c3 => ?_) (fun c3 => ?_)
  · skip
    refine r_ex hX hP 1 (pc' := 29) (st' := [(2, this)]) (lo' := [(0, (2, this)), (1, (0, i))]) rfl ?_
    refine r_getR hX hP rfl fl_X9_31_136 hS (fun if4 if4e if4s => ?_)
    refine r_ex hX hP 1 (pc' := 33) (st' := [(0, i), (2, if4)]) (lo' := [(0, (2, this)), (1, (0, i))]) rfl ?_
    refine r_iald hX hP rfl al_123 if4s (by first | decide | omega) (by first | decide | omega) (fun x5 x5e x5a x5b => ?_)
    refine r_ex hX hP 1 (pc' := 35) (st' := [(0, (-1)), (0, x5)]) (lo' := [(0, (2, this)), (1, (0, i))]) rfl ?_
    refine r_ic_ne hX hP rfl (tgt := 40) rfl (by first | decide | omega) (by first | decide | omega) (by first | decide | omega) (by first | decide | omega) (fun c6 => ?_) (fun c6 => ?_)
    · skip
      refine r_ex hX hP 1 (pc' := 41) (st' := [(2, this)]) (lo' := [(0, (2, this)), (1, (0, i))]) rfl ?_
      refine r_getKR hX hP rfl fl_X9_31_136 hS (x := if4) if4e ?_
      refine r_ex hX hP 1 (pc' := 45) (st' := [(0, i), (2, if4)]) (lo' := [(0, (2, this)), (1, (0, i))]) rfl ?_
      refine r_ialdK hX hP rfl al_123 if4s (by first | decide | omega) (by first | decide | omega) (x := x5) x5e ?_
      refine r_ex hX hP 1 (pc' := 47) (st' := [(0, 2), (0, x5)]) (lo' := [(0, (2, this)), (1, (0, i))]) rfl ?_
      refine r_idiv hX hP rfl (by first | decide | omega) (by first | decide | omega) (by first | decide | omega) (by first | decide | omega) (by first | decide | omega) ?_
      obtain ⟨q7, q7e⟩ : ∃ q : Int, q = (Int.tdiv x5 2) := ⟨_, rfl⟩
      rw [← q7e]
      have q7b := td_pos q7e (by first | decide | omega) (by first | decide | omega)
      refine r_ex hX hP 2 (pc' := 50) (st' := [(2, this)]) (lo' := [(0, (2, this)), (1, (0, i)), (2, (0, q7))]) rfl ?_
      refine r_getKR hX hP rfl fl_X9_31_136 hS (x := if4) if4e ?_
      refine r_ex hX hP 1 (pc' := 54) (st' := [(0, i), (2, if4)]) (lo' := [(0, (2, this)), (1, (0, i)), (2, (0, q7))]) rfl ?_
      refine r_ialdK hX hP rfl al_123 if4s (by first | decide | omega) (by first | decide | omega) (x := x5) x5e ?_
      refine r_ex hX hP 1 (pc' := 56) (st' := [(0, 2), (0, x5)]) (lo' := [(0, (2, this)), (1, (0, i)), (2, (0, q7))]) rfl ?_
      refine r_irem hX hP rfl (by first | decide | omega) (by first | decide | omega) (by first | decide | omega) (by first | decide | omega) (by first | decide | omega) ?_
      obtain ⟨q8, q8e⟩ : ∃ q : Int, q = (Int.tmod x5 2) := ⟨_, rfl⟩
      rw [← q8e]
      have q8b := tm_pos q8e (by first | decide | omega) (by first | decide | omega)
      refine r_ex hX hP 1 (pc' := 58) (st' := [(0, 1), (0, q8)]) (lo' := [(0, (2, this)), (1, (0, i)), (2, (0, q7))]) rfl ?_
      refine r_ic_ne hX hP rfl (tgt := 65) rfl (by first | decide | omega) (by first | decide | omega) (by first | decide | omega) (by first | decide | omega) (fun c9 => ?_) (fun c9 => ?_)
      · skip
        refine r_ex hX hP 3 (pc' := 68) (st' := [(2, this)]) (lo' := [(0, (2, this)), (1, (0, i)), (2, (0, q7)), (3, (0, 0))]) rfl ?_
        refine r_getR hX hP rfl fl_X9_40_136 hS (fun hf10 hf10e hf10s => ?_)
        refine r_ex hX hP 1 (pc' := 72) (st' := [(0, 3), (2, hf10)]) (lo' := [(0, (2, this)), (1, (0, i)), (2, (0, q7)), (3, (0, 0))]) rfl ?_
        refine r_lald hX hP rfl al_125 hf10s (by first | decide | omega) (by first | decide | omega) (fun x11 x11e x11a x11b => ?_)
        refine r_ex hX hP 2 (pc' := 76) (st' := [(2, this)]) (lo' := [(0, (2, this)), (1, (0, i)), (2, (0, q7)), (3, (0, 0)), (4, (1, x11))]) rfl ?_
        refine r_getR hX hP rfl fl_X9_22_136 hS (fun qf12 qf12e qf12s => ?_)
        refine r_ex hX hP 1 (pc' := 80) (st' := [(0, q7), (2, qf12)]) (lo' := [(0, (2, this)), (1, (0, i)), (2, (0, q7)), (3, (0, 0)), (4, (1, x11))]) rfl ?_
        refine r_iald hX hP rfl al_121 qf12s (by first | decide | omega) (by first | decide | omega) (fun x13 x13e x13a x13b => ?_)
        refine r_ex hX hP 1 (pc' := 83) (st' := [(0, 60), (0, x13)]) (lo' := [(0, (2, this)), (1, (0, i)), (2, (0, q7)), (3, (0, 0)), (4, (1, x11))]) rfl ?_
        refine r_ic_ne hX hP rfl (tgt := 107) rfl (by first | decide | omega) (by first | decide | omega) (by first | decide | omega) (by first | decide | omega) (fun c14 => ?_) (fun c14 => ?_)
        · skip
          refine r_ex hX hP 2 (pc' := 110) (st' := [(2, this), (1, x11)]) (lo' := [(0, (2, this)), (1, (0, i)), (2, (0, q7)), (3, (0, 0)), (4, (1, x11))]) rfl ?_
          refine r_getR hX hP rfl fl_X9_19_136 hS (fun mf15 mf15e mf15s => ?_)
          refine r_ex hX hP 1 (pc' := 114) (st' := [(0, q7), (2, mf15), (1, x11)]) (lo' := [(0, (2, this)), (1, (0, i)), (2, (0, q7)), (3, (0, 0)), (4, (1, x11))]) rfl ?_
          refine r_iald hX hP rfl al_119 mf15s (by first | decide | omega) (by first | decide | omega) (fun x16 x16e x16a x16b => ?_)
          refine r_i2l hX hP rfl (by first | decide | omega) (by first | decide | omega) ?_
          refine r_lc_le hX hP rfl rfl (tgt := 124) rfl (by first | decide | omega) (by first | decide | omega) (by first | decide | omega) (by first | decide | omega) (fun c17 => ?_) (fun c17 => ?_)
          · skip
            refine r_ex hX hP 3 (pc' := 128) (st' := [(2, this)]) (lo' := [(0, (2, this)), (1, (0, i)), (2, (0, q7)), (3, (0, 0)), (4, (1, x11)), (6, (0, 0))]) rfl ?_
            refine r_getR hX hP rfl fl_X9_44_136 hS (fun lf18 lf18e lf18s => ?_)
            refine r_ex hX hP 1 (pc' := 132) (st' := [(0, q7), (2, lf18)]) (lo' := [(0, (2, this)), (1, (0, i)), (2, (0, q7)), (3, (0, 0)), (4, (1, x11)), (6, (0, 0))]) rfl ?_
            refine r_zald hX hP rfl al_126 lf18s (by first | decide | omega) (by first | decide | omega) (fun x19 x19e x19a x19b => ?_)
            refine r_if_eq hX hP rfl (tgt := 146) rfl (by first | decide | omega) (by first | decide | omega) (fun c20 => ?_) (fun c20 => ?_)
            · skip
              refine r_ex hX hP 1 (pc' := 147) (st' := [(0, 0)]) (lo' := [(0, (2, this)), (1, (0, i)), (2, (0, q7)), (3, (0, 0)), (4, (1, x11)), (6, (0, 0))]) rfl ?_
              exact r_retZ hX hP rfl rfl (by first | decide | omega) (by first | decide | omega) (by first | decide | omega) (by first | decide | omega) ⟨rfl, rfl, 0, rfl, (by first | decide | omega)⟩
            · skip
              refine r_ex hX hP 2 (pc' := 139) (st' := [(0, 0), (0, 0)]) (lo' := [(0, (2, this)), (1, (0, i)), (2, (0, q7)), (3, (0, 0)), (4, (1, x11)), (6, (0, 0))]) rfl ?_
              refine r_ic_eq hX hP rfl (tgt := 146) rfl (by first | decide | omega) (by first | decide | omega) (by first | decide | omega) (by first | decide | omega) (fun c21 => ?_) (fun c21 => ?_)
              · skip
                refine r_ex hX hP 1 (pc' := 147) (st' := [(0, 0)]) (lo' := [(0, (2, this)), (1, (0, i)), (2, (0, q7)), (3, (0, 0)), (4, (1, x11)), (6, (0, 0))]) rfl ?_
                exact r_retZ hX hP rfl rfl (by first | decide | omega) (by first | decide | omega) (by first | decide | omega) (by first | decide | omega) ⟨rfl, rfl, 0, rfl, (by first | decide | omega)⟩
              · skip
                exfalso; omega
          · skip
            refine r_ex hX hP 4 (pc' := 128) (st' := [(2, this)]) (lo' := [(0, (2, this)), (1, (0, i)), (2, (0, q7)), (3, (0, 0)), (4, (1, x11)), (6, (0, 1))]) rfl ?_
            refine r_getR hX hP rfl fl_X9_44_136 hS (fun lf22 lf22e lf22s => ?_)
            refine r_ex hX hP 1 (pc' := 132) (st' := [(0, q7), (2, lf22)]) (lo' := [(0, (2, this)), (1, (0, i)), (2, (0, q7)), (3, (0, 0)), (4, (1, x11)), (6, (0, 1))]) rfl ?_
            refine r_zald hX hP rfl al_126 lf22s (by first | decide | omega) (by first | decide | omega) (fun x23 x23e x23a x23b => ?_)
            refine r_if_eq hX hP rfl (tgt := 146) rfl (by first | decide | omega) (by first | decide | omega) (fun c24 => ?_) (fun c24 => ?_)
            · skip
              refine r_ex hX hP 1 (pc' := 147) (st' := [(0, 0)]) (lo' := [(0, (2, this)), (1, (0, i)), (2, (0, q7)), (3, (0, 0)), (4, (1, x11)), (6, (0, 1))]) rfl ?_
              exact r_retZ hX hP rfl rfl (by first | decide | omega) (by first | decide | omega) (by first | decide | omega) (by first | decide | omega) ⟨rfl, rfl, 0, rfl, (by first | decide | omega)⟩
            · skip
              refine r_ex hX hP 2 (pc' := 139) (st' := [(0, 0), (0, 1)]) (lo' := [(0, (2, this)), (1, (0, i)), (2, (0, q7)), (3, (0, 0)), (4, (1, x11)), (6, (0, 1))]) rfl ?_
              refine r_ic_eq hX hP rfl (tgt := 146) rfl (by first | decide | omega) (by first | decide | omega) (by first | decide | omega) (by first | decide | omega) (fun c25 => ?_) (fun c25 => ?_)
              · skip
                exfalso; omega
              · skip
                refine r_ex hX hP 2 (pc' := 147) (st' := [(0, 1)]) (lo' := [(0, (2, this)), (1, (0, i)), (2, (0, q7)), (3, (0, 0)), (4, (1, x11)), (6, (0, 1))]) rfl ?_
                exact r_retZ hX hP rfl rfl (by first | decide | omega) (by first | decide | omega) (by first | decide | omega) (by first | decide | omega) ⟨rfl, rfl, 1, rfl, (by first | decide | omega)⟩
        · skip
          refine r_ex hX hP 2 (pc' := 89) (st' := [(2, this), (1, x11)]) (lo' := [(0, (2, this)), (1, (0, i)), (2, (0, q7)), (3, (0, 0)), (4, (1, x11))]) rfl ?_
          refine r_getR hX hP rfl fl_X9_19_136 hS (fun mf26 mf26e mf26s => ?_)
          refine r_ex hX hP 1 (pc' := 93) (st' := [(0, q7), (2, mf26), (1, x11)]) (lo' := [(0, (2, this)), (1, (0, i)), (2, (0, q7)), (3, (0, 0)), (4, (1, x11))]) rfl ?_
          refine r_iald hX hP rfl al_119 mf26s (by first | decide | omega) (by first | decide | omega) (fun x27 x27e x27a x27b => ?_)
          refine r_i2l hX hP rfl (by first | decide | omega) (by first | decide | omega) ?_
          refine r_lc_ge hX hP rfl rfl (tgt := 103) rfl (by first | decide | omega) (by first | decide | omega) (by first | decide | omega) (by first | decide | omega) (fun c28 => ?_) (fun c28 => ?_)
          · skip
            refine r_ex hX hP 4 (pc' := 128) (st' := [(2, this)]) (lo' := [(0, (2, this)), (1, (0, i)), (2, (0, q7)), (3, (0, 0)), (4, (1, x11)), (6, (0, 0))]) rfl ?_
            refine r_getR hX hP rfl fl_X9_44_136 hS (fun lf29 lf29e lf29s => ?_)
            refine r_ex hX hP 1 (pc' := 132) (st' := [(0, q7), (2, lf29)]) (lo' := [(0, (2, this)), (1, (0, i)), (2, (0, q7)), (3, (0, 0)), (4, (1, x11)), (6, (0, 0))]) rfl ?_
            refine r_zald hX hP rfl al_126 lf29s (by first | decide | omega) (by first | decide | omega) (fun x30 x30e x30a x30b => ?_)
            refine r_if_eq hX hP rfl (tgt := 146) rfl (by first | decide | omega) (by first | decide | omega) (fun c31 => ?_) (fun c31 => ?_)
            · skip
              refine r_ex hX hP 1 (pc' := 147) (st' := [(0, 0)]) (lo' := [(0, (2, this)), (1, (0, i)), (2, (0, q7)), (3, (0, 0)), (4, (1, x11)), (6, (0, 0))]) rfl ?_
              exact r_retZ hX hP rfl rfl (by first | decide | omega) (by first | decide | omega) (by first | decide | omega) (by first | decide | omega) ⟨rfl, rfl, 0, rfl, (by first | decide | omega)⟩
            · skip
              refine r_ex hX hP 2 (pc' := 139) (st' := [(0, 0), (0, 0)]) (lo' := [(0, (2, this)), (1, (0, i)), (2, (0, q7)), (3, (0, 0)), (4, (1, x11)), (6, (0, 0))]) rfl ?_
              refine r_ic_eq hX hP rfl (tgt := 146) rfl (by first | decide | omega) (by first | decide | omega) (by first | decide | omega) (by first | decide | omega) (fun c32 => ?_) (fun c32 => ?_)
              · skip
                refine r_ex hX hP 1 (pc' := 147) (st' := [(0, 0)]) (lo' := [(0, (2, this)), (1, (0, i)), (2, (0, q7)), (3, (0, 0)), (4, (1, x11)), (6, (0, 0))]) rfl ?_
                exact r_retZ hX hP rfl rfl (by first | decide | omega) (by first | decide | omega) (by first | decide | omega) (by first | decide | omega) ⟨rfl, rfl, 0, rfl, (by first | decide | omega)⟩
              · skip
                exfalso; omega
          · skip
            refine r_ex hX hP 4 (pc' := 128) (st' := [(2, this)]) (lo' := [(0, (2, this)), (1, (0, i)), (2, (0, q7)), (3, (0, 0)), (4, (1, x11)), (6, (0, 1))]) rfl ?_
            refine r_getR hX hP rfl fl_X9_44_136 hS (fun lf33 lf33e lf33s => ?_)
            refine r_ex hX hP 1 (pc' := 132) (st' := [(0, q7), (2, lf33)]) (lo' := [(0, (2, this)), (1, (0, i)), (2, (0, q7)), (3, (0, 0)), (4, (1, x11)), (6, (0, 1))]) rfl ?_
            refine r_zald hX hP rfl al_126 lf33s (by first | decide | omega) (by first | decide | omega) (fun x34 x34e x34a x34b => ?_)
            refine r_if_eq hX hP rfl (tgt := 146) rfl (by first | decide | omega) (by first | decide | omega) (fun c35 => ?_) (fun c35 => ?_)
            · skip
              refine r_ex hX hP 1 (pc' := 147) (st' := [(0, 0)]) (lo' := [(0, (2, this)), (1, (0, i)), (2, (0, q7)), (3, (0, 0)), (4, (1, x11)), (6, (0, 1))]) rfl ?_
              exact r_retZ hX hP rfl rfl (by first | decide | omega) (by first | decide | omega) (by first | decide | omega) (by first | decide | omega) ⟨rfl, rfl, 0, rfl, (by first | decide | omega)⟩
            · skip
              refine r_ex hX hP 2 (pc' := 139) (st' := [(0, 0), (0, 1)]) (lo' := [(0, (2, this)), (1, (0, i)), (2, (0, q7)), (3, (0, 0)), (4, (1, x11)), (6, (0, 1))]) rfl ?_
              refine r_ic_eq hX hP rfl (tgt := 146) rfl (by first | decide | omega) (by first | decide | omega) (by first | decide | omega) (by first | decide | omega) (fun c36 => ?_) (fun c36 => ?_)
              · skip
                exfalso; omega
              · skip
                refine r_ex hX hP 2 (pc' := 147) (st' := [(0, 1)]) (lo' := [(0, (2, this)), (1, (0, i)), (2, (0, q7)), (3, (0, 0)), (4, (1, x11)), (6, (0, 1))]) rfl ?_
                exact r_retZ hX hP rfl rfl (by first | decide | omega) (by first | decide | omega) (by first | decide | omega) (by first | decide | omega) ⟨rfl, rfl, 1, rfl, (by first | decide | omega)⟩
      · skip
        refine r_ex hX hP 4 (pc' := 68) (st' := [(2, this)]) (lo' := [(0, (2, this)), (1, (0, i)), (2, (0, q7)), (3, (0, 1))]) rfl ?_
        refine r_getR hX hP rfl fl_X9_40_136 hS (fun hf37 hf37e hf37s => ?_)
        refine r_ex hX hP 1 (pc' := 72) (st' := [(0, 3), (2, hf37)]) (lo' := [(0, (2, this)), (1, (0, i)), (2, (0, q7)), (3, (0, 1))]) rfl ?_
        refine r_lald hX hP rfl al_125 hf37s (by first | decide | omega) (by first | decide | omega) (fun x38 x38e x38a x38b => ?_)
        refine r_ex hX hP 2 (pc' := 76) (st' := [(2, this)]) (lo' := [(0, (2, this)), (1, (0, i)), (2, (0, q7)), (3, (0, 1)), (4, (1, x38))]) rfl ?_
        refine r_getR hX hP rfl fl_X9_22_136 hS (fun qf39 qf39e qf39s => ?_)
        refine r_ex hX hP 1 (pc' := 80) (st' := [(0, q7), (2, qf39)]) (lo' := [(0, (2, this)), (1, (0, i)), (2, (0, q7)), (3, (0, 1)), (4, (1, x38))]) rfl ?_
        refine r_iald hX hP rfl al_121 qf39s (by first | decide | omega) (by first | decide | omega) (fun x40 x40e x40a x40b => ?_)
        refine r_ex hX hP 1 (pc' := 83) (st' := [(0, 60), (0, x40)]) (lo' := [(0, (2, this)), (1, (0, i)), (2, (0, q7)), (3, (0, 1)), (4, (1, x38))]) rfl ?_
        refine r_ic_ne hX hP rfl (tgt := 107) rfl (by first | decide | omega) (by first | decide | omega) (by first | decide | omega) (by first | decide | omega) (fun c41 => ?_) (fun c41 => ?_)
        · skip
          refine r_ex hX hP 2 (pc' := 110) (st' := [(2, this), (1, x38)]) (lo' := [(0, (2, this)), (1, (0, i)), (2, (0, q7)), (3, (0, 1)), (4, (1, x38))]) rfl ?_
          refine r_getR hX hP rfl fl_X9_19_136 hS (fun mf42 mf42e mf42s => ?_)
          refine r_ex hX hP 1 (pc' := 114) (st' := [(0, q7), (2, mf42), (1, x38)]) (lo' := [(0, (2, this)), (1, (0, i)), (2, (0, q7)), (3, (0, 1)), (4, (1, x38))]) rfl ?_
          refine r_iald hX hP rfl al_119 mf42s (by first | decide | omega) (by first | decide | omega) (fun x43 x43e x43a x43b => ?_)
          refine r_i2l hX hP rfl (by first | decide | omega) (by first | decide | omega) ?_
          refine r_lc_le hX hP rfl rfl (tgt := 124) rfl (by first | decide | omega) (by first | decide | omega) (by first | decide | omega) (by first | decide | omega) (fun c44 => ?_) (fun c44 => ?_)
          · skip
            refine r_ex hX hP 3 (pc' := 128) (st' := [(2, this)]) (lo' := [(0, (2, this)), (1, (0, i)), (2, (0, q7)), (3, (0, 1)), (4, (1, x38)), (6, (0, 0))]) rfl ?_
            refine r_getR hX hP rfl fl_X9_44_136 hS (fun lf45 lf45e lf45s => ?_)
            refine r_ex hX hP 1 (pc' := 132) (st' := [(0, q7), (2, lf45)]) (lo' := [(0, (2, this)), (1, (0, i)), (2, (0, q7)), (3, (0, 1)), (4, (1, x38)), (6, (0, 0))]) rfl ?_
            refine r_zald hX hP rfl al_126 lf45s (by first | decide | omega) (by first | decide | omega) (fun x46 x46e x46a x46b => ?_)
            refine r_if_eq hX hP rfl (tgt := 146) rfl (by first | decide | omega) (by first | decide | omega) (fun c47 => ?_) (fun c47 => ?_)
            · skip
              refine r_ex hX hP 1 (pc' := 147) (st' := [(0, 0)]) (lo' := [(0, (2, this)), (1, (0, i)), (2, (0, q7)), (3, (0, 1)), (4, (1, x38)), (6, (0, 0))]) rfl ?_
              exact r_retZ hX hP rfl rfl (by first | decide | omega) (by first | decide | omega) (by first | decide | omega) (by first | decide | omega) ⟨rfl, rfl, 0, rfl, (by first | decide | omega)⟩
            · skip
              refine r_ex hX hP 2 (pc' := 139) (st' := [(0, 1), (0, 0)]) (lo' := [(0, (2, this)), (1, (0, i)), (2, (0, q7)), (3, (0, 1)), (4, (1, x38)), (6, (0, 0))]) rfl ?_
              refine r_ic_eq hX hP rfl (tgt := 146) rfl (by first | decide | omega) (by first | decide | omega) (by first | decide | omega) (by first | decide | omega) (fun c48 => ?_) (fun c48 => ?_)
              · skip
                exfalso; omega
              · skip
                refine r_ex hX hP 2 (pc' := 147) (st' := [(0, 1)]) (lo' := [(0, (2, this)), (1, (0, i)), (2, (0, q7)), (3, (0, 1)), (4, (1, x38)), (6, (0, 0))]) rfl ?_
                exact r_retZ hX hP rfl rfl (by first | decide | omega) (by first | decide | omega) (by first | decide | omega) (by first | decide | omega) ⟨rfl, rfl, 1, rfl, (by first | decide | omega)⟩
          · skip
            refine r_ex hX hP 4 (pc' := 128) (st' := [(2, this)]) (lo' := [(0, (2, this)), (1, (0, i)), (2, (0, q7)), (3, (0, 1)), (4, (1, x38)), (6, (0, 1))]) rfl ?_
            refine r_getR hX hP rfl fl_X9_44_136 hS (fun lf49 lf49e lf49s => ?_)
            refine r_ex hX hP 1 (pc' := 132) (st' := [(0, q7), (2, lf49)]) (lo' := [(0, (2, this)), (1, (0, i)), (2, (0, q7)), (3, (0, 1)), (4, (1, x38)), (6, (0, 1))]) rfl ?_
            refine r_zald hX hP rfl al_126 lf49s (by first | decide | omega) (by first | decide | omega) (fun x50 x50e x50a x50b => ?_)
            refine r_if_eq hX hP rfl (tgt := 146) rfl (by first | decide | omega) (by first | decide | omega) (fun c51 => ?_) (fun c51 => ?_)
            · skip
              refine r_ex hX hP 1 (pc' := 147) (st' := [(0, 0)]) (lo' := [(0, (2, this)), (1, (0, i)), (2, (0, q7)), (3, (0, 1)), (4, (1, x38)), (6, (0, 1))]) rfl ?_
              exact r_retZ hX hP rfl rfl (by first | decide | omega) (by first | decide | omega) (by first | decide | omega) (by first | decide | omega) ⟨rfl, rfl, 0, rfl, (by first | decide | omega)⟩
            · skip
              refine r_ex hX hP 2 (pc' := 139) (st' := [(0, 1), (0, 1)]) (lo' := [(0, (2, this)), (1, (0, i)), (2, (0, q7)), (3, (0, 1)), (4, (1, x38)), (6, (0, 1))]) rfl ?_
              refine r_ic_eq hX hP rfl (tgt := 146) rfl (by first | decide | omega) (by first | decide | omega) (by first | decide | omega) (by first | decide | omega) (fun c52 => ?_) (fun c52 => ?_)
              · skip
                refine r_ex hX hP 1 (pc' := 147) (st' := [(0, 0)]) (lo' := [(0, (2, this)), (1, (0, i)), (2, (0, q7)), (3, (0, 1)), (4, (1, x38)), (6, (0, 1))]) rfl ?_
                exact r_retZ hX hP rfl rfl (by first | decide | omega) (by first | decide | omega) (by first | decide | omega) (by first | decide | omega) ⟨rfl, rfl, 0, rfl, (by first | decide | omega)⟩
              · skip
                exfalso; omega
        · skip
          refine r_ex hX hP 2 (pc' := 89) (st' := [(2, this), (1, x38)]) (lo' := [(0, (2, this)), (1, (0, i)), (2, (0, q7)), (3, (0, 1)), (4, (1, x38))]) rfl ?_
          refine r_getR hX hP rfl fl_X9_19_136 hS (fun mf53 mf53e mf53s => ?_)
          refine r_ex hX hP 1 (pc' := 93) (st' := [(0, q7), (2, mf53), (1, x38)]) (lo' := [(0, (2, this)), (1, (0, i)), (2, (0, q7)), (3, (0, 1)), (4, (1, x38))]) rfl ?_
          refine r_iald hX hP rfl al_119 mf53s (by first | decide | omega) (by first | decide | omega) (fun x54 x54e x54a x54b => ?_)
          refine r_i2l hX hP rfl (by first | decide | omega) (by first | decide | omega) ?_
          refine r_lc_ge hX hP rfl rfl (tgt := 103) rfl (by first | decide | omega) (by first | decide | omega) (by first | decide | omega) (by first | decide | omega) (fun c55 => ?_) (fun c55 => ?_)
          · skip
            refine r_ex hX hP 4 (pc' := 128) (st' := [(2, this)]) (lo' := [(0, (2, this)), (1, (0, i)), (2, (0, q7)), (3, (0, 1)), (4, (1, x38)), (6, (0, 0))]) rfl ?_
            refine r_getR hX hP rfl fl_X9_44_136 hS (fun lf56 lf56e lf56s => ?_)
            refine r_ex hX hP 1 (pc' := 132) (st' := [(0, q7), (2, lf56)]) (lo' := [(0, (2, this)), (1, (0, i)), (2, (0, q7)), (3, (0, 1)), (4, (1, x38)), (6, (0, 0))]) rfl ?_
            refine r_zald hX hP rfl al_126 lf56s (by first | decide | omega) (by first | decide | omega) (fun x57 x57e x57a x57b => ?_)
            refine r_if_eq hX hP rfl (tgt := 146) rfl (by first | decide | omega) (by first | decide | omega) (fun c58 => ?_) (fun c58 => ?_)
            · skip
              refine r_ex hX hP 1 (pc' := 147) (st' := [(0, 0)]) (lo' := [(0, (2, this)), (1, (0, i)), (2, (0, q7)), (3, (0, 1)), (4, (1, x38)), (6, (0, 0))]) rfl ?_
              exact r_retZ hX hP rfl rfl (by first | decide | omega) (by first | decide | omega) (by first | decide | omega) (by first | decide | omega) ⟨rfl, rfl, 0, rfl, (by first | decide | omega)⟩
            · skip
              refine r_ex hX hP 2 (pc' := 139) (st' := [(0, 1), (0, 0)]) (lo' := [(0, (2, this)), (1, (0, i)), (2, (0, q7)), (3, (0, 1)), (4, (1, x38)), (6, (0, 0))]) rfl ?_
              refine r_ic_eq hX hP rfl (tgt := 146) rfl (by first | decide | omega) (by first | decide | omega) (by first | decide | omega) (by first | decide | omega) (fun c59 => ?_) (fun c59 => ?_)
              · skip
                exfalso; omega
              · skip
                refine r_ex hX hP 2 (pc' := 147) (st' := [(0, 1)]) (lo' := [(0, (2, this)), (1, (0, i)), (2, (0, q7)), (3, (0, 1)), (4, (1, x38)), (6, (0, 0))]) rfl ?_
                exact r_retZ hX hP rfl rfl (by first | decide | omega) (by first | decide | omega) (by first | decide | omega) (by first | decide | omega) ⟨rfl, rfl, 1, rfl, (by first | decide | omega)⟩
          · skip
            refine r_ex hX hP 4 (pc' := 128) (st' := [(2, this)]) (lo' := [(0, (2, this)), (1, (0, i)), (2, (0, q7)), (3, (0, 1)), (4, (1, x38)), (6, (0, 1))]) rfl ?_
            refine r_getR hX hP rfl fl_X9_44_136 hS (fun lf60 lf60e lf60s => ?_)
            refine r_ex hX hP 1 (pc' := 132) (st' := [(0, q7), (2, lf60)]) (lo' := [(0, (2, this)), (1, (0, i)), (2, (0, q7)), (3, (0, 1)), (4, (1, x38)), (6, (0, 1))]) rfl ?_
            refine r_zald hX hP rfl al_126 lf60s (by first | decide | omega) (by first | decide | omega) (fun x61 x61e x61a x61b => ?_)
            refine r_if_eq hX hP rfl (tgt := 146) rfl (by first | decide | omega) (by first | decide | omega) (fun c62 => ?_) (fun c62 => ?_)
            · skip
              refine r_ex hX hP 1 (pc' := 147) (st' := [(0, 0)]) (lo' := [(0, (2, this)), (1, (0, i)), (2, (0, q7)), (3, (0, 1)), (4, (1, x38)), (6, (0, 1))]) rfl ?_
              exact r_retZ hX hP rfl rfl (by first | decide | omega) (by first | decide | omega) (by first | decide | omega) (by first | decide | omega) ⟨rfl, rfl, 0, rfl, (by first | decide | omega)⟩
            · skip
              refine r_ex hX hP 2 (pc' := 139) (st' := [(0, 1), (0, 1)]) (lo' := [(0, (2, this)), (1, (0, i)), (2, (0, q7)), (3, (0, 1)), (4, (1, x38)), (6, (0, 1))]) rfl ?_
              refine r_ic_eq hX hP rfl (tgt := 146) rfl (by first | decide | omega) (by first | decide | omega) (by first | decide | omega) (by first | decide | omega) (fun c63 => ?_) (fun c63 => ?_)
              · skip
                refine r_ex hX hP 1 (pc' := 147) (st' := [(0, 0)]) (lo' := [(0, (2, this)), (1, (0, i)), (2, (0, q7)), (3, (0, 1)), (4, (1, x38)), (6, (0, 1))]) rfl ?_
                exact r_retZ hX hP rfl rfl (by first | decide | omega) (by first | decide | omega) (by first | decide | omega) (by first | decide | omega) ⟨rfl, rfl, 0, rfl, (by first | decide | omega)⟩
              · skip
                exfalso; omega
    · skip
      refine r_ex hX hP 1 (pc' := 39) (st' := [(0, 1)]) (lo' := [(0, (2, this)), (1, (0, i))]) rfl ?_
      exact r_retZ hX hP rfl rfl (by first | decide | omega) (by first | decide | omega) (by first | decide | omega) (by first | decide | omega) ⟨rfl, rfl, 1, rfl, (by first | decide | omega)⟩
  · skip
    refine r_ex hX hP 1 (pc' := 11) (st' := [(2, this)]) (lo' := [(0, (2, this)), (1, (0, i))]) rfl ?_
    refine r_getR hX hP rfl fl_X9_40_136 hS (fun hf64 hf64e hf64s => ?_)
    refine r_ex hX hP 1 (pc' := 15) (st' := [(2, this), (2, hf64)]) (lo' := [(0, (2, this)), (1, (0, i))]) rfl ?_
    refine r_getKR hX hP rfl fl_X9_28_136 hS (x := rf1) rf1e ?_
    refine r_ex hX hP 1 (pc' := 19) (st' := [(0, i), (2, rf1), (2, hf64)]) (lo' := [(0, (2, this)), (1, (0, i))]) rfl ?_
    refine r_ialdK hX hP rfl al_122 rf1s (by first | decide | omega) (by first | decide | omega) (x := x2) x2e ?_
    refine r_lald hX hP rfl al_125 hf64s (by first | decide | omega) (by first | decide | omega) (fun x65 x65e x65a x65b => ?_)
    refine r_ex hX hP 1 (pc' := 22) (st' := [(1, 0), (1, x65)]) (lo' := [(0, (2, this)), (1, (0, i))]) rfl ?_
    refine r_lc_gt hX hP rfl rfl (tgt := 28) rfl (by first | decide | omega) (by first | decide | omega) (by first | decide | omega) (by first | decide | omega) (fun c66 => ?_) (fun c66 => ?_)
    · skip
      refine r_ex hX hP 1 (pc' := 29) (st' := [(2, this)]) (lo' := [(0, (2, this)), (1, (0, i))]) rfl ?_
      refine r_getR hX hP rfl fl_X9_31_136 hS (fun if67 if67e if67s => ?_)
      refine r_ex hX hP 1 (pc' := 33) (st' := [(0, i), (2, if67)]) (lo' := [(0, (2, this)), (1, (0, i))]) rfl ?_
      refine r_iald hX hP rfl al_123 if67s (by first | decide | omega) (by first | decide | omega) (fun x68 x68e x68a x68b => ?_)
      refine r_ex hX hP 1 (pc' := 35) (st' := [(0, (-1)), (0, x68)]) (lo' := [(0, (2, this)), (1, (0, i))]) rfl ?_
      refine r_ic_ne hX hP rfl (tgt := 40) rfl (by first | decide | omega) (by first | decide | omega) (by first | decide | omega) (by first | decide | omega) (fun c69 => ?_) (fun c69 => ?_)
      · skip
        refine r_ex hX hP 1 (pc' := 41) (st' := [(2, this)]) (lo' := [(0, (2, this)), (1, (0, i))]) rfl ?_
        refine r_getKR hX hP rfl fl_X9_31_136 hS (x := if67) if67e ?_
        refine r_ex hX hP 1 (pc' := 45) (st' := [(0, i), (2, if67)]) (lo' := [(0, (2, this)), (1, (0, i))]) rfl ?_
        refine r_ialdK hX hP rfl al_123 if67s (by first | decide | omega) (by first | decide | omega) (x := x68) x68e ?_
        refine r_ex hX hP 1 (pc' := 47) (st' := [(0, 2), (0, x68)]) (lo' := [(0, (2, this)), (1, (0, i))]) rfl ?_
        refine r_idiv hX hP rfl (by first | decide | omega) (by first | decide | omega) (by first | decide | omega) (by first | decide | omega) (by first | decide | omega) ?_
        obtain ⟨q70, q70e⟩ : ∃ q : Int, q = (Int.tdiv x68 2) := ⟨_, rfl⟩
        rw [← q70e]
        have q70b := td_pos q70e (by first | decide | omega) (by first | decide | omega)
        refine r_ex hX hP 2 (pc' := 50) (st' := [(2, this)]) (lo' := [(0, (2, this)), (1, (0, i)), (2, (0, q70))]) rfl ?_
        refine r_getKR hX hP rfl fl_X9_31_136 hS (x := if67) if67e ?_
        refine r_ex hX hP 1 (pc' := 54) (st' := [(0, i), (2, if67)]) (lo' := [(0, (2, this)), (1, (0, i)), (2, (0, q70))]) rfl ?_
        refine r_ialdK hX hP rfl al_123 if67s (by first | decide | omega) (by first | decide | omega) (x := x68) x68e ?_
        refine r_ex hX hP 1 (pc' := 56) (st' := [(0, 2), (0, x68)]) (lo' := [(0, (2, this)), (1, (0, i)), (2, (0, q70))]) rfl ?_
        refine r_irem hX hP rfl (by first | decide | omega) (by first | decide | omega) (by first | decide | omega) (by first | decide | omega) (by first | decide | omega) ?_
        obtain ⟨q71, q71e⟩ : ∃ q : Int, q = (Int.tmod x68 2) := ⟨_, rfl⟩
        rw [← q71e]
        have q71b := tm_pos q71e (by first | decide | omega) (by first | decide | omega)
        refine r_ex hX hP 1 (pc' := 58) (st' := [(0, 1), (0, q71)]) (lo' := [(0, (2, this)), (1, (0, i)), (2, (0, q70))]) rfl ?_
        refine r_ic_ne hX hP rfl (tgt := 65) rfl (by first | decide | omega) (by first | decide | omega) (by first | decide | omega) (by first | decide | omega) (fun c72 => ?_) (fun c72 => ?_)
        · skip
          refine r_ex hX hP 3 (pc' := 68) (st' := [(2, this)]) (lo' := [(0, (2, this)), (1, (0, i)), (2, (0, q70)), (3, (0, 0))]) rfl ?_
          refine r_getKR hX hP rfl fl_X9_40_136 hS (x := hf64) hf64e ?_
          refine r_ex hX hP 1 (pc' := 72) (st' := [(0, 3), (2, hf64)]) (lo' := [(0, (2, this)), (1, (0, i)), (2, (0, q70)), (3, (0, 0))]) rfl ?_
          refine r_lald hX hP rfl al_125 hf64s (by first | decide | omega) (by first | decide | omega) (fun x73 x73e x73a x73b => ?_)
          refine r_ex hX hP 2 (pc' := 76) (st' := [(2, this)]) (lo' := [(0, (2, this)), (1, (0, i)), (2, (0, q70)), (3, (0, 0)), (4, (1, x73))]) rfl ?_
          refine r_getR hX hP rfl fl_X9_22_136 hS (fun qf74 qf74e qf74s => ?_)
          refine r_ex hX hP 1 (pc' := 80) (st' := [(0, q70), (2, qf74)]) (lo' := [(0, (2, this)), (1, (0, i)), (2, (0, q70)), (3, (0, 0)), (4, (1, x73))]) rfl ?_
          refine r_iald hX hP rfl al_121 qf74s (by first | decide | omega) (by first | decide | omega) (fun x75 x75e x75a x75b => ?_)
          refine r_ex hX hP 1 (pc' := 83) (st' := [(0, 60), (0, x75)]) (lo' := [(0, (2, this)), (1, (0, i)), (2, (0, q70)), (3, (0, 0)), (4, (1, x73))]) rfl ?_
          refine r_ic_ne hX hP rfl (tgt := 107) rfl (by first | decide | omega) (by first | decide | omega) (by first | decide | omega) (by first | decide | omega) (fun c76 => ?_) (fun c76 => ?_)
          · skip
            refine r_ex hX hP 2 (pc' := 110) (st' := [(2, this), (1, x73)]) (lo' := [(0, (2, this)), (1, (0, i)), (2, (0, q70)), (3, (0, 0)), (4, (1, x73))]) rfl ?_
            refine r_getR hX hP rfl fl_X9_19_136 hS (fun mf77 mf77e mf77s => ?_)
            refine r_ex hX hP 1 (pc' := 114) (st' := [(0, q70), (2, mf77), (1, x73)]) (lo' := [(0, (2, this)), (1, (0, i)), (2, (0, q70)), (3, (0, 0)), (4, (1, x73))]) rfl ?_
            refine r_iald hX hP rfl al_119 mf77s (by first | decide | omega) (by first | decide | omega) (fun x78 x78e x78a x78b => ?_)
            refine r_i2l hX hP rfl (by first | decide | omega) (by first | decide | omega) ?_
            refine r_lc_le hX hP rfl rfl (tgt := 124) rfl (by first | decide | omega) (by first | decide | omega) (by first | decide | omega) (by first | decide | omega) (fun c79 => ?_) (fun c79 => ?_)
            · skip
              refine r_ex hX hP 3 (pc' := 128) (st' := [(2, this)]) (lo' := [(0, (2, this)), (1, (0, i)), (2, (0, q70)), (3, (0, 0)), (4, (1, x73)), (6, (0, 0))]) rfl ?_
              refine r_getR hX hP rfl fl_X9_44_136 hS (fun lf80 lf80e lf80s => ?_)
              refine r_ex hX hP 1 (pc' := 132) (st' := [(0, q70), (2, lf80)]) (lo' := [(0, (2, this)), (1, (0, i)), (2, (0, q70)), (3, (0, 0)), (4, (1, x73)), (6, (0, 0))]) rfl ?_
              refine r_zald hX hP rfl al_126 lf80s (by first | decide | omega) (by first | decide | omega) (fun x81 x81e x81a x81b => ?_)
              refine r_if_eq hX hP rfl (tgt := 146) rfl (by first | decide | omega) (by first | decide | omega) (fun c82 => ?_) (fun c82 => ?_)
              · skip
                refine r_ex hX hP 1 (pc' := 147) (st' := [(0, 0)]) (lo' := [(0, (2, this)), (1, (0, i)), (2, (0, q70)), (3, (0, 0)), (4, (1, x73)), (6, (0, 0))]) rfl ?_
                exact r_retZ hX hP rfl rfl (by first | decide | omega) (by first | decide | omega) (by first | decide | omega) (by first | decide | omega) ⟨rfl, rfl, 0, rfl, (by first | decide | omega)⟩
              · skip
                refine r_ex hX hP 2 (pc' := 139) (st' := [(0, 0), (0, 0)]) (lo' := [(0, (2, this)), (1, (0, i)), (2, (0, q70)), (3, (0, 0)), (4, (1, x73)), (6, (0, 0))]) rfl ?_
                refine r_ic_eq hX hP rfl (tgt := 146) rfl (by first | decide | omega) (by first | decide | omega) (by first | decide | omega) (by first | decide | omega) (fun c83 => ?_) (fun c83 => ?_)
                · skip
                  refine r_ex hX hP 1 (pc' := 147) (st' := [(0, 0)]) (lo' := [(0, (2, this)), (1, (0, i)), (2, (0, q70)), (3, (0, 0)), (4, (1, x73)), (6, (0, 0))]) rfl ?_
                  exact r_retZ hX hP rfl rfl (by first | decide | omega) (by first | decide | omega) (by first | decide | omega) (by first | decide | omega) ⟨rfl, rfl, 0, rfl, (by first | decide | omega)⟩
                · skip
                  exfalso; omega
            · skip
              refine r_ex hX hP 4 (pc' := 128) (st' := [(2, this)]) (lo' := [(0, (2, this)), (1, (0, i)), (2, (0, q70)), (3, (0, 0)), (4, (1, x73)), (6, (0, 1))]) rfl ?_
              refine r_getR hX hP rfl fl_X9_44_136 hS (fun lf84 lf84e lf84s => ?_)
              refine r_ex hX hP 1 (pc' := 132) (st' := [(0, q70), (2, lf84)]) (lo' := [(0, (2, this)), (1, (0, i)), (2, (0, q70)), (3, (0, 0)), (4, (1, x73)), (6, (0, 1))]) rfl ?_
              refine r_zald hX hP rfl al_126 lf84s (by first | decide | omega) (by first | decide | omega) (fun x85 x85e x85a x85b => ?_)
              refine r_if_eq hX hP rfl (tgt := 146) rfl (by first | decide | omega) (by first | decide | omega) (fun c86 => ?_) (fun c86 => ?_)
              · skip
                refine r_ex hX hP 1 (pc' := 147) (st' := [(0, 0)]) (lo' := [(0, (2, this)), (1, (0, i)), (2, (0, q70)), (3, (0, 0)), (4, (1, x73)), (6, (0, 1))]) rfl ?_
                exact r_retZ hX hP rfl rfl (by first | decide | omega) (by first | decide | omega) (by first | decide | omega) (by first | decide | omega) ⟨rfl, rfl, 0, rfl, (by first | decide | omega)⟩
              · skip
                refine r_ex hX hP 2 (pc' := 139) (st' := [(0, 0), (0, 1)]) (lo' := [(0, (2, this)), (1, (0, i)), (2, (0, q70)), (3, (0, 0)), (4, (1, x73)), (6, (0, 1))]) rfl ?_
                refine r_ic_eq hX hP rfl (tgt := 146) rfl (by first | decide | omega) (by first | decide | omega) (by first | decide | omega) (by first | decide | omega) (fun c87 => ?_) (fun c87 => ?_)
                · skip
                  exfalso; omega
                · skip
                  refine r_ex hX hP 2 (pc' := 147) (st' := [(0, 1)]) (lo' := [(0, (2, this)), (1, (0, i)), (2, (0, q70)), (3, (0, 0)), (4, (1, x73)), (6, (0, 1))]) rfl ?_
                  exact r_retZ hX hP rfl rfl (by first | decide | omega) (by first | decide | omega) (by first | decide | omega) (by first | decide | omega) ⟨rfl, rfl, 1, rfl, (by first | decide | omega)⟩
          · skip
            refine r_ex hX hP 2 (pc' := 89) (st' := [(2, this), (1, x73)]) (lo' := [(0, (2, this)), (1, (0, i)), (2, (0, q70)), (3, (0, 0)), (4, (1, x73))]) rfl ?_
            refine r_getR hX hP rfl fl_X9_19_136 hS (fun mf88 mf88e mf88s => ?_)
            refine r_ex hX hP 1 (pc' := 93) (st' := [(0, q70), (2, mf88), (1, x73)]) (lo' := [(0, (2, this)), (1, (0, i)), (2, (0, q70)), (3, (0, 0)), (4, (1, x73))]) rfl ?_
            refine r_iald hX hP rfl al_119 mf88s (by first | decide | omega) (by first | decide | omega) (fun x89 x89e x89a x89b => ?_)
            refine r_i2l hX hP rfl (by first | decide | omega) (by first | decide | omega) ?_
            refine r_lc_ge hX hP rfl rfl (tgt := 103) rfl (by first | decide | omega) (by first | decide | omega) (by first | decide | omega) (by first | decide | omega) (fun c90 => ?_) (fun c90 => ?_)
            · skip
              refine r_ex hX hP 4 (pc' := 128) (st' := [(2, this)]) (lo' := [(0, (2, this)), (1, (0, i)), (2, (0, q70)), (3, (0, 0)), (4, (1, x73)), (6, (0, 0))]) rfl ?_
              refine r_getR hX hP rfl fl_X9_44_136 hS (fun lf91 lf91e lf91s => ?_)
              refine r_ex hX hP 1 (pc' := 132) (st' := [(0, q70), (2, lf91)]) (lo' := [(0, (2, this)), (1, (0, i)), (2, (0, q70)), (3, (0, 0)), (4, (1, x73)), (6, (0, 0))]) rfl ?_
              refine r_zald hX hP rfl al_126 lf91s (by first | decide | omega) (by first | decide | omega) (fun x92 x92e x92a x92b => ?_)
              refine r_if_eq hX hP rfl (tgt := 146) rfl (by first | decide | omega) (by first | decide | omega) (fun c93 => ?_) (fun c93 => ?_)
              · skip
                refine r_ex hX hP 1 (pc' := 147) (st' := [(0, 0)]) (lo' := [(0, (2, this)), (1, (0, i)), (2, (0, q70)), (3, (0, 0)), (4, (1, x73)), (6, (0, 0))]) rfl ?_
                exact r_retZ hX hP rfl rfl (by first | decide | omega) (by first | decide | omega) (by first | decide | omega) (by first | decide | omega) ⟨rfl, rfl, 0, rfl, (by first | decide | omega)⟩
              · skip
                refine r_ex hX hP 2 (pc' := 139) (st' := [(0, 0), (0, 0)]) (lo' := [(0, (2, this)), (1, (0, i)), (2, (0, q70)), (3, (0, 0)), (4, (1, x73)), (6, (0, 0))]) rfl ?_
                refine r_ic_eq hX hP rfl (tgt := 146) rfl (by first | decide | omega) (by first | decide | omega) (by first | decide | omega) (by first | decide | omega) (fun c94 => ?_) (fun c94 => ?_)
                · skip
                  refine r_ex hX hP 1 (pc' := 147) (st' := [(0, 0)]) (lo' := [(0, (2, this)), (1, (0, i)), (2, (0, q70)), (3, (0, 0)), (4, (1, x73)), (6, (0, 0))]) rfl ?_
                  exact r_retZ hX hP rfl rfl (by first | decide | omega) (by first | decide | omega) (by first | decide | omega) (by first | decide | omega) ⟨rfl, rfl, 0, rfl, (by first | decide | omega)⟩
                · skip
                  exfalso; omega
            · skip
              refine r_ex hX hP 4 (pc' := 128) (st' := [(2, this)]) (lo' := [(0, (2, this)), (1, (0, i)), (2, (0, q70)), (3, (0, 0)), (4, (1, x73)), (6, (0, 1))]) rfl ?_
              refine r_getR hX hP rfl fl_X9_44_136 hS (fun lf95 lf95e lf95s => ?_)
              refine r_ex hX hP 1 (pc' := 132) (st' := [(0, q70), (2, lf95)]) (lo' := [(0, (2, this)), (1, (0, i)), (2, (0, q70)), (3, (0, 0)), (4, (1, x73)), (6, (0, 1))]) rfl ?_
              refine r_zald hX hP rfl al_126 lf95s (by first | decide | omega) (by first | decide | omega) (fun x96 x96e x96a x96b => ?_)
              refine r_if_eq hX hP rfl (tgt := 146) rfl (by first | decide | omega) (by first | decide | omega) (fun c97 => ?_) (fun c97 => ?_)
              · skip
                refine r_ex hX hP 1 (pc' := 147) (st' := [(0, 0)]) (lo' := [(0, (2, this)), (1, (0, i)), (2, (0, q70)), (3, (0, 0)), (4, (1, x73)), (6, (0, 1))]) rfl ?_
                exact r_retZ hX hP rfl rfl (by first | decide | omega) (by first | decide | omega) (by first | decide | omega) (by first | decide | omega) ⟨rfl, rfl, 0, rfl, (by first | decide | omega)⟩
              · skip
                refine r_ex hX hP 2 (pc' := 139) (st' := [(0, 0), (0, 1)]) (lo' := [(0, (2, this)), (1, (0, i)), (2, (0, q70)), (3, (0, 0)), (4, (1, x73)), (6, (0, 1))]) rfl ?_
                refine r_ic_eq hX hP rfl (tgt := 146) rfl (by first | decide | omega) (by first | decide | omega) (by first | decide | omega) (by first | decide | omega) (fun c98 => ?_) (fun c98 => ?_)
                · skip
                  exfalso; omega
                · skip
                  refine r_ex hX hP 2 (pc' := 147) (st' := [(0, 1)]) (lo' := [(0, (2, this)), (1, (0, i)), (2, (0, q70)), (3, (0, 0)), (4, (1, x73)), (6, (0, 1))]) rfl ?_
                  exact r_retZ hX hP rfl rfl (by first | decide | omega) (by first | decide | omega) (by first | decide | omega) (by first | decide | omega) ⟨rfl, rfl, 1, rfl, (by first | decide | omega)⟩
        · skip
          refine r_ex hX hP 4 (pc' := 68) (st' := [(2, this)]) (lo' := [(0, (2, this)), (1, (0, i)), (2, (0, q70)), (3, (0, 1))]) rfl ?_
          refine r_getKR hX hP rfl fl_X9_40_136 hS (x := hf64) hf64e ?_
          refine r_ex hX hP 1 (pc' := 72) (st' := [(0, 3), (2, hf64)]) (lo' := [(0, (2, this)), (1, (0, i)), (2, (0, q70)), (3, (0, 1))]) rfl ?_
          refine r_lald hX hP rfl al_125 hf64s (by first | decide | omega) (by first | decide | omega) (fun x99 x99e x99a x99b => ?_)
          refine r_ex hX hP 2 (pc' := 76) (st' := [(2, this)]) (lo' := [(0, (2, this)), (1, (0, i)), (2, (0, q70)), (3, (0, 1)), (4, (1, x99))]) rfl ?_
          refine r_getR hX hP rfl fl_X9_22_136 hS (fun qf100 qf100e qf100s => ?_)
          refine r_ex hX hP 1 (pc' := 80) (st' := [(0, q70), (2, qf100)]) (lo' := [(0, (2, this)), (1, (0, i)), (2, (0, q70)), (3, (0, 1)), (4, (1, x99))]) rfl ?_
          refine r_iald hX hP rfl al_121 qf100s (by first | decide | omega) (by first | decide | omega) (fun x101 x101e x101a x101b => ?_)
          refine r_ex hX hP 1 (pc' := 83) (st' := [(0, 60), (0, x101)]) (lo' := [(0, (2, this)), (1, (0, i)), (2, (0, q70)), (3, (0, 1)), (4, (1, x99))]) rfl ?_
          refine r_ic_ne hX hP rfl (tgt := 107) rfl (by first | decide | omega) (by first | decide | omega) (by first | decide | omega) (by first | decide | omega) (fun c102 => ?_) (fun c102 => ?_)
          · skip
            refine r_ex hX hP 2 (pc' := 110) (st' := [(2, this), (1, x99)]) (lo' := [(0, (2, this)), (1, (0, i)), (2, (0, q70)), (3, (0, 1)), (4, (1, x99))]) rfl ?_
            refine r_getR hX hP rfl fl_X9_19_136 hS (fun mf103 mf103e mf103s => ?_)
            refine r_ex hX hP 1 (pc' := 114) (st' := [(0, q70), (2, mf103), (1, x99)]) (lo' := [(0, (2, this)), (1, (0, i)), (2, (0, q70)), (3, (0, 1)), (4, (1, x99))]) rfl ?_
            refine r_iald hX hP rfl al_119 mf103s (by first | decide | omega) (by first | decide | omega) (fun x104 x104e x104a x104b => ?_)
            refine r_i2l hX hP rfl (by first | decide | omega) (by first | decide | omega) ?_
            refine r_lc_le hX hP rfl rfl (tgt := 124) rfl (by first | decide | omega) (by first | decide | omega) (by first | decide | omega) (by first | decide | omega) (fun c105 => ?_) (fun c105 => ?_)
            · skip
              refine r_ex hX hP 3 (pc' := 128) (st' := [(2, this)]) (lo' := [(0, (2, this)), (1, (0, i)), (2, (0, q70)), (3, (0, 1)), (4, (1, x99)), (6, (0, 0))]) rfl ?_
              refine r_getR hX hP rfl fl_X9_44_136 hS (fun lf106 lf106e lf106s => ?_)
              refine r_ex hX hP 1 (pc' := 132) (st' := [(0, q70), (2, lf106)]) (lo' := [(0, (2, this)), (1, (0, i)), (2, (0, q70)), (3, (0, 1)), (4, (1, x99)), (6, (0, 0))]) rfl ?_
              refine r_zald hX hP rfl al_126 lf106s (by first | decide | omega) (by first | decide | omega) (fun x107 x107e x107a x107b => ?_)
              refine r_if_eq hX hP rfl (tgt := 146) rfl (by first | decide | omega) (by first | decide | omega) (fun c108 => ?_) (fun c108 => ?_)
              · skip
                refine r_ex hX hP 1 (pc' := 147) (st' := [(0, 0)]) (lo' := [(0, (2, this)), (1, (0, i)), (2, (0, q70)), (3, (0, 1)), (4, (1, x99)), (6, (0, 0))]) rfl ?_
                exact r_retZ hX hP rfl rfl (by first | decide | omega) (by first | decide | omega) (by first | decide | omega) (by first | decide | omega) ⟨rfl, rfl, 0, rfl, (by first | decide | omega)⟩
              · skip
                refine r_ex hX hP 2 (pc' := 139) (st' := [(0, 1), (0, 0)]) (lo' := [(0, (2, this)), (1, (0, i)), (2, (0, q70)), (3, (0, 1)), (4, (1, x99)), (6, (0, 0))]) rfl ?_
                refine r_ic_eq hX hP rfl (tgt := 146) rfl (by first | decide | omega) (by first | decide | omega) (by first | decide | omega) (by first | decide | omega) (fun c109 => ?_) (fun c109 => ?_)
                · skip
                  exfalso; omega
                · skip
                  refine r_ex hX hP 2 (pc' := 147) (st' := [(0, 1)]) (lo' := [(0, (2, this)), (1, (0, i)), (2, (0, q70)), (3, (0, 1)), (4, (1, x99)), (6, (0, 0))]) rfl ?_
                  exact r_retZ hX hP rfl rfl (by first | decide | omega) (by first | decide | omega) (by first | decide | omega) (by first | decide | omega) ⟨rfl, rfl, 1, rfl, (by first | decide | omega)⟩
            · skip
              refine r_ex hX hP 4 (pc' := 128) (st' := [(2, this)]) (lo' := [(0, (2, this)), (1, (0, i)), (2, (0, q70)), (3, (0, 1)), (4, (1, x99)), (6, (0, 1))]) rfl ?_
              refine r_getR hX hP rfl fl_X9_44_136 hS (fun lf110 lf110e lf110s => ?_)
              refine r_ex hX hP 1 (pc' := 132) (st' := [(0, q70), (2, lf110)]) (lo' := [(0, (2, this)), (1, (0, i)), (2, (0, q70)), (3, (0, 1)), (4, (1, x99)), (6, (0, 1))]) rfl ?_
              refine r_zald hX hP rfl al_126 lf110s (by first | decide | omega) (by first | decide | omega) (fun x111 x111e x111a x111b => ?_)
              refine r_if_eq hX hP rfl (tgt := 146) rfl (by first | decide | omega) (by first | decide | omega) (fun c112 => ?_) (fun c112 => ?_)
              · skip
                refine r_ex hX hP 1 (pc' := 147) (st' := [(0, 0)]) (lo' := [(0, (2, this)), (1, (0, i)), (2, (0, q70)), (3, (0, 1)), (4, (1, x99)), (6, (0, 1))]) rfl ?_
                exact r_retZ hX hP rfl rfl (by first | decide | omega) (by first | decide | omega) (by first | decide | omega) (by first | decide | omega) ⟨rfl, rfl, 0, rfl, (by first | decide | omega)⟩
              · skip
                refine r_ex hX hP 2 (pc' := 139) (st' := [(0, 1), (0, 1)]) (lo' := [(0, (2, this)), (1, (0, i)), (2, (0, q70)), (3, (0, 1)), (4, (1, x99)), (6, (0, 1))]) rfl ?_
                refine r_ic_eq hX hP rfl (tgt := 146) rfl (by first | decide | omega) (by first | decide | omega) (by first | decide | omega) (by first | decide | omega) (fun c113 => ?_) (fun c113 => ?_)
                · skip
                  refine r_ex hX hP 1 (pc' := 147) (st' := [(0, 0)]) (lo' := [(0, (2, this)), (1, (0, i)), (2, (0, q70)), (3, (0, 1)), (4, (1, x99)), (6, (0, 1))]) rfl ?_
                  exact r_retZ hX hP rfl rfl (by first | decide | omega) (by first | decide | omega) (by first | decide | omega) (by first | decide | omega) ⟨rfl, rfl, 0, rfl, (by first | decide | omega)⟩
                · skip
                  exfalso; omega
          · skip
            refine r_ex hX hP 2 (pc' := 89) (st' := [(2, this), (1, x99)]) (lo' := [(0, (2, this)), (1, (0, i)), (2, (0, q70)), (3, (0, 1)), (4, (1, x99))]) rfl ?_
            refine r_getR hX hP rfl fl_X9_19_136 hS (fun mf114 mf114e mf114s => ?_)
            refine r_ex hX hP 1 (pc' := 93) (st' := [(0, q70), (2, mf114), (1, x99)]) (lo' := [(0, (2, this)), (1, (0, i)), (2, (0, q70)), (3, (0, 1)), (4, (1, x99))]) rfl ?_
            refine r_iald hX hP rfl al_119 mf114s (by first | decide | omega) (by first | decide | omega) (fun x115 x115e x115a x115b => ?_)
            refine r_i2l hX hP rfl (by first | decide | omega) (by first | decide | omega) ?_
            refine r_lc_ge hX hP rfl rfl (tgt := 103) rfl (by first | decide | omega) (by first | decide | omega) (by first | decide | omega) (by first | decide | omega) (fun c116 => ?_) (fun c116 => ?_)
            · skip
              refine r_ex hX hP 4 (pc' := 128) (st' := [(2, this)]) (lo' := [(0, (2, this)), (1, (0, i)), (2, (0, q70)), (3, (0, 1)), (4, (1, x99)), (6, (0, 0))]) rfl ?_
              refine r_getR hX hP rfl fl_X9_44_136 hS (fun lf117 lf117e lf117s => ?_)
              refine r_ex hX hP 1 (pc' := 132) (st' := [(0, q70), (2, lf117)]) (lo' := [(0, (2, this)), (1, (0, i)), (2, (0, q70)), (3, (0, 1)), (4, (1, x99)), (6, (0, 0))]) rfl ?_
              refine r_zald hX hP rfl al_126 lf117s (by first | decide | omega) (by first | decide | omega) (fun x118 x118e x118a x118b => ?_)
              refine r_if_eq hX hP rfl (tgt := 146) rfl (by first | decide | omega) (by first | decide | omega) (fun c119 => ?_) (fun c119 => ?_)
              · skip
                refine r_ex hX hP 1 (pc' := 147) (st' := [(0, 0)]) (lo' := [(0, (2, this)), (1, (0, i)), (2, (0, q70)), (3, (0, 1)), (4, (1, x99)), (6, (0, 0))]) rfl ?_
                exact r_retZ hX hP rfl rfl (by first | decide | omega) (by first | decide | omega) (by first | decide | omega) (by first | decide | omega) ⟨rfl, rfl, 0, rfl, (by first | decide | omega)⟩
              · skip
                refine r_ex hX hP 2 (pc' := 139) (st' := [(0, 1), (0, 0)]) (lo' := [(0, (2, this)), (1, (0, i)), (2, (0, q70)), (3, (0, 1)), (4, (1, x99)), (6, (0, 0))]) rfl ?_
                refine r_ic_eq hX hP rfl (tgt := 146) rfl (by first | decide | omega) (by first | decide | omega) (by first | decide | omega) (by first | decide | omega) (fun c120 => ?_) (fun c120 => ?_)
                · skip
                  exfalso; omega
                · skip
                  refine r_ex hX hP 2 (pc' := 147) (st' := [(0, 1)]) (lo' := [(0, (2, this)), (1, (0, i)), (2, (0, q70)), (3, (0, 1)), (4, (1, x99)), (6, (0, 0))]) rfl ?_
                  exact r_retZ hX hP rfl rfl (by first | decide | omega) (by first | decide | omega) (by first | decide | omega) (by first | decide | omega) ⟨rfl, rfl, 1, rfl, (by first | decide | omega)⟩
            · skip
              refine r_ex hX hP 4 (pc' := 128) (st' := [(2, this)]) (lo' := [(0, (2, this)), (1, (0, i)), (2, (0, q70)), (3, (0, 1)), (4, (1, x99)), (6, (0, 1))]) rfl ?_
              refine r_getR hX hP rfl fl_X9_44_136 hS (fun lf121 lf121e lf121s => ?_)
              refine r_ex hX hP 1 (pc' := 132) (st' := [(0, q70), (2, lf121)]) (lo' := [(0, (2, this)), (1, (0, i)), (2, (0, q70)), (3, (0, 1)), (4, (1, x99)), (6, (0, 1))]) rfl ?_
              refine r_zald hX hP rfl al_126 lf121s (by first | decide | omega) (by first | decide | omega) (fun x122 x122e x122a x122b => ?_)
              refine r_if_eq hX hP rfl (tgt := 146) rfl (by first | decide | omega) (by first | decide | omega) (fun c123 => ?_) (fun c123 => ?_)
              · skip
                refine r_ex hX hP 1 (pc' := 147) (st' := [(0, 0)]) (lo' := [(0, (2, this)), (1, (0, i)), (2, (0, q70)), (3, (0, 1)), (4, (1, x99)), (6, (0, 1))]) rfl ?_
                exact r_retZ hX hP rfl rfl (by first | decide | omega) (by first | decide | omega) (by first | decide | omega) (by first | decide | omega) ⟨rfl, rfl, 0, rfl, (by first | decide | omega)⟩
              · skip
                refine r_ex hX hP 2 (pc' := 139) (st' := [(0, 1), (0, 1)]) (lo' := [(0, (2, this)), (1, (0, i)), (2, (0, q70)), (3, (0, 1)), (4, (1, x99)), (6, (0, 1))]) rfl ?_
                refine r_ic_eq hX hP rfl (tgt := 146) rfl (by first | decide | omega) (by first | decide | omega) (by first | decide | omega) (by first | decide | omega) (fun c124 => ?_) (fun c124 => ?_)
                · skip
                  refine r_ex hX hP 1 (pc' := 147) (st' := [(0, 0)]) (lo' := [(0, (2, this)), (1, (0, i)), (2, (0, q70)), (3, (0, 1)), (4, (1, x99)), (6, (0, 1))]) rfl ?_
                  exact r_retZ hX hP rfl rfl (by first | decide | omega) (by first | decide | omega) (by first | decide | omega) (by first | decide | omega) ⟨rfl, rfl, 0, rfl, (by first | decide | omega)⟩
                · skip
                  exfalso; omega
      · skip
        refine r_ex hX hP 1 (pc' := 39) (st' := [(0, 1)]) (lo' := [(0, (2, this)), (1, (0, i))]) rfl ?_
        exact r_retZ hX hP rfl rfl (by first | decide | omega) (by first | decide | omega) (by first | decide | omega) (by first | decide | omega) ⟨rfl, rfl, 1, rfl, (by first | decide | omega)⟩
    · skip
      refine r_ex hX hP 1 (pc' := 27) (st' := [(0, 0)]) (lo' := [(0, (2, this)), (1, (0, i))]) rfl ?_
      exact r_retZ hX hP rfl rfl (by first | decide | omega) (by first | decide | omega) (by first | decide | omega) (by first | decide | omega) ⟨rfl, rfl, 0, rfl, (by first | decide | omega)⟩
set_option maxRecDepth 100000 in
set_option maxHeartbeats 4000000 in
theorem c_X9_isOneMore (E : En) (S : Sg) (G : Gh) (this : Int) (i : Int) (rest : Int) (hS : S this = 136) (i_a : 0 ≤ i) (i_b : i ≤ 29) (rest_a : (-9223372036854775808) ≤ rest) (rest_b : rest ≤ 9223372036854775807) : Calls E mX9_isOneMore [(2, this), (0, i), (1, rest)] S G 0 0 0 (fun r S' G' => S = S' ∧ G = G' ∧ ∃ z : Int, r = some (0, z) ∧ 0 ≤ z ∧ z ≤ 1) := by
  refine calls_by [(0, (2, this)), (1, (0, i)), (2, (1, rest))] rfl rfl (Nat.le_of_ble_eq_true rfl) (fun X hX => ?_)
  have hP := hPX9_isOneMore
  refine r_ex hX hP 1 (pc' := 1) (st' := [(2, this)]) (lo' := [(0, (2, this)), (1, (0, i)), (2, (1, rest))]) rfl ?_
  refine r_getR hX hP rfl fl_X9_48_136 hS (fun rf1 rf1e rf1s => ?_)
  refine r_ex hX hP 1 (pc' := 5) (st' := [(0, i), (2, rf1)]) (lo' := [(0, (2, this)), (1, (0, i)), (2, (1, rest))]) rfl ?_
  refine r_iald hX hP rfl al_119 rf1s (by first | decide | omega) (by first | decide | omega) (fun x2 x2e x2a x2b => ?_)
  refine r_ex hX hP 1 (pc' := 7) (st' := [(0, 1), (0, x2)]) (lo' := [(0, (2, this)), (1, (0, i)), (2, (1, rest))]) rfl ?_
  refine r_ic_ne hX hP rfl (tgt := 16) rfl (by first | decide | omega) (by first | decide | omega) (by first | decide | omega) (by first | decide | omega) (fun c3 => ?_) (fun c3 => ?_)
  · skip
    refine r_ex hX hP 1 (pc' := 17) (st' := [(2, this)]) (lo' := [(0, (2, this)), (1, (0, i)), (2, (1, rest))]) rfl ?_
    refine r_getKR hX hP rfl fl_X9_48_136 hS (x := rf1) rf1e ?_
    refine r_ex hX hP 1 (pc' := 21) (st' := [(0, i), (2, rf1)]) (lo' := [(0, (2, this)), (1, (0, i)), (2, (1, rest))]) rfl ?_
    refine r_ialdK hX hP rfl al_119 rf1s (by first | decide | omega) (by first | decide | omega) (x := x2) x2e ?_
    refine r_ex hX hP 1 (pc' := 23) (st' := [(0, 2), (0, x2)]) (lo' := [(0, (2, this)), (1, (0, i)), (2, (1, rest))]) rfl ?_
    refine r_ic_ne hX hP rfl (tgt := 46) rfl (by first | decide | omega) (by first | decide | omega) (by first | decide | omega) (by first | decide | omega) (fun c4 => ?_) (fun c4 => ?_)
    · skip
      refine r_ex hX hP 1 (pc' := 47) (st' := [(0, 0)]) (lo' := [(0, (2, this)), (1, (0, i)), (2, (1, rest))]) rfl ?_
      exact r_retZ hX hP rfl rfl (by first | decide | omega) (by first | decide | omega) (by first | decide | omega) (by first | decide | omega) ⟨rfl, rfl, 0, rfl, (by first | decide | omega)⟩
    · skip
      refine r_ldc2 hX hP rfl (v := 2) (tbg sg5 184 rfl rfl) ?_
      refine r_ex hX hP 2 (pc' := 31) (st' := [(1, (2 * rest))]) (lo' := [(0, (2, this)), (1, (0, i)), (2, (1, rest))]) rfl ?_
      refine r_hvL hX (fun w5 w5a w5b w5e => ?_)
      refine r_ex hX hP 1 (pc' := 32) (st' := [(2, this), (1, w5)]) (lo' := [(0, (2, this)), (1, (0, i)), (2, (1, rest))]) rfl ?_
      refine r_getR hX hP rfl fl_X9_25_136 hS (fun nf6 nf6e nf6s => ?_)
      refine r_ex hX hP 1 (pc' := 36) (st' := [(0, i), (2, nf6), (1, w5)]) (lo' := [(0, (2, this)), (1, (0, i)), (2, (1, rest))]) rfl ?_
      refine r_iald hX hP rfl al_119 nf6s (by first | decide | omega) (by first | decide | omega) (fun x7 x7e x7a x7b => ?_)
      refine r_i2l hX hP rfl (by first | decide | omega) (by first | decide | omega) ?_
      refine r_lc_lt hX hP rfl rfl (tgt := 46) rfl (by first | decide | omega) (by first | decide | omega) (by first | decide | omega) (by first | decide | omega) (fun c8 => ?_) (fun c8 => ?_)
      · skip
        refine r_ex hX hP 1 (pc' := 47) (st' := [(0, 0)]) (lo' := [(0, (2, this)), (1, (0, i)), (2, (1, rest))]) rfl ?_
        exact r_retZ hX hP rfl rfl (by first | decide | omega) (by first | decide | omega) (by first | decide | omega) (by first | decide | omega) ⟨rfl, rfl, 0, rfl, (by first | decide | omega)⟩
      · skip
        refine r_ex hX hP 2 (pc' := 47) (st' := [(0, 1)]) (lo' := [(0, (2, this)), (1, (0, i)), (2, (1, rest))]) rfl ?_
        exact r_retZ hX hP rfl rfl (by first | decide | omega) (by first | decide | omega) (by first | decide | omega) (by first | decide | omega) ⟨rfl, rfl, 1, rfl, (by first | decide | omega)⟩
  · skip
    refine r_ex hX hP 2 (pc' := 12) (st' := [(1, 0), (1, rest)]) (lo' := [(0, (2, this)), (1, (0, i)), (2, (1, rest))]) rfl ?_
    refine r_lc_gt hX hP rfl rfl (tgt := 42) rfl (by first | decide | omega) (by first | decide | omega) (by first | decide | omega) (by first | decide | omega) (fun c9 => ?_) (fun c9 => ?_)
    · skip
      refine r_ex hX hP 2 (pc' := 47) (st' := [(0, 1)]) (lo' := [(0, (2, this)), (1, (0, i)), (2, (1, rest))]) rfl ?_
      exact r_retZ hX hP rfl rfl (by first | decide | omega) (by first | decide | omega) (by first | decide | omega) (by first | decide | omega) ⟨rfl, rfl, 1, rfl, (by first | decide | omega)⟩
    · skip
      refine r_ex hX hP 1 (pc' := 17) (st' := [(2, this)]) (lo' := [(0, (2, this)), (1, (0, i)), (2, (1, rest))]) rfl ?_
      refine r_getKR hX hP rfl fl_X9_48_136 hS (x := rf1) rf1e ?_
      refine r_ex hX hP 1 (pc' := 21) (st' := [(0, i), (2, rf1)]) (lo' := [(0, (2, this)), (1, (0, i)), (2, (1, rest))]) rfl ?_
      refine r_ialdK hX hP rfl al_119 rf1s (by first | decide | omega) (by first | decide | omega) (x := x2) x2e ?_
      refine r_ex hX hP 1 (pc' := 23) (st' := [(0, 2), (0, x2)]) (lo' := [(0, (2, this)), (1, (0, i)), (2, (1, rest))]) rfl ?_
      refine r_ic_ne hX hP rfl (tgt := 46) rfl (by first | decide | omega) (by first | decide | omega) (by first | decide | omega) (by first | decide | omega) (fun c10 => ?_) (fun c10 => ?_)
      · skip
        refine r_ex hX hP 1 (pc' := 47) (st' := [(0, 0)]) (lo' := [(0, (2, this)), (1, (0, i)), (2, (1, rest))]) rfl ?_
        exact r_retZ hX hP rfl rfl (by first | decide | omega) (by first | decide | omega) (by first | decide | omega) (by first | decide | omega) ⟨rfl, rfl, 0, rfl, (by first | decide | omega)⟩
      · skip
        exfalso; omega
set_option maxRecDepth 100000 in
set_option maxHeartbeats 4000000 in
theorem c_X9_ratio (E : En) (S : Sg) (G : Gh) (this : Int) (whole : Int) (i : Int) (hS : S this = 136) (whole_a : (-9223372036854775808) ≤ whole) (whole_b : whole ≤ 9223372036854775807) (i_a : 0 ≤ i) (i_b : i ≤ 29) : Calls E mX9_ratio [(2, this), (1, whole), (0, i)] S G 0 0 0 (fun r S' G' => S = S' ∧ G = G' ∧ ∃ z : Int, r = some (1, z) ∧ (-9223372036854775808) ≤ z ∧ z ≤ 9223372036854775807) := by
  refine calls_by [(0, (2, this)), (1, (1, whole)), (3, (0, i))] rfl rfl (Nat.le_of_ble_eq_true rfl) (fun X hX => ?_)
  have hP := hPX9_ratio
  refine r_ex hX hP 1 (pc' := 1) (st' := [(2, this)]) (lo' := [(0, (2, this)), (1, (1, whole)), (3, (0, i))]) rfl ?_
  refine r_getR hX hP rfl fl_X9_25_136 hS (fun nf1 nf1e nf1s => ?_)
  refine r_ex hX hP 1 (pc' := 5) (st' := [(0, i), (2, nf1)]) (lo' := [(0, (2, this)), (1, (1, whole)), (3, (0, i))]) rfl ?_
  refine r_iald hX hP rfl al_119 nf1s (by first | decide | omega) (by first | decide | omega) (fun x2 x2e x2a x2b => ?_)
  refine r_if_le hX hP rfl (tgt := 29) rfl (by first | decide | omega) (by first | decide | omega) (fun c3 => ?_) (fun c3 => ?_)
  · skip
    refine r_ex hX hP 1 (pc' := 30) (st' := [(1, 0)]) (lo' := [(0, (2, this)), (1, (1, whole)), (3, (0, i))]) rfl ?_
    exact r_retL hX hP rfl rfl (by first | decide | omega) (by first | decide | omega) ⟨rfl, rfl, 0, rfl, (by first | decide | omega)⟩
  · skip
    refine r_ex hX hP 2 (pc' := 11) (st' := [(2, this), (1, whole)]) (lo' := [(0, (2, this)), (1, (1, whole)), (3, (0, i))]) rfl ?_
    refine r_getR hX hP rfl fl_X9_19_136 hS (fun mf4 mf4e mf4s => ?_)
    refine r_ex hX hP 1 (pc' := 15) (st' := [(0, i), (2, mf4), (1, whole)]) (lo' := [(0, (2, this)), (1, (1, whole)), (3, (0, i))]) rfl ?_
    refine r_iald hX hP rfl al_119 mf4s (by first | decide | omega) (by first | decide | omega) (fun x5 x5e x5a x5b => ?_)
    refine r_i2l hX hP rfl (by first | decide | omega) (by first | decide | omega) ?_
    refine r_ex hX hP 1 (pc' := 18) (st' := [(1, (whole * x5))]) (lo' := [(0, (2, this)), (1, (1, whole)), (3, (0, i))]) rfl ?_
    refine r_hvL hX (fun w6 w6a w6b w6e => ?_)
    refine r_ex hX hP 1 (pc' := 19) (st' := [(2, this), (1, w6)]) (lo' := [(0, (2, this)), (1, (1, whole)), (3, (0, i))]) rfl ?_
    refine r_getKR hX hP rfl fl_X9_25_136 hS (x := nf1) nf1e ?_
    refine r_ex hX hP 1 (pc' := 23) (st' := [(0, i), (2, nf1), (1, w6)]) (lo' := [(0, (2, this)), (1, (1, whole)), (3, (0, i))]) rfl ?_
    refine r_ialdK hX hP rfl al_119 nf1s (by first | decide | omega) (by first | decide | omega) (x := x2) x2e ?_
    refine r_i2l hX hP rfl (by first | decide | omega) (by first | decide | omega) ?_
    refine r_ldiv hX hP rfl (by first | decide | omega) (by first | decide | omega) (by first | decide | omega) (by first | decide | omega) (by first | decide | omega) ?_
    obtain ⟨q7, q7e⟩ : ∃ q : Int, q = (Int.tdiv w6 x2) := ⟨_, rfl⟩
    rw [← q7e]
    have q7b := td_gen q7e (by first | decide | omega)
    refine r_hvL hX (fun w8 w8a w8b w8e => ?_)
    refine r_ex hX hP 1 (pc' := 30) (st' := [(1, w8)]) (lo' := [(0, (2, this)), (1, (1, whole)), (3, (0, i))]) rfl ?_
    exact r_retL hX hP rfl rfl (by first | decide | omega) (by first | decide | omega) ⟨rfl, rfl, w8, rfl, (by first | decide | omega)⟩
set_option maxRecDepth 100000 in
set_option maxHeartbeats 4000000 in
theorem c_X9_give (E : En) (S : Sg) (G : Gh) (this : Int) (i : Int) (whole : Int) (price : Int) (hS : S this = 136) (i_a : 0 ≤ i) (i_b : i ≤ 29) (whole_a : (-9223372036854775808) ≤ whole) (whole_b : whole ≤ 9223372036854775807) (price_a : (-2147483648) ≤ price) (price_b : price ≤ 2147483647) : Calls E mX9_give [(2, this), (0, i), (1, whole), (0, price)] S G 1 0 0 (fun r S' G' => S = S' ∧ (∃ G1, hw [(127, -1)] G G1 = G') ∧ r = none ∧ True) := by
  refine calls_by [(0, (2, this)), (1, (0, i)), (2, (1, whole)), (4, (0, price))] rfl rfl (Nat.le_of_ble_eq_true rfl) (fun X hX => ?_)
  have hP := hPX9_give
  refine r_ex hX hP 1 (pc' := 1) (st' := [(2, this)]) (lo' := [(0, (2, this)), (1, (0, i)), (2, (1, whole)), (4, (0, price))]) rfl ?_
  refine r_getR hX hP rfl fl_X9_25_136 hS (fun nf1 nf1e nf1s => ?_)
  refine r_ex hX hP 1 (pc' := 5) (st' := [(0, i), (2, nf1)]) (lo' := [(0, (2, this)), (1, (0, i)), (2, (1, whole)), (4, (0, price))]) rfl ?_
  refine r_iald hX hP rfl al_119 nf1s (by first | decide | omega) (by first | decide | omega) (fun x2 x2e x2a x2b => ?_)
  refine r_if_gt hX hP rfl (tgt := 10) rfl (by first | decide | omega) (by first | decide | omega) (fun c3 => ?_) (fun c3 => ?_)
  · skip
    refine r_ex hX hP 2 (pc' := 12) (st' := [(2, this), (1, whole)]) (lo' := [(0, (2, this)), (1, (0, i)), (2, (1, whole)), (4, (0, price))]) rfl ?_
    refine r_getR hX hP rfl fl_X9_19_136 hS (fun mf4 mf4e mf4s => ?_)
    refine r_ex hX hP 1 (pc' := 16) (st' := [(0, i), (2, mf4), (1, whole)]) (lo' := [(0, (2, this)), (1, (0, i)), (2, (1, whole)), (4, (0, price))]) rfl ?_
    refine r_iald hX hP rfl al_119 mf4s (by first | decide | omega) (by first | decide | omega) (fun x5 x5e x5a x5b => ?_)
    refine r_i2l hX hP rfl (by first | decide | omega) (by first | decide | omega) ?_
    refine r_ex hX hP 1 (pc' := 19) (st' := [(1, (whole * x5))]) (lo' := [(0, (2, this)), (1, (0, i)), (2, (1, whole)), (4, (0, price))]) rfl ?_
    refine r_hvL hX (fun w6 w6a w6b w6e => ?_)
    refine r_ex hX hP 1 (pc' := 20) (st' := [(2, this), (1, w6)]) (lo' := [(0, (2, this)), (1, (0, i)), (2, (1, whole)), (4, (0, price))]) rfl ?_
    refine r_getKR hX hP rfl fl_X9_25_136 hS (x := nf1) nf1e ?_
    refine r_ex hX hP 1 (pc' := 24) (st' := [(0, i), (2, nf1), (1, w6)]) (lo' := [(0, (2, this)), (1, (0, i)), (2, (1, whole)), (4, (0, price))]) rfl ?_
    refine r_ialdK hX hP rfl al_119 nf1s (by first | decide | omega) (by first | decide | omega) (x := x2) x2e ?_
    refine r_i2l hX hP rfl (by first | decide | omega) (by first | decide | omega) ?_
    refine r_lrem hX hP rfl (by first | decide | omega) (by first | decide | omega) (by first | decide | omega) (by first | decide | omega) (by first | decide | omega) ?_
    obtain ⟨q7, q7e⟩ : ∃ q : Int, q = (Int.tmod w6 x2) := ⟨_, rfl⟩
    rw [← q7e]
    have q7b := tm_gen q7e (by first | decide | omega)
    refine r_ex hX hP 2 (pc' := 30) (st' := [(2, this)]) (lo' := [(0, (2, this)), (1, (0, i)), (2, (1, whole)), (4, (0, price)), (5, (1, q7))]) rfl ?_
    refine r_getR hX hP rfl fl_X9_51_136 hS (fun sf8 sf8e sf8s => ?_)
    refine r_ex hX hP 3 (pc' := 36) (st' := [(2, this), (1, whole), (0, i), (2, sf8)]) (lo' := [(0, (2, this)), (1, (0, i)), (2, (1, whole)), (4, (0, price)), (5, (1, q7))]) rfl ?_
    refine r_getKR hX hP rfl fl_X9_19_136 hS (x := mf4) mf4e ?_
    refine r_ex hX hP 1 (pc' := 40) (st' := [(0, i), (2, mf4), (1, whole), (0, i), (2, sf8)]) (lo' := [(0, (2, this)), (1, (0, i)), (2, (1, whole)), (4, (0, price)), (5, (1, q7))]) rfl ?_
    refine r_ialdK hX hP rfl al_119 mf4s (by first | decide | omega) (by first | decide | omega) (x := x5) x5e ?_
    refine r_i2l hX hP rfl (by first | decide | omega) (by first | decide | omega) ?_
    refine r_ex hX hP 1 (pc' := 43) (st' := [(1, (whole * x5)), (0, i), (2, sf8)]) (lo' := [(0, (2, this)), (1, (0, i)), (2, (1, whole)), (4, (0, price)), (5, (1, q7))]) rfl ?_
    refine r_hvL hX (fun w9 w9a w9b w9e => ?_)
    refine r_ex hX hP 1 (pc' := 44) (st' := [(2, this), (1, w9), (0, i), (2, sf8)]) (lo' := [(0, (2, this)), (1, (0, i)), (2, (1, whole)), (4, (0, price)), (5, (1, q7))]) rfl ?_
    refine r_getKR hX hP rfl fl_X9_25_136 hS (x := nf1) nf1e ?_
    refine r_ex hX hP 1 (pc' := 48) (st' := [(0, i), (2, nf1), (1, w9), (0, i), (2, sf8)]) (lo' := [(0, (2, this)), (1, (0, i)), (2, (1, whole)), (4, (0, price)), (5, (1, q7))]) rfl ?_
    refine r_ialdK hX hP rfl al_119 nf1s (by first | decide | omega) (by first | decide | omega) (x := x2) x2e ?_
    refine r_i2l hX hP rfl (by first | decide | omega) (by first | decide | omega) ?_
    refine r_ldiv hX hP rfl (by first | decide | omega) (by first | decide | omega) (by first | decide | omega) (by first | decide | omega) (by first | decide | omega) ?_
    obtain ⟨q10, q10e⟩ : ∃ q : Int, q = (Int.tdiv w9 x2) := ⟨_, rfl⟩
    rw [← q10e]
    have q10b := td_gen q10e (by first | decide | omega)
    refine r_hvL hX (fun w11 w11a w11b w11e => ?_)
    refine r_lastK hX hP rfl al_127 sf8s (by first | decide | omega) (by first | decide | omega) (by first | decide | omega) (by first | decide | omega) (fun h12 => ?_)
    refine r_ex hX hP 3 (pc' := 56) (st' := [(1, q7), (0, i), (2, this)]) (lo' := [(0, (2, this)), (1, (0, i)), (2, (1, whole)), (4, (0, price)), (5, (1, q7))]) rfl ?_
    refine r_callV gd hX hP rfl cv_X9_81_136 hS (d' := 0) (mc' := 0) (ms' := 0) (as' := [(0, i), (1, q7)]) (st := []) (by first | decide | omega) (by first | decide | omega) (by first | decide | omega) rfl rfl (Nat.le_of_ble_eq_true rfl) (c_X9_isOneMore E S (up G 127 sf8 i w11) this i q7 hS (by first | decide | omega) (by first | decide | omega) (by first | decide | omega) (by first | decide | omega)) ?_
    rintro _ _ _ ⟨rfl, rfl, z13, rfl, z13a, z13b⟩
    refine r_if_eq hX hP rfl (tgt := 75) rfl (by first | decide | omega) (by first | decide | omega) (fun c14 => ?_) (fun c14 => ?_)
    · skip
      refine r_ex hX hP 1 (pc' := 76) (st' := [(2, this)]) (lo' := [(0, (2, this)), (1, (0, i)), (2, (1, whole)), (4, (0, price)), (5, (1, q7))]) rfl ?_
      refine r_getR hX hP rfl fl_X9_48_136 hS (fun rf15 rf15e rf15s => ?_)
      refine r_ex hX hP 1 (pc' := 80) (st' := [(0, i), (2, rf15)]) (lo' := [(0, (2, this)), (1, (0, i)), (2, (1, whole)), (4, (0, price)), (5, (1, q7))]) rfl ?_
      refine r_iald hX hP rfl al_119 rf15s (by first | decide | omega) (by first | decide | omega) (fun x16 x16e x16a x16b => ?_)
      refine r_ex hX hP 1 (pc' := 82) (st' := [(0, 3), (0, x16)]) (lo' := [(0, (2, this)), (1, (0, i)), (2, (1, whole)), (4, (0, price)), (5, (1, q7))]) rfl ?_
      refine r_ic_ne hX hP rfl (tgt := 105) rfl (by first | decide | omega) (by first | decide | omega) (by first | decide | omega) (by first | decide | omega) (fun c17 => ?_) (fun c17 => ?_)
      · skip
        exact r_retV hX hP rfl rfl (by first | decide | omega) (by first | decide | omega) ⟨rfl, ⟨_, (hw_up (hw_refl _ _) rfl).symm⟩, rfl, trivial⟩
      · skip
        refine r_ex hX hP 1 (pc' := 86) (st' := [(2, this)]) (lo' := [(0, (2, this)), (1, (0, i)), (2, (1, whole)), (4, (0, price)), (5, (1, q7))]) rfl ?_
        refine r_getR hX hP rfl fl_X9_54_136 hS (fun pf18 pf18e pf18s => ?_)
        refine r_ex hX hP 2 (pc' := 92) (st' := [(0, price), (0, i), (2, pf18)]) (lo' := [(0, (2, this)), (1, (0, i)), (2, (1, whole)), (4, (0, price)), (5, (1, q7))]) rfl ?_
        refine r_i2l hX hP rfl (by first | decide | omega) (by first | decide | omega) ?_
        refine r_ex hX hP 2 (pc' := 96) (st' := [(1, (price * q7)), (0, i), (2, pf18)]) (lo' := [(0, (2, this)), (1, (0, i)), (2, (1, whole)), (4, (0, price)), (5, (1, q7))]) rfl ?_
        refine r_hvL hX (fun w19 w19a w19b w19e => ?_)
        refine r_ex hX hP 1 (pc' := 97) (st' := [(2, this), (1, w19), (0, i), (2, pf18)]) (lo' := [(0, (2, this)), (1, (0, i)), (2, (1, whole)), (4, (0, price)), (5, (1, q7))]) rfl ?_
        refine r_getKR hX hP rfl fl_X9_25_136 hS (x := nf1) nf1e ?_
        refine r_ex hX hP 1 (pc' := 101) (st' := [(0, i), (2, nf1), (1, w19), (0, i), (2, pf18)]) (lo' := [(0, (2, this)), (1, (0, i)), (2, (1, whole)), (4, (0, price)), (5, (1, q7))]) rfl ?_
        refine r_ialdK hX hP rfl al_119 nf1s (by first | decide | omega) (by first | decide | omega) (x := x2) x2e ?_
        refine r_i2l hX hP rfl (by first | decide | omega) (by first | decide | omega) ?_
        refine r_ldiv hX hP rfl (by first | decide | omega) (by first | decide | omega) (by first | decide | omega) (by first | decide | omega) (by first | decide | omega) ?_
        obtain ⟨q20, q20e⟩ : ∃ q : Int, q = (Int.tdiv w19 x2) := ⟨_, rfl⟩
        rw [← q20e]
        have q20b := td_gen q20e (by first | decide | omega)
        refine r_hvL hX (fun w21 w21a w21b w21e => ?_)
        refine r_lastK hX hP rfl al_127 pf18s (by first | decide | omega) (by first | decide | omega) (by first | decide | omega) (by first | decide | omega) (fun h22 => ?_)
        exact r_retV hX hP rfl rfl (by first | decide | omega) (by first | decide | omega) ⟨rfl, ⟨_, (hw_up (hw_up (hw_refl _ _) rfl) rfl).symm⟩, rfl, trivial⟩
    · skip
      refine r_ex hX hP 1 (pc' := 63) (st' := [(2, this)]) (lo' := [(0, (2, this)), (1, (0, i)), (2, (1, whole)), (4, (0, price)), (5, (1, q7))]) rfl ?_
      refine r_getKR hX hP rfl fl_X9_51_136 hS (x := sf8) sf8e ?_
      refine r_ex hX hP 2 (pc' := 68) (st' := [(0, i), (2, sf8), (0, i), (2, sf8)]) (lo' := [(0, (2, this)), (1, (0, i)), (2, (1, whole)), (4, (0, price)), (5, (1, q7))]) rfl ?_
      refine r_laldK hX hP rfl al_127 sf8s (by first | decide | omega) (by first | decide | omega) (x := w11) h12 ?_
      refine r_ex hX hP 2 (pc' := 71) (st' := [(1, (w11 + 1)), (0, i), (2, sf8)]) (lo' := [(0, (2, this)), (1, (0, i)), (2, (1, whole)), (4, (0, price)), (5, (1, q7))]) rfl ?_
      refine r_hvL hX (fun w23 w23a w23b w23e => ?_)
      refine r_lastK hX hP rfl al_127 sf8s (by first | decide | omega) (by first | decide | omega) (by first | decide | omega) (by first | decide | omega) (fun h24 => ?_)
      refine r_ex hX hP 1 (pc' := 105) (st' := []) (lo' := [(0, (2, this)), (1, (0, i)), (2, (1, whole)), (4, (0, price)), (5, (1, q7))]) rfl ?_
      exact r_retV hX hP rfl rfl (by first | decide | omega) (by first | decide | omega) ⟨rfl, ⟨_, (hw_up (hw_up (hw_refl _ _) rfl) rfl).symm⟩, rfl, trivial⟩
  · skip
    exact r_retV hX hP rfl rfl (by first | decide | omega) (by first | decide | omega) ⟨rfl, ⟨_, (hw_refl _ _).symm⟩, rfl, trivial⟩
set_option maxRecDepth 100000 in
set_option maxHeartbeats 4000000 in
theorem c_X9_work (E : En) (S : Sg) (G : Gh) (this : Int) (hS : S this = 136) : Calls E mX9_work [(2, this)] S G 2 0 0 (fun r S' G' => S = S' ∧ (∃ G1, hw [(119, -1), (126, -1), (127, -1)] G G1 = G') ∧ r = none ∧ True) := by
  refine calls_by [(0, (2, this))] rfl rfl (Nat.le_of_ble_eq_true rfl) (fun X hX => ?_)
  have hP := hPX9_work
  refine r_ex hX hP 6 (pc' := 6) (st' := []) (lo' := [(0, (2, this)), (1, (0, 0)), (2, (0, 0)), (3, (0, 0))]) rfl ?_
  have loop6 : ∀ (nF : Nat) (l1_h6 l2_h6 l3_h6 : Int) (Gh6 : Gh), (-2147483648) ≤ l1_h6 → l1_h6 ≤ 2147483647 → (-2147483648) ≤ l2_h6 → l2_h6 ≤ 2147483647 → 0 ≤ l3_h6 → l3_h6 ≤ 30 → 30 - l3_h6 < (nF : Int) → X 0 0 6 [] [(0, (2, this)), (1, (0, l1_h6)), (2, (0, l2_h6)), (3, (0, l3_h6))] S (hw [(119, -1), (126, -1), (127, -1)] G Gh6) := by
    intro nF
    induction nF with
    | zero => intro l1_h6 l2_h6 l3_h6 Gh6 yh6_0 yh6_1 yh6_2 yh6_3 yh6_4 yh6_5 ym6; exfalso; omega
    | succ nF ih6 =>
      intro l1_h6 l2_h6 l3_h6 Gh6 yh6_0 yh6_1 yh6_2 yh6_3 yh6_4 yh6_5 ym6
      refine r_ex hX hP 2 (pc' := 8) (st' := [(2, this), (0, l3_h6)]) (lo' := [(0, (2, this)), (1, (0, l1_h6)), (2, (0, l2_h6)), (3, (0, l3_h6))]) rfl ?_
      refine r_getI hX hP rfl fl_X9_63_136 hS (fun sf1 sf1e sf1a sf1b => ?_)
      refine r_ic_ge hX hP rfl (tgt := 200) rfl (by first | decide | omega) (by first | decide | omega) (by first | decide | omega) (by first | decide | omega) (fun c2 => ?_) (fun c2 => ?_)
      · skip
        exact r_retV hX hP rfl rfl (by first | decide | omega) (by first | decide | omega) ⟨rfl, ⟨_, (hw_sub (hw_refl _ _) rfl).symm⟩, rfl, trivial⟩
      · skip
        refine r_ex hX hP 1 (pc' := 15) (st' := [(2, this)]) (lo' := [(0, (2, this)), (1, (0, l1_h6)), (2, (0, l2_h6)), (3, (0, l3_h6))]) rfl ?_
        refine r_getR hX hP rfl fl_X9_51_136 hS (fun sf3 sf3e sf3s => ?_)
        refine r_ex hX hP 2 (pc' := 20) (st' := [(1, 0), (0, l3_h6), (2, sf3)]) (lo' := [(0, (2, this)), (1, (0, l1_h6)), (2, (0, l2_h6)), (3, (0, l3_h6))]) rfl ?_
        refine r_lastK hX hP rfl al_127 sf3s (by first | decide | omega) (by first | decide | omega) (by first | decide | omega) (by first | decide | omega) (fun h4 => ?_)
        refine r_ex hX hP 1 (pc' := 22) (st' := [(2, this)]) (lo' := [(0, (2, this)), (1, (0, l1_h6)), (2, (0, l2_h6)), (3, (0, l3_h6))]) rfl ?_
        refine r_getR hX hP rfl fl_X9_54_136 hS (fun pf5 pf5e pf5s => ?_)
        refine r_ex hX hP 2 (pc' := 27) (st' := [(1, 0), (0, l3_h6), (2, pf5)]) (lo' := [(0, (2, this)), (1, (0, l1_h6)), (2, (0, l2_h6)), (3, (0, l3_h6))]) rfl ?_
        refine r_lastK hX hP rfl al_127 pf5s (by first | decide | omega) (by first | decide | omega) (by first | decide | omega) (by first | decide | omega) (fun h6 => ?_)
        refine r_ex hX hP 1 (pc' := 29) (st' := [(2, this)]) (lo' := [(0, (2, this)), (1, (0, l1_h6)), (2, (0, l2_h6)), (3, (0, l3_h6))]) rfl ?_
        refine r_getR hX hP rfl fl_X9_44_136 hS (fun lf7 lf7e lf7s => ?_)
        refine r_ex hX hP 3 (pc' := 35) (st' := [(0, l3_h6), (2, this), (0, l3_h6), (2, lf7)]) (lo' := [(0, (2, this)), (1, (0, l1_h6)), (2, (0, l2_h6)), (3, (0, l3_h6))]) rfl ?_
        refine r_callV gd hX hP rfl cv_X9_69_136 hS (d' := 0) (mc' := 0) (ms' := 0) (as' := [(0, l3_h6)]) (st := [(0, l3_h6), (2, lf7)]) (by first | decide | omega) (by first | decide | omega) (by first | decide | omega) rfl rfl (Nat.le_of_ble_eq_true rfl) (c_X9_isLive E S (up (up (hw [(119, -1), (126, -1), (127, -1)] G Gh6) 127 sf3 l3_h6 0) 127 pf5 l3_h6 0) this l3_h6 hS (by first | decide | omega) (by first | decide | omega)) ?_
        rintro _ _ _ ⟨rfl, rfl, z8, rfl, z8a, z8b⟩
        refine r_zastK hX hP rfl al_126 lf7s (by first | decide | omega) (by first | decide | omega) (by first | decide | omega) (by first | decide | omega) (by first | decide | omega) (by first | decide | omega) (fun h9 => ?_)
        refine r_ex hX hP 1 (pc' := 40) (st' := [(2, this)]) (lo' := [(0, (2, this)), (1, (0, l1_h6)), (2, (0, l2_h6)), (3, (0, l3_h6))]) rfl ?_
        refine r_getKR hX hP rfl fl_X9_44_136 hS (x := lf7) lf7e ?_
        refine r_ex hX hP 1 (pc' := 44) (st' := [(0, l3_h6), (2, lf7)]) (lo' := [(0, (2, this)), (1, (0, l1_h6)), (2, (0, l2_h6)), (3, (0, l3_h6))]) rfl ?_
        refine r_zaldK hX hP rfl al_126 lf7s (by first | decide | omega) (by first | decide | omega) (x := z8) h9 ?_
        refine r_if_ne hX hP rfl (tgt := 51) rfl (by first | decide | omega) (by first | decide | omega) (fun c10 => ?_) (fun c10 => ?_)
        · skip
          refine r_ex hX hP 1 (pc' := 52) (st' := [(2, this)]) (lo' := [(0, (2, this)), (1, (0, l1_h6)), (2, (0, l2_h6)), (3, (0, l3_h6))]) rfl ?_
          refine r_getR hX hP rfl fl_X9_40_136 hS (fun hf11 hf11e hf11s => ?_)
          refine r_ex hX hP 1 (pc' := 56) (st' := [(2, this), (2, hf11)]) (lo' := [(0, (2, this)), (1, (0, l1_h6)), (2, (0, l2_h6)), (3, (0, l3_h6))]) rfl ?_
          refine r_getR hX hP rfl fl_X9_28_136 hS (fun rf12 rf12e rf12s => ?_)
          refine r_ex hX hP 1 (pc' := 60) (st' := [(0, l3_h6), (2, rf12), (2, hf11)]) (lo' := [(0, (2, this)), (1, (0, l1_h6)), (2, (0, l2_h6)), (3, (0, l3_h6))]) rfl ?_
          refine r_iald hX hP rfl al_122 rf12s (by first | decide | omega) (by first | decide | omega) (fun x13 x13e x13a x13b => ?_)
          refine r_lald hX hP rfl al_125 hf11s (by first | decide | omega) (by first | decide | omega) (fun x14 x14e x14a x14b => ?_)
          refine r_ex hX hP 2 (pc' := 65) (st' := [(2, this)]) (lo' := [(0, (2, this)), (1, (0, l1_h6)), (2, (0, l2_h6)), (3, (0, l3_h6)), (4, (1, x14))]) rfl ?_
          refine r_getR hX hP rfl fl_X9_48_136 hS (fun rf15 rf15e rf15s => ?_)
          refine r_ex hX hP 2 (pc' := 70) (st' := [(0, l1_h6), (0, l3_h6), (2, rf15)]) (lo' := [(0, (2, this)), (1, (0, l1_h6)), (2, (0, l2_h6)), (3, (0, l3_h6)), (4, (1, x14))]) rfl ?_
          refine r_iastK hX hP rfl al_119 rf15s (by first | decide | omega) (by first | decide | omega) (by first | decide | omega) (by first | decide | omega) (fun h16 => ?_)
          refine r_ex hX hP 1 (pc' := 72) (st' := [(2, this)]) (lo' := [(0, (2, this)), (1, (0, l1_h6)), (2, (0, l2_h6)), (3, (0, l3_h6)), (4, (1, x14))]) rfl ?_
          refine r_getR hX hP rfl fl_X9_15_136 hS (fun kf17 kf17e kf17s => ?_)
          refine r_ex hX hP 1 (pc' := 76) (st' := [(0, l3_h6), (2, kf17)]) (lo' := [(0, (2, this)), (1, (0, l1_h6)), (2, (0, l2_h6)), (3, (0, l3_h6)), (4, (1, x14))]) rfl ?_
          refine r_iald hX hP rfl al_120 kf17s (by first | decide | omega) (by first | decide | omega) (fun x18 x18e x18a x18b => ?_)
          refine r_ex hX hP 1 (pc' := 78) (st' := [(0, 5), (0, x18)]) (lo' := [(0, (2, this)), (1, (0, l1_h6)), (2, (0, l2_h6)), (3, (0, l3_h6)), (4, (1, x14))]) rfl ?_
          refine r_ic_ne hX hP rfl (tgt := 98) rfl (by first | decide | omega) (by first | decide | omega) (by first | decide | omega) (by first | decide | omega) (fun c19 => ?_) (fun c19 => ?_)
          · skip
            refine r_ex hX hP 1 (pc' := 99) (st' := [(2, this)]) (lo' := [(0, (2, this)), (1, (0, l1_h6)), (2, (0, l2_h6)), (3, (0, l3_h6)), (4, (1, x14))]) rfl ?_
            refine r_getKR hX hP rfl fl_X9_15_136 hS (x := kf17) kf17e ?_
            refine r_ex hX hP 1 (pc' := 103) (st' := [(0, l3_h6), (2, kf17)]) (lo' := [(0, (2, this)), (1, (0, l1_h6)), (2, (0, l2_h6)), (3, (0, l3_h6)), (4, (1, x14))]) rfl ?_
            refine r_ialdK hX hP rfl al_120 kf17s (by first | decide | omega) (by first | decide | omega) (x := x18) x18e ?_
            refine r_if_ne hX hP rfl (tgt := 118) rfl (by first | decide | omega) (by first | decide | omega) (fun c20 => ?_) (fun c20 => ?_)
            · skip
              refine r_ex hX hP 1 (pc' := 119) (st' := [(2, this)]) (lo' := [(0, (2, this)), (1, (0, l1_h6)), (2, (0, l2_h6)), (3, (0, l3_h6)), (4, (1, x14))]) rfl ?_
              refine r_getKR hX hP rfl fl_X9_15_136 hS (x := kf17) kf17e ?_
              refine r_ex hX hP 1 (pc' := 123) (st' := [(0, l3_h6), (2, kf17)]) (lo' := [(0, (2, this)), (1, (0, l1_h6)), (2, (0, l2_h6)), (3, (0, l3_h6)), (4, (1, x14))]) rfl ?_
              refine r_ialdK hX hP rfl al_120 kf17s (by first | decide | omega) (by first | decide | omega) (x := x18) x18e ?_
              refine r_ex hX hP 1 (pc' := 125) (st' := [(0, 1), (0, x18)]) (lo' := [(0, (2, this)), (1, (0, l1_h6)), (2, (0, l2_h6)), (3, (0, l3_h6)), (4, (1, x14))]) rfl ?_
              refine r_ic_ne hX hP rfl (tgt := 144) rfl (by first | decide | omega) (by first | decide | omega) (by first | decide | omega) (by first | decide | omega) (fun c21 => ?_) (fun c21 => ?_)
              · skip
                refine r_ex hX hP 1 (pc' := 145) (st' := [(2, this)]) (lo' := [(0, (2, this)), (1, (0, l1_h6)), (2, (0, l2_h6)), (3, (0, l3_h6)), (4, (1, x14))]) rfl ?_
                refine r_getKR hX hP rfl fl_X9_15_136 hS (x := kf17) kf17e ?_
                refine r_ex hX hP 1 (pc' := 149) (st' := [(0, l3_h6), (2, kf17)]) (lo' := [(0, (2, this)), (1, (0, l1_h6)), (2, (0, l2_h6)), (3, (0, l3_h6)), (4, (1, x14))]) rfl ?_
                refine r_ialdK hX hP rfl al_120 kf17s (by first | decide | omega) (by first | decide | omega) (x := x18) x18e ?_
                refine r_ex hX hP 1 (pc' := 151) (st' := [(0, 2), (0, x18)]) (lo' := [(0, (2, this)), (1, (0, l1_h6)), (2, (0, l2_h6)), (3, (0, l3_h6)), (4, (1, x14))]) rfl ?_
                refine r_ic_ne hX hP rfl (tgt := 170) rfl (by first | decide | omega) (by first | decide | omega) (by first | decide | omega) (by first | decide | omega) (fun c22 => ?_) (fun c22 => ?_)
                · skip
                  refine r_ex hX hP 1 (pc' := 171) (st' := [(2, this)]) (lo' := [(0, (2, this)), (1, (0, l1_h6)), (2, (0, l2_h6)), (3, (0, l3_h6)), (4, (1, x14))]) rfl ?_
                  refine r_getKR hX hP rfl fl_X9_15_136 hS (x := kf17) kf17e ?_
                  refine r_ex hX hP 1 (pc' := 175) (st' := [(0, l3_h6), (2, kf17)]) (lo' := [(0, (2, this)), (1, (0, l1_h6)), (2, (0, l2_h6)), (3, (0, l3_h6)), (4, (1, x14))]) rfl ?_
                  refine r_ialdK hX hP rfl al_120 kf17s (by first | decide | omega) (by first | decide | omega) (x := x18) x18e ?_
                  refine r_ex hX hP 1 (pc' := 177) (st' := [(0, 3), (0, x18)]) (lo' := [(0, (2, this)), (1, (0, l1_h6)), (2, (0, l2_h6)), (3, (0, l3_h6)), (4, (1, x14))]) rfl ?_
                  refine r_ic_ne hX hP rfl (tgt := 194) rfl (by first | decide | omega) (by first | decide | omega) (by first | decide | omega) (by first | decide | omega) (fun c23 => ?_) (fun c23 => ?_)
                  · skip
                    refine r_ex hX hP 2 (pc' := 6) (st' := []) (lo' := [(0, (2, this)), (1, (0, l1_h6)), (2, (0, l2_h6)), (3, (0, (l3_h6 + 1))), (4, (1, x14))]) rfl ?_
                    refine r_pick hX [0, 1, 2, 3] (lo' := [(0, (2, this)), (1, (0, l1_h6)), (2, (0, l2_h6)), (3, (0, (l3_h6 + 1)))]) rfl ?_
                    refine r_eqG (X := X) (hw_up (hw_up (hw_up (hw_up (hw_base _ _ _) rfl) rfl) rfl) rfl) ?_
                    exact ih6 l1_h6 l2_h6 (l3_h6 + 1) _ (by first | decide | omega) (by first | decide | omega) (by first | decide | omega) (by first | decide | omega) (by first | decide | omega) (by first | decide | omega) (by first | decide | omega)
                  · skip
                    refine r_ex hX hP 1 (pc' := 181) (st' := [(2, this)]) (lo' := [(0, (2, this)), (1, (0, l1_h6)), (2, (0, l2_h6)), (3, (0, l3_h6)), (4, (1, x14))]) rfl ?_
                    refine r_getKR hX hP rfl fl_X9_54_136 hS (x := pf5) pf5e ?_
                    refine r_ex hX hP 4 (pc' := 189) (st' := [(0, l3_h6), (1, x14), (2, this), (0, l3_h6), (2, pf5)]) (lo' := [(0, (2, this)), (1, (0, l1_h6)), (2, (0, l2_h6)), (3, (0, l3_h6)), (4, (1, x14))]) rfl ?_
                    refine r_callV gd hX hP rfl cv_X9_77_136 hS (d' := 0) (mc' := 0) (ms' := 0) (as' := [(1, x14), (0, l3_h6)]) (st := [(0, l3_h6), (2, pf5)]) (by first | decide | omega) (by first | decide | omega) (by first | decide | omega) rfl rfl (Nat.le_of_ble_eq_true rfl) (c_X9_ratio E S (up (up (up (up (hw [(119, -1), (126, -1), (127, -1)] G Gh6) 127 sf3 l3_h6 0) 127 pf5 l3_h6 0) 126 lf7 l3_h6 z8) 119 rf15 l3_h6 l1_h6) this x14 l3_h6 hS (by first | decide | omega) (by first | decide | omega) (by first | decide | omega) (by first | decide | omega)) ?_
                    rintro _ _ _ ⟨rfl, rfl, z24, rfl, z24a, z24b⟩
                    refine r_ex hX hP 1 (pc' := 193) (st' := [(1, (-z24)), (0, l3_h6), (2, pf5)]) (lo' := [(0, (2, this)), (1, (0, l1_h6)), (2, (0, l2_h6)), (3, (0, l3_h6)), (4, (1, x14))]) rfl ?_
                    refine r_hvL hX (fun w25 w25a w25b w25e => ?_)
                    refine r_lastK hX hP rfl al_127 pf5s (by first | decide | omega) (by first | decide | omega) (by first | decide | omega) (by first | decide | omega) (fun h26 => ?_)
                    refine r_ex hX hP 2 (pc' := 6) (st' := []) (lo' := [(0, (2, this)), (1, (0, l1_h6)), (2, (0, l2_h6)), (3, (0, (l3_h6 + 1))), (4, (1, x14))]) rfl ?_
                    refine r_pick hX [0, 1, 2, 3] (lo' := [(0, (2, this)), (1, (0, l1_h6)), (2, (0, l2_h6)), (3, (0, (l3_h6 + 1)))]) rfl ?_
                    refine r_eqG (X := X) (hw_up (hw_up (hw_up (hw_up (hw_up (hw_base _ _ _) rfl) rfl) rfl) rfl) rfl) ?_
                    exact ih6 l1_h6 l2_h6 (l3_h6 + 1) _ (by first | decide | omega) (by first | decide | omega) (by first | decide | omega) (by first | decide | omega) (by first | decide | omega) (by first | decide | omega) (by first | decide | omega)
                · skip
                  refine r_ex hX hP 1 (pc' := 155) (st' := [(2, this)]) (lo' := [(0, (2, this)), (1, (0, l1_h6)), (2, (0, l2_h6)), (3, (0, l3_h6)), (4, (1, x14))]) rfl ?_
                  refine r_getKR hX hP rfl fl_X9_54_136 hS (x := pf5) pf5e ?_
                  refine r_ex hX hP 4 (pc' := 163) (st' := [(0, l3_h6), (1, x14), (2, this), (0, l3_h6), (2, pf5)]) (lo' := [(0, (2, this)), (1, (0, l1_h6)), (2, (0, l2_h6)), (3, (0, l3_h6)), (4, (1, x14))]) rfl ?_
                  refine r_callV gd hX hP rfl cv_X9_77_136 hS (d' := 0) (mc' := 0) (ms' := 0) (as' := [(1, x14), (0, l3_h6)]) (st := [(0, l3_h6), (2, pf5)]) (by first | decide | omega) (by first | decide | omega) (by first | decide | omega) rfl rfl (Nat.le_of_ble_eq_true rfl) (c_X9_ratio E S (up (up (up (up (hw [(119, -1), (126, -1), (127, -1)] G Gh6) 127 sf3 l3_h6 0) 127 pf5 l3_h6 0) 126 lf7 l3_h6 z8) 119 rf15 l3_h6 l1_h6) this x14 l3_h6 hS (by first | decide | omega) (by first | decide | omega) (by first | decide | omega) (by first | decide | omega)) ?_
                  rintro _ _ _ ⟨rfl, rfl, z27, rfl, z27a, z27b⟩
                  refine r_lastK hX hP rfl al_127 pf5s (by first | decide | omega) (by first | decide | omega) (by first | decide | omega) (by first | decide | omega) (fun h28 => ?_)
                  refine r_ex hX hP 3 (pc' := 6) (st' := []) (lo' := [(0, (2, this)), (1, (0, l1_h6)), (2, (0, l2_h6)), (3, (0, (l3_h6 + 1))), (4, (1, x14))]) rfl ?_
                  refine r_pick hX [0, 1, 2, 3] (lo' := [(0, (2, this)), (1, (0, l1_h6)), (2, (0, l2_h6)), (3, (0, (l3_h6 + 1)))]) rfl ?_
                  refine r_eqG (X := X) (hw_up (hw_up (hw_up (hw_up (hw_up (hw_base _ _ _) rfl) rfl) rfl) rfl) rfl) ?_
                  exact ih6 l1_h6 l2_h6 (l3_h6 + 1) _ (by first | decide | omega) (by first | decide | omega) (by first | decide | omega) (by first | decide | omega) (by first | decide | omega) (by first | decide | omega) (by first | decide | omega)
              · skip
                refine r_ex hX hP 1 (pc' := 129) (st' := [(2, this)]) (lo' := [(0, (2, this)), (1, (0, l1_h6)), (2, (0, l2_h6)), (3, (0, l3_h6)), (4, (1, x14))]) rfl ?_
                refine r_getKR hX hP rfl fl_X9_51_136 hS (x := sf3) sf3e ?_
                refine r_ex hX hP 4 (pc' := 137) (st' := [(0, l3_h6), (1, x14), (2, this), (0, l3_h6), (2, sf3)]) (lo' := [(0, (2, this)), (1, (0, l1_h6)), (2, (0, l2_h6)), (3, (0, l3_h6)), (4, (1, x14))]) rfl ?_
                refine r_callV gd hX hP rfl cv_X9_77_136 hS (d' := 0) (mc' := 0) (ms' := 0) (as' := [(1, x14), (0, l3_h6)]) (st := [(0, l3_h6), (2, sf3)]) (by first | decide | omega) (by first | decide | omega) (by first | decide | omega) rfl rfl (Nat.le_of_ble_eq_true rfl) (c_X9_ratio E S (up (up (up (up (hw [(119, -1), (126, -1), (127, -1)] G Gh6) 127 sf3 l3_h6 0) 127 pf5 l3_h6 0) 126 lf7 l3_h6 z8) 119 rf15 l3_h6 l1_h6) this x14 l3_h6 hS (by first | decide | omega) (by first | decide | omega) (by first | decide | omega) (by first | decide | omega)) ?_
                rintro _ _ _ ⟨rfl, rfl, z29, rfl, z29a, z29b⟩
                refine r_lastK hX hP rfl al_127 sf3s (by first | decide | omega) (by first | decide | omega) (by first | decide | omega) (by first | decide | omega) (fun h30 => ?_)
                refine r_ex hX hP 3 (pc' := 6) (st' := []) (lo' := [(0, (2, this)), (1, (0, l1_h6)), (2, (0, l2_h6)), (3, (0, (l3_h6 + 1))), (4, (1, x14))]) rfl ?_
                refine r_pick hX [0, 1, 2, 3] (lo' := [(0, (2, this)), (1, (0, l1_h6)), (2, (0, l2_h6)), (3, (0, (l3_h6 + 1)))]) rfl ?_
                refine r_eqG (X := X) (hw_up (hw_up (hw_up (hw_up (hw_up (hw_base _ _ _) rfl) rfl) rfl) rfl) rfl) ?_
                exact ih6 l1_h6 l2_h6 (l3_h6 + 1) _ (by first | decide | omega) (by first | decide | omega) (by first | decide | omega) (by first | decide | omega) (by first | decide | omega) (by first | decide | omega) (by first | decide | omega)
            · skip
              refine r_ex hX hP 4 (pc' := 112) (st' := [(0, l2_h6), (1, x14), (0, l3_h6), (2, this)]) (lo' := [(0, (2, this)), (1, (0, l1_h6)), (2, (0, l2_h6)), (3, (0, l3_h6)), (4, (1, x14))]) rfl ?_
              refine r_callV gd hX hP rfl cv_X9_73_136 hS (d' := 1) (mc' := 0) (ms' := 0) (as' := [(0, l3_h6), (1, x14), (0, l2_h6)]) (st := []) (by first | decide | omega) (by first | decide | omega) (by first | decide | omega) rfl rfl (Nat.le_of_ble_eq_true rfl) (c_X9_give E S (up (up (up (up (hw [(119, -1), (126, -1), (127, -1)] G Gh6) 127 sf3 l3_h6 0) 127 pf5 l3_h6 0) 126 lf7 l3_h6 z8) 119 rf15 l3_h6 l1_h6) this l3_h6 x14 l2_h6 hS (by first | decide | omega) (by first | decide | omega) (by first | decide | omega) (by first | decide | omega) (by first | decide | omega) (by first | decide | omega)) ?_
              rintro _ _ _ ⟨rfl, ⟨G31, rfl⟩, rfl, -⟩
              refine r_ex hX hP 3 (pc' := 6) (st' := []) (lo' := [(0, (2, this)), (1, (0, l1_h6)), (2, (0, l2_h6)), (3, (0, (l3_h6 + 1))), (4, (1, x14))]) rfl ?_
              refine r_pick hX [0, 1, 2, 3] (lo' := [(0, (2, this)), (1, (0, l1_h6)), (2, (0, l2_h6)), (3, (0, (l3_h6 + 1)))]) rfl ?_
              refine r_eqG (X := X) (hw_sub (hw_up (hw_up (hw_up (hw_up (hw_base _ _ _) rfl) rfl) rfl) rfl) rfl) ?_
              exact ih6 l1_h6 l2_h6 (l3_h6 + 1) _ (by first | decide | omega) (by first | decide | omega) (by first | decide | omega) (by first | decide | omega) (by first | decide | omega) (by first | decide | omega) (by first | decide | omega)
          · skip
            refine r_ex hX hP 1 (pc' := 82) (st' := [(2, this)]) (lo' := [(0, (2, this)), (1, (0, l1_h6)), (2, (0, l2_h6)), (3, (0, l3_h6)), (4, (1, x14))]) rfl ?_
            refine r_getR hX hP rfl fl_X9_19_136 hS (fun mf32 mf32e mf32s => ?_)
            refine r_ex hX hP 1 (pc' := 86) (st' := [(0, l3_h6), (2, mf32)]) (lo' := [(0, (2, this)), (1, (0, l1_h6)), (2, (0, l2_h6)), (3, (0, l3_h6)), (4, (1, x14))]) rfl ?_
            refine r_iald hX hP rfl al_119 mf32s (by first | decide | omega) (by first | decide | omega) (fun x33 x33e x33a x33b => ?_)
            refine r_ex hX hP 2 (pc' := 89) (st' := [(2, this)]) (lo' := [(0, (2, this)), (1, (0, x33)), (2, (0, l2_h6)), (3, (0, l3_h6)), (4, (1, x14))]) rfl ?_
            refine r_getR hX hP rfl fl_X9_25_136 hS (fun nf34 nf34e nf34s => ?_)
            refine r_ex hX hP 1 (pc' := 93) (st' := [(0, l3_h6), (2, nf34)]) (lo' := [(0, (2, this)), (1, (0, x33)), (2, (0, l2_h6)), (3, (0, l3_h6)), (4, (1, x14))]) rfl ?_
            refine r_iald hX hP rfl al_119 nf34s (by first | decide | omega) (by first | decide | omega) (fun x35 x35e x35a x35b => ?_)
            refine r_ex hX hP 4 (pc' := 6) (st' := []) (lo' := [(0, (2, this)), (1, (0, x33)), (2, (0, x35)), (3, (0, (l3_h6 + 1))), (4, (1, x14))]) rfl ?_
            refine r_pick hX [0, 1, 2, 3] (lo' := [(0, (2, this)), (1, (0, x33)), (2, (0, x35)), (3, (0, (l3_h6 + 1)))]) rfl ?_
            refine r_eqG (X := X) (hw_up (hw_up (hw_up (hw_up (hw_base _ _ _) rfl) rfl) rfl) rfl) ?_
            exact ih6 x33 x35 (l3_h6 + 1) _ (by first | decide | omega) (by first | decide | omega) (by first | decide | omega) (by first | decide | omega) (by first | decide | omega) (by first | decide | omega) (by first | decide | omega)
        · skip
          refine r_ex hX hP 3 (pc' := 6) (st' := []) (lo' := [(0, (2, this)), (1, (0, l1_h6)), (2, (0, l2_h6)), (3, (0, (l3_h6 + 1)))]) rfl ?_
          refine r_eqG (X := X) (hw_up (hw_up (hw_up (hw_base _ _ _) rfl) rfl) rfl) ?_
          exact ih6 l1_h6 l2_h6 (l3_h6 + 1) _ (by first | decide | omega) (by first | decide | omega) (by first | decide | omega) (by first | decide | omega) (by first | decide | omega) (by first | decide | omega) (by first | decide | omega)
  refine r_eqG (X := X) (hw_refl [(119, -1), (126, -1), (127, -1)] _) ?_
  exact loop6 ((30 - 0) + 1 : Int).toNat 0 0 0 _ (by first | decide | omega) (by first | decide | omega) (by first | decide | omega) (by first | decide | omega) (by first | decide | omega) (by first | decide | omega) (by first | decide | omega)
set_option maxRecDepth 100000 in
set_option maxHeartbeats 4000000 in
theorem c_X9_taken (E : En) (S : Sg) (G : Gh) (this : Int) (of_ : Int) (hS : S this = 136) (of__a : 0 ≤ of_) (of__b : of_ ≤ 3) : Calls E mX9_taken [(2, this), (0, of_)] S G 3 0 0 (fun r S' G' => S = S' ∧ G = G' ∧ ∃ z : Int, r = some (1, z) ∧ (-9223372036854775808) ≤ z ∧ z ≤ 9223372036854775807) := by
  refine calls_by [(0, (2, this)), (1, (0, of_))] rfl rfl (Nat.le_of_ble_eq_true rfl) (fun X hX => ?_)
  have hP := hPX9_taken
  refine r_ex hX hP 4 (pc' := 5) (st' := []) (lo' := [(0, (2, this)), (1, (0, of_)), (2, (1, 0)), (4, (0, 0))]) rfl ?_
  have loop5 : ∀ (nF : Nat) (l2_h5 l4_h5 : Int), (-9223372036854775808) ≤ l2_h5 → l2_h5 ≤ 9223372036854775807 → 0 ≤ l4_h5 → l4_h5 ≤ 30 → 30 - l4_h5 < (nF : Int) → X 0 0 5 [] [(0, (2, this)), (1, (0, of_)), (2, (1, l2_h5)), (4, (0, l4_h5))] S G := by
    intro nF
    induction nF with
    | zero => intro l2_h5 l4_h5 yh5_0 yh5_1 yh5_2 yh5_3 ym5; exfalso; omega
    | succ nF ih5 =>
      intro l2_h5 l4_h5 yh5_0 yh5_1 yh5_2 yh5_3 ym5
      refine r_ex hX hP 2 (pc' := 8) (st' := [(2, this), (0, l4_h5)]) (lo' := [(0, (2, this)), (1, (0, of_)), (2, (1, l2_h5)), (4, (0, l4_h5))]) rfl ?_
      refine r_getI hX hP rfl fl_X9_63_136 hS (fun sf1 sf1e sf1a sf1b => ?_)
      refine r_ic_ge hX hP rfl (tgt := 62) rfl (by first | decide | omega) (by first | decide | omega) (by first | decide | omega) (by first | decide | omega) (fun c2 => ?_) (fun c2 => ?_)
      · skip
        refine r_ex hX hP 2 (pc' := 64) (st' := [(2, this), (1, l2_h5)]) (lo' := [(0, (2, this)), (1, (0, of_)), (2, (1, l2_h5)), (4, (0, l4_h5))]) rfl ?_
        refine r_getR hX hP rfl fl_X9_40_136 hS (fun hf3 hf3e hf3s => ?_)
        refine r_ex hX hP 1 (pc' := 68) (st' := [(0, of_), (2, hf3), (1, l2_h5)]) (lo' := [(0, (2, this)), (1, (0, of_)), (2, (1, l2_h5)), (4, (0, l4_h5))]) rfl ?_
        refine r_lald hX hP rfl al_125 hf3s (by first | decide | omega) (by first | decide | omega) (fun x4 x4e x4a x4b => ?_)
        refine r_mminL hX hP rfl (tbg sg5 209 rfl rfl) (tbg sg5 210 rfl rfl) (tbg sg1 14 rfl rfl) (tbg sg5 211 rfl rfl) (by decide) (by decide) (by decide) (Nat.le_of_ble_eq_true rfl) (by first | decide | omega) (by first | decide | omega) (by first | decide | omega) (by first | decide | omega) (fun c5 => ?_) (fun c5 => ?_)
        · skip
          exact r_retL hX hP rfl rfl (by first | decide | omega) (by first | decide | omega) ⟨rfl, rfl, l2_h5, rfl, (by first | decide | omega)⟩
        · skip
          exact r_retL hX hP rfl rfl (by first | decide | omega) (by first | decide | omega) ⟨rfl, rfl, x4, rfl, (by first | decide | omega)⟩
      · skip
        refine r_ex hX hP 1 (pc' := 15) (st' := [(2, this)]) (lo' := [(0, (2, this)), (1, (0, of_)), (2, (1, l2_h5)), (4, (0, l4_h5))]) rfl ?_
        refine r_getR hX hP rfl fl_X9_15_136 hS (fun kf6 kf6e kf6s => ?_)
        refine r_ex hX hP 1 (pc' := 20) (st' := [(0, l4_h5), (2, kf6)]) (lo' := [(0, (2, this)), (1, (0, of_)), (2, (1, l2_h5)), (4, (0, l4_h5))]) rfl ?_
        refine r_iald hX hP rfl al_120 kf6s (by first | decide | omega) (by first | decide | omega) (fun x7 x7e x7a x7b => ?_)
        refine r_ex hX hP 1 (pc' := 22) (st' := [(0, 1), (0, x7)]) (lo' := [(0, (2, this)), (1, (0, of_)), (2, (1, l2_h5)), (4, (0, l4_h5))]) rfl ?_
        refine r_ic_ne hX hP rfl (tgt := 56) rfl (by first | decide | omega) (by first | decide | omega) (by first | decide | omega) (by first | decide | omega) (fun c8 => ?_) (fun c8 => ?_)
        · skip
          refine r_ex hX hP 2 (pc' := 5) (st' := []) (lo' := [(0, (2, this)), (1, (0, of_)), (2, (1, l2_h5)), (4, (0, (l4_h5 + 1)))]) rfl ?_
          exact ih5 l2_h5 (l4_h5 + 1) (by first | decide | omega) (by first | decide | omega) (by first | decide | omega) (by first | decide | omega) (by first | decide | omega)
        · skip
          refine r_ex hX hP 1 (pc' := 26) (st' := [(2, this)]) (lo' := [(0, (2, this)), (1, (0, of_)), (2, (1, l2_h5)), (4, (0, l4_h5))]) rfl ?_
          refine r_getR hX hP rfl fl_X9_28_136 hS (fun rf9 rf9e rf9s => ?_)
          refine r_ex hX hP 1 (pc' := 31) (st' := [(0, l4_h5), (2, rf9)]) (lo' := [(0, (2, this)), (1, (0, of_)), (2, (1, l2_h5)), (4, (0, l4_h5))]) rfl ?_
          refine r_iald hX hP rfl al_122 rf9s (by first | decide | omega) (by first | decide | omega) (fun x10 x10e x10a x10b => ?_)
          refine r_ex hX hP 1 (pc' := 33) (st' := [(0, of_), (0, x10)]) (lo' := [(0, (2, this)), (1, (0, of_)), (2, (1, l2_h5)), (4, (0, l4_h5))]) rfl ?_
          refine r_ic_ne hX hP rfl (tgt := 56) rfl (by first | decide | omega) (by first | decide | omega) (by first | decide | omega) (by first | decide | omega) (fun c11 => ?_) (fun c11 => ?_)
          · skip
            refine r_ex hX hP 2 (pc' := 5) (st' := []) (lo' := [(0, (2, this)), (1, (0, of_)), (2, (1, l2_h5)), (4, (0, (l4_h5 + 1)))]) rfl ?_
            exact ih5 l2_h5 (l4_h5 + 1) (by first | decide | omega) (by first | decide | omega) (by first | decide | omega) (by first | decide | omega) (by first | decide | omega)
          · skip
            refine r_ex hX hP 1 (pc' := 37) (st' := [(2, this)]) (lo' := [(0, (2, this)), (1, (0, of_)), (2, (1, l2_h5)), (4, (0, l4_h5))]) rfl ?_
            refine r_getR hX hP rfl fl_X9_44_136 hS (fun lf12 lf12e lf12s => ?_)
            refine r_ex hX hP 1 (pc' := 42) (st' := [(0, l4_h5), (2, lf12)]) (lo' := [(0, (2, this)), (1, (0, of_)), (2, (1, l2_h5)), (4, (0, l4_h5))]) rfl ?_
            refine r_zald hX hP rfl al_126 lf12s (by first | decide | omega) (by first | decide | omega) (fun x13 x13e x13a x13b => ?_)
            refine r_if_eq hX hP rfl (tgt := 56) rfl (by first | decide | omega) (by first | decide | omega) (fun c14 => ?_) (fun c14 => ?_)
            · skip
              refine r_ex hX hP 2 (pc' := 5) (st' := []) (lo' := [(0, (2, this)), (1, (0, of_)), (2, (1, l2_h5)), (4, (0, (l4_h5 + 1)))]) rfl ?_
              exact ih5 l2_h5 (l4_h5 + 1) (by first | decide | omega) (by first | decide | omega) (by first | decide | omega) (by first | decide | omega) (by first | decide | omega)
            · skip
              refine r_ex hX hP 2 (pc' := 48) (st' := [(2, this), (1, l2_h5)]) (lo' := [(0, (2, this)), (1, (0, of_)), (2, (1, l2_h5)), (4, (0, l4_h5))]) rfl ?_
              refine r_getR hX hP rfl fl_X9_51_136 hS (fun sf15 sf15e sf15s => ?_)
              refine r_ex hX hP 1 (pc' := 53) (st' := [(0, l4_h5), (2, sf15), (1, l2_h5)]) (lo' := [(0, (2, this)), (1, (0, of_)), (2, (1, l2_h5)), (4, (0, l4_h5))]) rfl ?_
              refine r_lald hX hP rfl al_127 sf15s (by first | decide | omega) (by first | decide | omega) (fun x16 x16e x16a x16b => ?_)
              refine r_ex hX hP 1 (pc' := 55) (st' := [(1, (l2_h5 + x16))]) (lo' := [(0, (2, this)), (1, (0, of_)), (2, (1, l2_h5)), (4, (0, l4_h5))]) rfl ?_
              refine r_hvL hX (fun w17 w17a w17b w17e => ?_)
              refine r_ex hX hP 3 (pc' := 5) (st' := []) (lo' := [(0, (2, this)), (1, (0, of_)), (2, (1, w17)), (4, (0, (l4_h5 + 1)))]) rfl ?_
              exact ih5 w17 (l4_h5 + 1) (by first | decide | omega) (by first | decide | omega) (by first | decide | omega) (by first | decide | omega) (by first | decide | omega)
  exact loop5 ((30 - 0) + 1 : Int).toNat 0 0 (by first | decide | omega) (by first | decide | omega) (by first | decide | omega) (by first | decide | omega) (by first | decide | omega)
set_option maxRecDepth 100000 in
set_option maxHeartbeats 4000000 in
theorem c_X9_isPlain (E : En) (S : Sg) (G : Gh) (this : Int) (hS : S this = 136) : Calls E mX9_isPlain [(2, this)] S G 0 0 0 (fun r S' G' => S = S' ∧ G = G' ∧ ∃ z : Int, r = some (0, z) ∧ 0 ≤ z ∧ z ≤ 1) := by
  refine calls_by [(0, (2, this))] rfl rfl (Nat.le_of_ble_eq_true rfl) (fun X hX => ?_)
  have hP := hPX9_isPlain
  refine r_ex hX hP 1 (pc' := 1) (st' := [(2, this)]) (lo' := [(0, (2, this))]) rfl ?_
  refine r_getI hX hP rfl fl_X9_66_136 hS (fun cf1 cf1e cf1a cf1b => ?_)
  refine r_if_ne hX hP rfl (tgt := 11) rfl (by first | decide | omega) (by first | decide | omega) (fun c2 => ?_) (fun c2 => ?_)
  · skip
    refine r_ex hX hP 4 (pc' := 15) (st' := []) (lo' := [(0, (2, this)), (1, (0, 0)), (2, (0, 0))]) rfl ?_
    have loop15 : ∀ (nF : Nat) (l1_h15 l2_h15 : Int), 0 ≤ l1_h15 → l1_h15 ≤ 1 → 0 ≤ l2_h15 → l2_h15 ≤ 30 → 30 - l2_h15 < (nF : Int) → X 0 0 15 [] [(0, (2, this)), (1, (0, l1_h15)), (2, (0, l2_h15))] S G := by
      intro nF
      induction nF with
      | zero => intro l1_h15 l2_h15 yh15_0 yh15_1 yh15_2 yh15_3 ym15; exfalso; omega
      | succ nF ih15 =>
        intro l1_h15 l2_h15 yh15_0 yh15_1 yh15_2 yh15_3 ym15
        refine r_ex hX hP 2 (pc' := 17) (st' := [(2, this), (0, l2_h15)]) (lo' := [(0, (2, this)), (1, (0, l1_h15)), (2, (0, l2_h15))]) rfl ?_
        refine r_getI hX hP rfl fl_X9_63_136 hS (fun sf3 sf3e sf3a sf3b => ?_)
        refine r_ic_ge hX hP rfl (tgt := 50) rfl (by first | decide | omega) (by first | decide | omega) (by first | decide | omega) (by first | decide | omega) (fun c4 => ?_) (fun c4 => ?_)
        · skip
          refine r_ex hX hP 1 (pc' := 51) (st' := [(0, l1_h15)]) (lo' := [(0, (2, this)), (1, (0, l1_h15)), (2, (0, l2_h15))]) rfl ?_
          exact r_retZ hX hP rfl rfl (by first | decide | omega) (by first | decide | omega) (by first | decide | omega) (by first | decide | omega) ⟨rfl, rfl, l1_h15, rfl, (by first | decide | omega)⟩
        · skip
          refine r_ex hX hP 1 (pc' := 24) (st' := [(0, l1_h15)]) (lo' := [(0, (2, this)), (1, (0, l1_h15)), (2, (0, l2_h15))]) rfl ?_
          refine r_if_eq hX hP rfl (tgt := 42) rfl (by first | decide | omega) (by first | decide | omega) (fun c5 => ?_) (fun c5 => ?_)
          · skip
            refine r_ex hX hP 4 (pc' := 15) (st' := []) (lo' := [(0, (2, this)), (1, (0, 0)), (2, (0, (l2_h15 + 1)))]) rfl ?_
            exact ih15 0 (l2_h15 + 1) (by first | decide | omega) (by first | decide | omega) (by first | decide | omega) (by first | decide | omega) (by first | decide | omega)
          · skip
            refine r_ex hX hP 1 (pc' := 28) (st' := [(2, this)]) (lo' := [(0, (2, this)), (1, (0, l1_h15)), (2, (0, l2_h15))]) rfl ?_
            refine r_getR hX hP rfl fl_X9_15_136 hS (fun kf6 kf6e kf6s => ?_)
            refine r_ex hX hP 1 (pc' := 32) (st' := [(0, l2_h15), (2, kf6)]) (lo' := [(0, (2, this)), (1, (0, l1_h15)), (2, (0, l2_h15))]) rfl ?_
            refine r_iald hX hP rfl al_120 kf6s (by first | decide | omega) (by first | decide | omega) (fun x7 x7e x7a x7b => ?_)
            refine r_ex hX hP 1 (pc' := 35) (st' := [(0, 6), (0, x7)]) (lo' := [(0, (2, this)), (1, (0, l1_h15)), (2, (0, l2_h15))]) rfl ?_
            refine r_ic_eq hX hP rfl (tgt := 42) rfl (by first | decide | omega) (by first | decide | omega) (by first | decide | omega) (by first | decide | omega) (fun c8 => ?_) (fun c8 => ?_)
            · skip
              refine r_ex hX hP 4 (pc' := 15) (st' := []) (lo' := [(0, (2, this)), (1, (0, 0)), (2, (0, (l2_h15 + 1)))]) rfl ?_
              exact ih15 0 (l2_h15 + 1) (by first | decide | omega) (by first | decide | omega) (by first | decide | omega) (by first | decide | omega) (by first | decide | omega)
            · skip
              refine r_ex hX hP 5 (pc' := 15) (st' := []) (lo' := [(0, (2, this)), (1, (0, 1)), (2, (0, (l2_h15 + 1)))]) rfl ?_
              exact ih15 1 (l2_h15 + 1) (by first | decide | omega) (by first | decide | omega) (by first | decide | omega) (by first | decide | omega) (by first | decide | omega)
    exact loop15 ((30 - 0) + 1 : Int).toNat 0 0 (by first | decide | omega) (by first | decide | omega) (by first | decide | omega) (by first | decide | omega) (by first | decide | omega)
  · skip
    refine r_ex hX hP 5 (pc' := 15) (st' := []) (lo' := [(0, (2, this)), (1, (0, 1)), (2, (0, 0))]) rfl ?_
    have loop15 : ∀ (nF : Nat) (l1_h15 l2_h15 : Int), 0 ≤ l1_h15 → l1_h15 ≤ 1 → 0 ≤ l2_h15 → l2_h15 ≤ 30 → 30 - l2_h15 < (nF : Int) → X 0 0 15 [] [(0, (2, this)), (1, (0, l1_h15)), (2, (0, l2_h15))] S G := by
      intro nF
      induction nF with
      | zero => intro l1_h15 l2_h15 yh15_0 yh15_1 yh15_2 yh15_3 ym15; exfalso; omega
      | succ nF ih15 =>
        intro l1_h15 l2_h15 yh15_0 yh15_1 yh15_2 yh15_3 ym15
        refine r_ex hX hP 2 (pc' := 17) (st' := [(2, this), (0, l2_h15)]) (lo' := [(0, (2, this)), (1, (0, l1_h15)), (2, (0, l2_h15))]) rfl ?_
        refine r_getI hX hP rfl fl_X9_63_136 hS (fun sf9 sf9e sf9a sf9b => ?_)
        refine r_ic_ge hX hP rfl (tgt := 50) rfl (by first | decide | omega) (by first | decide | omega) (by first | decide | omega) (by first | decide | omega) (fun c10 => ?_) (fun c10 => ?_)
        · skip
          refine r_ex hX hP 1 (pc' := 51) (st' := [(0, l1_h15)]) (lo' := [(0, (2, this)), (1, (0, l1_h15)), (2, (0, l2_h15))]) rfl ?_
          exact r_retZ hX hP rfl rfl (by first | decide | omega) (by first | decide | omega) (by first | decide | omega) (by first | decide | omega) ⟨rfl, rfl, l1_h15, rfl, (by first | decide | omega)⟩
        · skip
          refine r_ex hX hP 1 (pc' := 24) (st' := [(0, l1_h15)]) (lo' := [(0, (2, this)), (1, (0, l1_h15)), (2, (0, l2_h15))]) rfl ?_
          refine r_if_eq hX hP rfl (tgt := 42) rfl (by first | decide | omega) (by first | decide | omega) (fun c11 => ?_) (fun c11 => ?_)
          · skip
            refine r_ex hX hP 4 (pc' := 15) (st' := []) (lo' := [(0, (2, this)), (1, (0, 0)), (2, (0, (l2_h15 + 1)))]) rfl ?_
            exact ih15 0 (l2_h15 + 1) (by first | decide | omega) (by first | decide | omega) (by first | decide | omega) (by first | decide | omega) (by first | decide | omega)
          · skip
            refine r_ex hX hP 1 (pc' := 28) (st' := [(2, this)]) (lo' := [(0, (2, this)), (1, (0, l1_h15)), (2, (0, l2_h15))]) rfl ?_
            refine r_getR hX hP rfl fl_X9_15_136 hS (fun kf12 kf12e kf12s => ?_)
            refine r_ex hX hP 1 (pc' := 32) (st' := [(0, l2_h15), (2, kf12)]) (lo' := [(0, (2, this)), (1, (0, l1_h15)), (2, (0, l2_h15))]) rfl ?_
            refine r_iald hX hP rfl al_120 kf12s (by first | decide | omega) (by first | decide | omega) (fun x13 x13e x13a x13b => ?_)
            refine r_ex hX hP 1 (pc' := 35) (st' := [(0, 6), (0, x13)]) (lo' := [(0, (2, this)), (1, (0, l1_h15)), (2, (0, l2_h15))]) rfl ?_
            refine r_ic_eq hX hP rfl (tgt := 42) rfl (by first | decide | omega) (by first | decide | omega) (by first | decide | omega) (by first | decide | omega) (fun c14 => ?_) (fun c14 => ?_)
            · skip
              refine r_ex hX hP 4 (pc' := 15) (st' := []) (lo' := [(0, (2, this)), (1, (0, 0)), (2, (0, (l2_h15 + 1)))]) rfl ?_
              exact ih15 0 (l2_h15 + 1) (by first | decide | omega) (by first | decide | omega) (by first | decide | omega) (by first | decide | omega) (by first | decide | omega)
            · skip
              refine r_ex hX hP 5 (pc' := 15) (st' := []) (lo' := [(0, (2, this)), (1, (0, 1)), (2, (0, (l2_h15 + 1)))]) rfl ?_
              exact ih15 1 (l2_h15 + 1) (by first | decide | omega) (by first | decide | omega) (by first | decide | omega) (by first | decide | omega) (by first | decide | omega)
    exact loop15 ((30 - 0) + 1 : Int).toNat 1 0 (by first | decide | omega) (by first | decide | omega) (by first | decide | omega) (by first | decide | omega) (by first | decide | omega)
set_option maxRecDepth 100000 in
set_option maxHeartbeats 4000000 in
theorem c_X9_takesAll (E : En) (S : Sg) (G : Gh) (this : Int) (hS : S this = 136) : Calls E mX9_takesAll [(2, this)] S G 0 0 0 (fun r S' G' => S = S' ∧ G = G' ∧ ∃ z : Int, r = some (0, z) ∧ 0 ≤ z ∧ z ≤ 1) := by
  refine calls_by [(0, (2, this))] rfl rfl (Nat.le_of_ble_eq_true rfl) (fun X hX => ?_)
  have hP := hPX9_takesAll
  refine r_ex hX hP 4 (pc' := 4) (st' := []) (lo' := [(0, (2, this)), (1, (0, 0)), (2, (0, 0))]) rfl ?_
  have loop4 : ∀ (nF : Nat) (l1_h4 l2_h4 : Int), 0 ≤ l1_h4 → l1_h4 ≤ 1 → 0 ≤ l2_h4 → l2_h4 ≤ 30 → 30 - l2_h4 < (nF : Int) → X 0 0 4 [] [(0, (2, this)), (1, (0, l1_h4)), (2, (0, l2_h4))] S G := by
    intro nF
    induction nF with
    | zero => intro l1_h4 l2_h4 yh4_0 yh4_1 yh4_2 yh4_3 ym4; exfalso; omega
    | succ nF ih4 =>
      intro l1_h4 l2_h4 yh4_0 yh4_1 yh4_2 yh4_3 ym4
      refine r_ex hX hP 2 (pc' := 6) (st' := [(2, this), (0, l2_h4)]) (lo' := [(0, (2, this)), (1, (0, l1_h4)), (2, (0, l2_h4))]) rfl ?_
      refine r_getI hX hP rfl fl_X9_63_136 hS (fun sf1 sf1e sf1a sf1b => ?_)
      refine r_ic_ge hX hP rfl (tgt := 53) rfl (by first | decide | omega) (by first | decide | omega) (by first | decide | omega) (by first | decide | omega) (fun c2 => ?_) (fun c2 => ?_)
      · skip
        refine r_ex hX hP 1 (pc' := 54) (st' := [(0, l1_h4)]) (lo' := [(0, (2, this)), (1, (0, l1_h4)), (2, (0, l2_h4))]) rfl ?_
        exact r_retZ hX hP rfl rfl (by first | decide | omega) (by first | decide | omega) (by first | decide | omega) (by first | decide | omega) ⟨rfl, rfl, l1_h4, rfl, (by first | decide | omega)⟩
      · skip
        refine r_ex hX hP 1 (pc' := 13) (st' := [(0, l1_h4)]) (lo' := [(0, (2, this)), (1, (0, l1_h4)), (2, (0, l2_h4))]) rfl ?_
        refine r_if_ne hX hP rfl (tgt := 41) rfl (by first | decide | omega) (by first | decide | omega) (fun c3 => ?_) (fun c3 => ?_)
        · skip
          refine r_ex hX hP 5 (pc' := 4) (st' := []) (lo' := [(0, (2, this)), (1, (0, 1)), (2, (0, (l2_h4 + 1)))]) rfl ?_
          exact ih4 1 (l2_h4 + 1) (by first | decide | omega) (by first | decide | omega) (by first | decide | omega) (by first | decide | omega) (by first | decide | omega)
        · skip
          refine r_ex hX hP 1 (pc' := 17) (st' := [(2, this)]) (lo' := [(0, (2, this)), (1, (0, l1_h4)), (2, (0, l2_h4))]) rfl ?_
          refine r_getR hX hP rfl fl_X9_15_136 hS (fun kf4 kf4e kf4s => ?_)
          refine r_ex hX hP 1 (pc' := 21) (st' := [(0, l2_h4), (2, kf4)]) (lo' := [(0, (2, this)), (1, (0, l1_h4)), (2, (0, l2_h4))]) rfl ?_
          refine r_iald hX hP rfl al_120 kf4s (by first | decide | omega) (by first | decide | omega) (fun x5 x5e x5a x5b => ?_)
          refine r_ex hX hP 1 (pc' := 23) (st' := [(0, 1), (0, x5)]) (lo' := [(0, (2, this)), (1, (0, l1_h4)), (2, (0, l2_h4))]) rfl ?_
          refine r_ic_ne hX hP rfl (tgt := 45) rfl (by first | decide | omega) (by first | decide | omega) (by first | decide | omega) (by first | decide | omega) (fun c6 => ?_) (fun c6 => ?_)
          · skip
            refine r_ex hX hP 4 (pc' := 4) (st' := []) (lo' := [(0, (2, this)), (1, (0, 0)), (2, (0, (l2_h4 + 1)))]) rfl ?_
            exact ih4 0 (l2_h4 + 1) (by first | decide | omega) (by first | decide | omega) (by first | decide | omega) (by first | decide | omega) (by first | decide | omega)
          · skip
            refine r_ex hX hP 1 (pc' := 27) (st' := [(2, this)]) (lo' := [(0, (2, this)), (1, (0, l1_h4)), (2, (0, l2_h4))]) rfl ?_
            refine r_getR hX hP rfl fl_X9_19_136 hS (fun mf7 mf7e mf7s => ?_)
            refine r_ex hX hP 1 (pc' := 31) (st' := [(0, l2_h4), (2, mf7)]) (lo' := [(0, (2, this)), (1, (0, l1_h4)), (2, (0, l2_h4))]) rfl ?_
            refine r_iald hX hP rfl al_119 mf7s (by first | decide | omega) (by first | decide | omega) (fun x8 x8e x8a x8b => ?_)
            refine r_ex hX hP 1 (pc' := 33) (st' := [(2, this), (0, x8)]) (lo' := [(0, (2, this)), (1, (0, l1_h4)), (2, (0, l2_h4))]) rfl ?_
            refine r_getR hX hP rfl fl_X9_25_136 hS (fun nf9 nf9e nf9s => ?_)
            refine r_ex hX hP 1 (pc' := 37) (st' := [(0, l2_h4), (2, nf9), (0, x8)]) (lo' := [(0, (2, this)), (1, (0, l1_h4)), (2, (0, l2_h4))]) rfl ?_
            refine r_iald hX hP rfl al_119 nf9s (by first | decide | omega) (by first | decide | omega) (fun x10 x10e x10a x10b => ?_)
            refine r_ic_ne hX hP rfl (tgt := 45) rfl (by first | decide | omega) (by first | decide | omega) (by first | decide | omega) (by first | decide | omega) (fun c11 => ?_) (fun c11 => ?_)
            · skip
              refine r_ex hX hP 4 (pc' := 4) (st' := []) (lo' := [(0, (2, this)), (1, (0, 0)), (2, (0, (l2_h4 + 1)))]) rfl ?_
              exact ih4 0 (l2_h4 + 1) (by first | decide | omega) (by first | decide | omega) (by first | decide | omega) (by first | decide | omega) (by first | decide | omega)
            · skip
              refine r_ex hX hP 5 (pc' := 4) (st' := []) (lo' := [(0, (2, this)), (1, (0, 1)), (2, (0, (l2_h4 + 1)))]) rfl ?_
              exact ih4 1 (l2_h4 + 1) (by first | decide | omega) (by first | decide | omega) (by first | decide | omega) (by first | decide | omega) (by first | decide | omega)
  exact loop4 ((30 - 0) + 1 : Int).toNat 0 0 (by first | decide | omega) (by first | decide | omega) (by first | decide | omega) (by first | decide | omega) (by first | decide | omega)
set_option maxRecDepth 100000 in
set_option maxHeartbeats 4000000 in
theorem c_X9_addUp (E : En) (S : Sg) (G : Gh) (this : Int) (paper : Int) (sum_ : Int) (hS : S this = 136) (sum__s : S sum_ = 134) (paper_a : (-2147483648) ≤ paper) (paper_b : paper ≤ 2147483647) : Calls E mX9_addUp [(2, this), (0, paper), (2, sum_)] S G 5 0 0 (fun r S' G' => S = S' ∧ (∃ G1, hw [(99, -1), (134, 0), (134, 1), (134, 2)] G G1 = G') ∧ r = none ∧ True) := by
  refine calls_by [(0, (2, this)), (1, (0, paper)), (2, (2, sum_))] rfl rfl (Nat.le_of_ble_eq_true rfl) (fun X hX => ?_)
  have hP := hPX9_addUp
  refine r_ex hX hP 2 (pc' := 2) (st' := [(1, 1), (2, sum_)]) (lo' := [(0, (2, this)), (1, (0, paper)), (2, (2, sum_))]) rfl ?_
  refine r_callV gd hX hP rfl cv_X9_93_134 sum__s (d' := 1) (mc' := 0) (ms' := 0) (as' := [(1, 1)]) (st := []) (by first | decide | omega) (by first | decide | omega) (by first | decide | omega) rfl rfl (Nat.le_of_ble_eq_true rfl) (c_X4_put E S G sum_ 1 sum__s (by first | decide | omega) (by first | decide | omega)) ?_
  rintro _ _ _ ⟨rfl, ⟨G1, rfl⟩, rfl, -⟩
  refine r_ex hX hP 2 (pc' := 7) (st' := []) (lo' := [(0, (2, this)), (1, (0, paper)), (2, (2, sum_)), (3, (0, 0))]) rfl ?_
  have loop7 : ∀ (nF : Nat) (l3_h7 : Int) (Gh7 : Gh), 0 ≤ l3_h7 → l3_h7 ≤ 30 → 30 - l3_h7 < (nF : Int) → X 0 0 7 [] [(0, (2, this)), (1, (0, paper)), (2, (2, sum_)), (3, (0, l3_h7))] S (hw [(99, -1), (134, 0), (134, 1), (134, 2)] (hw [(99, -1), (134, 0), (134, 1), (134, 2)] G G1) Gh7) := by
    intro nF
    induction nF with
    | zero => intro l3_h7 Gh7 yh7_0 yh7_1 ym7; exfalso; omega
    | succ nF ih7 =>
      intro l3_h7 Gh7 yh7_0 yh7_1 ym7
      refine r_ex hX hP 2 (pc' := 9) (st' := [(2, this), (0, l3_h7)]) (lo' := [(0, (2, this)), (1, (0, paper)), (2, (2, sum_)), (3, (0, l3_h7))]) rfl ?_
      refine r_getI hX hP rfl fl_X9_63_136 hS (fun sf2 sf2e sf2a sf2b => ?_)
      refine r_ic_ge hX hP rfl (tgt := 90) rfl (by first | decide | omega) (by first | decide | omega) (by first | decide | omega) (by first | decide | omega) (fun c3 => ?_) (fun c3 => ?_)
      · skip
        exact r_retV hX hP rfl rfl (by first | decide | omega) (by first | decide | omega) ⟨rfl, ⟨_, (hw_sub (hw_sub (hw_refl _ _) rfl) rfl).symm⟩, rfl, trivial⟩
      · skip
        refine r_ex hX hP 1 (pc' := 16) (st' := [(2, this)]) (lo' := [(0, (2, this)), (1, (0, paper)), (2, (2, sum_)), (3, (0, l3_h7))]) rfl ?_
        refine r_getR hX hP rfl fl_X9_15_136 hS (fun kf4 kf4e kf4s => ?_)
        refine r_ex hX hP 1 (pc' := 20) (st' := [(0, l3_h7), (2, kf4)]) (lo' := [(0, (2, this)), (1, (0, paper)), (2, (2, sum_)), (3, (0, l3_h7))]) rfl ?_
        refine r_iald hX hP rfl al_120 kf4s (by first | decide | omega) (by first | decide | omega) (fun x5 x5e x5a x5b => ?_)
        refine r_if_ne hX hP rfl (tgt := 55) rfl (by first | decide | omega) (by first | decide | omega) (fun c6 => ?_) (fun c6 => ?_)
        · skip
          refine r_ex hX hP 1 (pc' := 56) (st' := [(2, this)]) (lo' := [(0, (2, this)), (1, (0, paper)), (2, (2, sum_)), (3, (0, l3_h7))]) rfl ?_
          refine r_getKR hX hP rfl fl_X9_15_136 hS (x := kf4) kf4e ?_
          refine r_ex hX hP 1 (pc' := 60) (st' := [(0, l3_h7), (2, kf4)]) (lo' := [(0, (2, this)), (1, (0, paper)), (2, (2, sum_)), (3, (0, l3_h7))]) rfl ?_
          refine r_ialdK hX hP rfl al_120 kf4s (by first | decide | omega) (by first | decide | omega) (x := x5) x5e ?_
          refine r_ex hX hP 1 (pc' := 62) (st' := [(0, 1), (0, x5)]) (lo' := [(0, (2, this)), (1, (0, paper)), (2, (2, sum_)), (3, (0, l3_h7))]) rfl ?_
          refine r_ic_ne hX hP rfl (tgt := 84) rfl (by first | decide | omega) (by first | decide | omega) (by first | decide | omega) (by first | decide | omega) (fun c7 => ?_) (fun c7 => ?_)
          · skip
            refine r_ex hX hP 2 (pc' := 7) (st' := []) (lo' := [(0, (2, this)), (1, (0, paper)), (2, (2, sum_)), (3, (0, (l3_h7 + 1)))]) rfl ?_
            refine r_eqG (X := X) (hw_base _ _ _) ?_
            exact ih7 (l3_h7 + 1) _ (by first | decide | omega) (by first | decide | omega) (by first | decide | omega)
          · skip
            refine r_ex hX hP 2 (pc' := 67) (st' := [(2, this), (2, sum_)]) (lo' := [(0, (2, this)), (1, (0, paper)), (2, (2, sum_)), (3, (0, l3_h7))]) rfl ?_
            refine r_getR hX hP rfl fl_X9_19_136 hS (fun mf8 mf8e mf8s => ?_)
            refine r_ex hX hP 1 (pc' := 71) (st' := [(0, l3_h7), (2, mf8), (2, sum_)]) (lo' := [(0, (2, this)), (1, (0, paper)), (2, (2, sum_)), (3, (0, l3_h7))]) rfl ?_
            refine r_iald hX hP rfl al_119 mf8s (by first | decide | omega) (by first | decide | omega) (fun x9 x9e x9a x9b => ?_)
            refine r_ex hX hP 1 (pc' := 73) (st' := [(0, (-x9)), (2, sum_)]) (lo' := [(0, (2, this)), (1, (0, paper)), (2, (2, sum_)), (3, (0, l3_h7))]) rfl ?_
            refine r_hvI hX (fun w10 w10a w10b w10e => ?_)
            refine r_i2l hX hP rfl (by first | decide | omega) (by first | decide | omega) ?_
            refine r_ex hX hP 1 (pc' := 75) (st' := [(2, this), (1, w10), (2, sum_)]) (lo' := [(0, (2, this)), (1, (0, paper)), (2, (2, sum_)), (3, (0, l3_h7))]) rfl ?_
            refine r_getR hX hP rfl fl_X9_25_136 hS (fun nf11 nf11e nf11s => ?_)
            refine r_ex hX hP 1 (pc' := 79) (st' := [(0, l3_h7), (2, nf11), (1, w10), (2, sum_)]) (lo' := [(0, (2, this)), (1, (0, paper)), (2, (2, sum_)), (3, (0, l3_h7))]) rfl ?_
            refine r_iald hX hP rfl al_119 nf11s (by first | decide | omega) (by first | decide | omega) (fun x12 x12e x12a x12b => ?_)
            refine r_i2l hX hP rfl (by first | decide | omega) (by first | decide | omega) ?_
            refine r_callV gd hX hP rfl cv_X9_99_134 sum__s (d' := 4) (mc' := 0) (ms' := 0) (as' := [(1, w10), (1, x12)]) (st := []) (by first | decide | omega) (by first | decide | omega) (by first | decide | omega) rfl rfl (Nat.le_of_ble_eq_true rfl) (c_X4_plus E S (hw [(99, -1), (134, 0), (134, 1), (134, 2)] (hw [(99, -1), (134, 0), (134, 1), (134, 2)] G G1) Gh7) sum_ w10 x12 sum__s (by first | decide | omega) (by first | decide | omega) (by first | decide | omega) (by first | decide | omega)) ?_
            rintro _ _ _ ⟨rfl, ⟨G13, rfl⟩, rfl, -⟩
            refine r_ex hX hP 2 (pc' := 7) (st' := []) (lo' := [(0, (2, this)), (1, (0, paper)), (2, (2, sum_)), (3, (0, (l3_h7 + 1)))]) rfl ?_
            refine r_eqG (X := X) (hw_sub (hw_base _ _ _) rfl) ?_
            exact ih7 (l3_h7 + 1) _ (by first | decide | omega) (by first | decide | omega) (by first | decide | omega)
        · skip
          refine r_ex hX hP 1 (pc' := 25) (st' := [(2, this)]) (lo' := [(0, (2, this)), (1, (0, paper)), (2, (2, sum_)), (3, (0, l3_h7))]) rfl ?_
          refine r_getR hX hP rfl fl_X9_22_136 hS (fun qf14 qf14e qf14s => ?_)
          refine r_ex hX hP 1 (pc' := 29) (st' := [(0, l3_h7), (2, qf14)]) (lo' := [(0, (2, this)), (1, (0, paper)), (2, (2, sum_)), (3, (0, l3_h7))]) rfl ?_
          refine r_iald hX hP rfl al_121 qf14s (by first | decide | omega) (by first | decide | omega) (fun x15 x15e x15a x15b => ?_)
          refine r_ex hX hP 1 (pc' := 31) (st' := [(0, paper), (0, x15)]) (lo' := [(0, (2, this)), (1, (0, paper)), (2, (2, sum_)), (3, (0, l3_h7))]) rfl ?_
          refine r_ic_ne hX hP rfl (tgt := 55) rfl (by first | decide | omega) (by first | decide | omega) (by first | decide | omega) (by first | decide | omega) (fun c16 => ?_) (fun c16 => ?_)
          · skip
            refine r_ex hX hP 1 (pc' := 56) (st' := [(2, this)]) (lo' := [(0, (2, this)), (1, (0, paper)), (2, (2, sum_)), (3, (0, l3_h7))]) rfl ?_
            refine r_getKR hX hP rfl fl_X9_15_136 hS (x := kf4) kf4e ?_
            refine r_ex hX hP 1 (pc' := 60) (st' := [(0, l3_h7), (2, kf4)]) (lo' := [(0, (2, this)), (1, (0, paper)), (2, (2, sum_)), (3, (0, l3_h7))]) rfl ?_
            refine r_ialdK hX hP rfl al_120 kf4s (by first | decide | omega) (by first | decide | omega) (x := x5) x5e ?_
            refine r_ex hX hP 1 (pc' := 62) (st' := [(0, 1), (0, x5)]) (lo' := [(0, (2, this)), (1, (0, paper)), (2, (2, sum_)), (3, (0, l3_h7))]) rfl ?_
            refine r_ic_ne hX hP rfl (tgt := 84) rfl (by first | decide | omega) (by first | decide | omega) (by first | decide | omega) (by first | decide | omega) (fun c17 => ?_) (fun c17 => ?_)
            · skip
              refine r_ex hX hP 2 (pc' := 7) (st' := []) (lo' := [(0, (2, this)), (1, (0, paper)), (2, (2, sum_)), (3, (0, (l3_h7 + 1)))]) rfl ?_
              refine r_eqG (X := X) (hw_base _ _ _) ?_
              exact ih7 (l3_h7 + 1) _ (by first | decide | omega) (by first | decide | omega) (by first | decide | omega)
            · skip
              exfalso; omega
          · skip
            refine r_ex hX hP 2 (pc' := 36) (st' := [(2, this), (2, sum_)]) (lo' := [(0, (2, this)), (1, (0, paper)), (2, (2, sum_)), (3, (0, l3_h7))]) rfl ?_
            refine r_getR hX hP rfl fl_X9_19_136 hS (fun mf18 mf18e mf18s => ?_)
            refine r_ex hX hP 1 (pc' := 40) (st' := [(0, l3_h7), (2, mf18), (2, sum_)]) (lo' := [(0, (2, this)), (1, (0, paper)), (2, (2, sum_)), (3, (0, l3_h7))]) rfl ?_
            refine r_iald hX hP rfl al_119 mf18s (by first | decide | omega) (by first | decide | omega) (fun x19 x19e x19a x19b => ?_)
            refine r_i2l hX hP rfl (by first | decide | omega) (by first | decide | omega) ?_
            refine r_ex hX hP 1 (pc' := 43) (st' := [(2, this), (1, x19), (2, sum_)]) (lo' := [(0, (2, this)), (1, (0, paper)), (2, (2, sum_)), (3, (0, l3_h7))]) rfl ?_
            refine r_getR hX hP rfl fl_X9_25_136 hS (fun nf20 nf20e nf20s => ?_)
            refine r_ex hX hP 1 (pc' := 47) (st' := [(0, l3_h7), (2, nf20), (1, x19), (2, sum_)]) (lo' := [(0, (2, this)), (1, (0, paper)), (2, (2, sum_)), (3, (0, l3_h7))]) rfl ?_
            refine r_iald hX hP rfl al_119 nf20s (by first | decide | omega) (by first | decide | omega) (fun x21 x21e x21a x21b => ?_)
            refine r_i2l hX hP rfl (by first | decide | omega) (by first | decide | omega) ?_
            refine r_callV gd hX hP rfl cv_X9_99_134 sum__s (d' := 4) (mc' := 0) (ms' := 0) (as' := [(1, x19), (1, x21)]) (st := []) (by first | decide | omega) (by first | decide | omega) (by first | decide | omega) rfl rfl (Nat.le_of_ble_eq_true rfl) (c_X4_plus E S (hw [(99, -1), (134, 0), (134, 1), (134, 2)] (hw [(99, -1), (134, 0), (134, 1), (134, 2)] G G1) Gh7) sum_ x19 x21 sum__s (by first | decide | omega) (by first | decide | omega) (by first | decide | omega) (by first | decide | omega)) ?_
            rintro _ _ _ ⟨rfl, ⟨G22, rfl⟩, rfl, -⟩
            refine r_ex hX hP 3 (pc' := 7) (st' := []) (lo' := [(0, (2, this)), (1, (0, paper)), (2, (2, sum_)), (3, (0, (l3_h7 + 1)))]) rfl ?_
            refine r_eqG (X := X) (hw_sub (hw_base _ _ _) rfl) ?_
            exact ih7 (l3_h7 + 1) _ (by first | decide | omega) (by first | decide | omega) (by first | decide | omega)
  refine r_eqG (X := X) (hw_refl [(99, -1), (134, 0), (134, 1), (134, 2)] _) ?_
  exact loop7 ((30 - 0) + 1 : Int).toNat 0 _ (by first | decide | omega) (by first | decide | omega) (by first | decide | omega)
