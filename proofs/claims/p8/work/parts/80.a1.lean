theorem fl_X10_9_152 : Fl RX10 9 152 1 (0, (-1), 40000) := ⟨2, 9, fs_152, RX1, TX1, rfl, rfl, by decide, rfl, by decide, rfl, cf_X1, (tbg sg3 48 rfl rfl)⟩
theorem fp_X10_9_152 : Fp RX10 9 152 1 (0, (-1), 40000) := ⟨fl_X10_9_152, 2, 9, fs_152, RX1, TX1, .int, rfl, rfl, rfl, by decide +kernel, fun E S x h => ⟨rfl, rfl⟩⟩
theorem fl_X10_15_152 : Fl RX10 15 152 0 (0, 0, 40000) := ⟨2, 9, fs_152, RX1, TX1, rfl, rfl, by decide, rfl, by decide, rfl, cf_X1, (tbg sg3 47 rfl rfl)⟩
theorem fq_X10_15_152 : Fpf RX10 15 152 0 (0, 0, 40000) := ⟨fl_X10_15_152, 2, 9, fs_152, RX1, TX1, .int, rfl, rfl, rfl, rfl, by decide +kernel, fun E S x h => ⟨rfl, rfl⟩⟩
theorem fl_X10_9_150 : Fl RX10 9 150 1 (0, (-1), 40000) := ⟨3, 7, fs_150, RX2, TX2, rfl, rfl, by decide, rfl, by decide, rfl, cf_X2, (tbg sg3 48 rfl rfl)⟩
theorem fp_X10_9_150 : Fp RX10 9 150 1 (0, (-1), 40000) := ⟨fl_X10_9_150, 3, 7, fs_150, RX2, TX2, .int, rfl, rfl, rfl, by decide +kernel, fun E S x h => ⟨rfl, rfl⟩⟩
theorem fl_X10_15_150 : Fl RX10 15 150 0 (0, 0, 40000) := ⟨3, 7, fs_150, RX2, TX2, rfl, rfl, by decide, rfl, by decide, rfl, cf_X2, (tbg sg3 47 rfl rfl)⟩
theorem fq_X10_15_150 : Fpf RX10 15 150 0 (0, 0, 40000) := ⟨fl_X10_15_150, 3, 7, fs_150, RX2, TX2, .int, rfl, rfl, rfl, rfl, by decide +kernel, fun E S x h => ⟨rfl, rfl⟩⟩
theorem fl_X10_9_151 : Fl RX10 9 151 1 (0, (-1), 40000) := ⟨6, 6, fs_151, RX5, TX5, rfl, rfl, by decide, rfl, by decide, rfl, cf_X5, (tbg sg3 48 rfl rfl)⟩
theorem fp_X10_9_151 : Fp RX10 9 151 1 (0, (-1), 40000) := ⟨fl_X10_9_151, 6, 6, fs_151, RX5, TX5, .int, rfl, rfl, rfl, by decide +kernel, fun E S x h => ⟨rfl, rfl⟩⟩
theorem fl_X10_15_151 : Fl RX10 15 151 0 (0, 0, 40000) := ⟨6, 6, fs_151, RX5, TX5, rfl, rfl, by decide, rfl, by decide, rfl, cf_X5, (tbg sg3 47 rfl rfl)⟩
theorem fq_X10_15_151 : Fpf RX10 15 151 0 (0, 0, 40000) := ⟨fl_X10_15_151, 6, 6, fs_151, RX5, TX5, .int, rfl, rfl, rfl, rfl, by decide +kernel, fun E S x h => ⟨rfl, rfl⟩⟩
theorem co_X10_init : Co mX10_init 1 := ⟨(tbg sg3 23 rfl rfl), (tbg sg1 11 rfl rfl), by decide, by decide, by decide +kernel, by decide⟩
theorem ci_X1_3 : Ci RX1 3 mX10_init 1 := ⟨co_X10_init, (tbg sg3 21 rfl rfl), rfl, (tbg sg3 22 rfl rfl), rfl⟩
theorem fl_X1_9_152 : Fl RX1 9 152 5 (0, (-1), 19) := ⟨2, 9, fs_152, RX1, TX1, rfl, rfl, by decide, rfl, by decide, rfl, cf_X1, (tbg sg3 36 rfl rfl)⟩
theorem fp_X1_9_152 : Fp RX1 9 152 5 (0, (-1), 19) := ⟨fl_X1_9_152, 2, 9, fs_152, RX1, TX1, .int, rfl, rfl, rfl, by decide +kernel, fun E S x h => ⟨rfl, rfl⟩⟩
theorem fl_X1_15_152 : Fl RX1 15 152 6 (0, (-1), 19) := ⟨2, 9, fs_152, RX1, TX1, rfl, rfl, by decide, rfl, by decide, rfl, cf_X1, (tbg sg3 40 rfl rfl)⟩
theorem fp_X1_15_152 : Fp RX1 15 152 6 (0, (-1), 19) := ⟨fl_X1_15_152, 2, 9, fs_152, RX1, TX1, .int, rfl, rfl, rfl, by decide +kernel, fun E S x h => ⟨rfl, rfl⟩⟩
theorem fl_X1_18_152 : Fl RX1 18 152 2 (0, 0, 19) := ⟨2, 9, fs_152, RX1, TX1, rfl, rfl, by decide, rfl, by decide, rfl, cf_X1, (tbg sg3 25 rfl rfl)⟩
theorem fq_X1_18_152 : Fpf RX1 18 152 2 (0, 0, 19) := ⟨fl_X1_18_152, 2, 9, fs_152, RX1, TX1, .int, rfl, rfl, rfl, rfl, by decide +kernel, fun E S x h => ⟨rfl, rfl⟩⟩
theorem fl_X1_21_152 : Fl RX1 21 152 3 (0, 0, 40000) := ⟨2, 9, fs_152, RX1, TX1, rfl, rfl, by decide, rfl, by decide, rfl, cf_X1, (tbg sg3 29 rfl rfl)⟩
theorem fq_X1_21_152 : Fpf RX1 21 152 3 (0, 0, 40000) := ⟨fl_X1_21_152, 2, 9, fs_152, RX1, TX1, .int, rfl, rfl, rfl, rfl, by decide +kernel, fun E S x h => ⟨rfl, rfl⟩⟩
theorem fl_X1_24_152 : Fl RX1 24 152 4 (0, (-2147483648), 2147483647) := ⟨2, 9, fs_152, RX1, TX1, rfl, rfl, by decide, rfl, by decide, rfl, cf_X1, (tbg sg3 32 rfl rfl)⟩
theorem fq_X1_24_152 : Fpf RX1 24 152 4 (0, (-2147483648), 2147483647) := ⟨fl_X1_24_152, 2, 9, fs_152, RX1, TX1, .int, rfl, rfl, rfl, rfl, by decide +kernel, fun E S x h => ⟨rfl, rfl⟩⟩
theorem ci_X2_1 : Ci RX2 1 mX10_init 1 := ⟨co_X10_init, (tbg sg4 205 rfl rfl), rfl, (tbg sg3 22 rfl rfl), rfl⟩
theorem fl_X2_7_150 : Fl RX2 7 150 2 (0, 0, 19) := ⟨3, 7, fs_150, RX2, TX2, rfl, rfl, by decide, rfl, by decide, rfl, cf_X2, (tbg sg4 206 rfl rfl)⟩
theorem fq_X2_7_150 : Fpf RX2 7 150 2 (0, 0, 19) := ⟨fl_X2_7_150, 3, 7, fs_150, RX2, TX2, .int, rfl, rfl, rfl, rfl, by decide +kernel, fun E S x h => ⟨rfl, rfl⟩⟩
theorem fl_X2_13_150 : Fl RX2 13 150 3 (3, 136, 0) := ⟨3, 7, fs_150, RX2, TX2, rfl, rfl, by decide, rfl, by decide, rfl, cf_X2, (tbg sg4 210 rfl rfl)⟩
theorem fq_X2_13_150 : Fpf RX2 13 150 3 (3, 136, 0) := ⟨fl_X2_13_150, 3, 7, fs_150, RX2, TX2, (.object "ShareLife$Text"), rfl, rfl, rfl, rfl, by decide +kernel, fun E S x h => reffit (fun _ => rfl) ⟨rfl, fun _ => rfl⟩ (by decide) x⟩
theorem ci_X5_1 : Ci RX5 1 mX10_init 1 := ⟨co_X10_init, (tbg sg5 30 rfl rfl), rfl, (tbg sg3 22 rfl rfl), rfl⟩
theorem fl_X5_7_151 : Fl RX5 7 151 2 (0, 0, 15) := ⟨6, 6, fs_151, RX5, TX5, rfl, rfl, by decide, rfl, by decide, rfl, cf_X5, (tbg sg5 31 rfl rfl)⟩
theorem fq_X5_7_151 : Fpf RX5 7 151 2 (0, 0, 15) := ⟨fl_X5_7_151, 6, 6, fs_151, RX5, TX5, .int, rfl, rfl, rfl, rfl, by decide +kernel, fun E S x h => ⟨rfl, rfl⟩⟩
theorem fl_X5_13_151 : Fl RX5 13 151 3 (0, 0, 19) := ⟨6, 6, fs_151, RX5, TX5, rfl, rfl, by decide, rfl, by decide, rfl, cf_X5, (tbg sg5 34 rfl rfl)⟩
theorem fq_X5_13_151 : Fpf RX5 13 151 3 (0, 0, 19) := ⟨fl_X5_13_151, 6, 6, fs_151, RX5, TX5, .int, rfl, rfl, rfl, rfl, by decide +kernel, fun E S x h => ⟨rfl, rfl⟩⟩
theorem fl_X5_16_151 : Fl RX5 16 151 4 (0, 0, 2) := ⟨6, 6, fs_151, RX5, TX5, rfl, rfl, by decide, rfl, by decide, rfl, cf_X5, (tbg sg5 36 rfl rfl)⟩
theorem fq_X5_16_151 : Fpf RX5 16 151 4 (0, 0, 2) := ⟨fl_X5_16_151, 6, 6, fs_151, RX5, TX5, .int, rfl, rfl, rfl, rfl, by decide +kernel, fun E S x h => ⟨rfl, rfl⟩⟩
theorem fl_X5_19_151 : Fl RX5 19 151 5 (0, 0, 40000) := ⟨6, 6, fs_151, RX5, TX5, rfl, rfl, by decide, rfl, by decide, rfl, cf_X5, (tbg sg5 38 rfl rfl)⟩
theorem fq_X5_19_151 : Fpf RX5 19 151 5 (0, 0, 40000) := ⟨fl_X5_19_151, 6, 6, fs_151, RX5, TX5, .int, rfl, rfl, rfl, rfl, by decide +kernel, fun E S x h => ⟨rfl, rfl⟩⟩
theorem co_Jxa1e45_init_da8c8 : Co mJxa1e45_init_da8c8 0 := ⟨(tbg sg1 135 rfl rfl), (tbg sg1 4 rfl rfl), by decide, by decide, by decide +kernel, by decide⟩
theorem ci_Jxc12de_1 : Ci RJxc12de 1 mJxa1e45_init_da8c8 0 := ⟨co_Jxa1e45_init_da8c8, (tbg sg1 133 rfl rfl), rfl, (tbg sg1 134 rfl rfl), rfl⟩
theorem fl_Jxc12de_7_153 : Fl RJxc12de 7 153 0 (0, (-2147483648), 2147483647) := ⟨0, 3, fs_153, RJx4a65c, TJx4a65c, rfl, rfl, by decide, rfl, by decide, rfl, cf_Jx4a65c, (tbg sg1 141 rfl rfl)⟩
theorem fp_Jxc12de_7_153 : Fp RJxc12de 7 153 0 (0, (-2147483648), 2147483647) := ⟨fl_Jxc12de_7_153, 0, 3, fs_153, RJx4a65c, TJx4a65c, .int, rfl, rfl, rfl, by decide +kernel, fun E S x h => ⟨rfl, rfl⟩⟩
theorem co_Jxc12de_init_da8c8 : Co mJxc12de_init_da8c8 0 := ⟨(tbg sg1 132 rfl rfl), (tbg sg1 5 rfl rfl), by decide, by decide, by decide +kernel, by decide⟩
theorem ci_Jx4a65c_1 : Ci RJx4a65c 1 mJxc12de_init_da8c8 0 := ⟨co_Jxc12de_init_da8c8, (tbg sg1 130 rfl rfl), rfl, (tbg sg1 131 rfl rfl), rfl⟩
theorem fl_Jx4a65c_9_153 : Fl RJx4a65c 9 153 1 (6, 0, 0) := ⟨0, 3, fs_153, RJx4a65c, TJx4a65c, rfl, rfl, by decide, rfl, by decide, rfl, cf_Jx4a65c, (tbg sg1 139 rfl rfl)⟩
theorem fp_Jx4a65c_9_153 : Fp RJx4a65c 9 153 1 (6, 0, 0) := ⟨fl_Jx4a65c_9_153, 0, 3, fs_153, RJx4a65c, TJx4a65c, (.array (.object "java/lang/Object")), rfl, rfl, rfl, by decide +kernel, fun E S x h => reffit (fun _ => rfl) ⟨rfl, fun _ => rfl⟩ (by decide) x⟩
set_option maxRecDepth 100000 in
set_option maxHeartbeats 4000000 in
theorem c_Jxa1e45_init_da8c8 (E : En) (S : Sg) (G : Gh) (this : Int) (hS : S this = 153) : Calls E mJxa1e45_init_da8c8 [(2, this)] S G 3 0 0 (fun r S' G' => S = S' ∧ G = G' ∧ r = none ∧ True) := by
  refine calls_by [(0, (2, this))] rfl rfl (Nat.le_of_ble_eq_true rfl) (fun X hX => ?_)
  have hP := hPJxa1e45_init_da8c8
  refine r_ex hX hP 1 (pc' := 1) (st' := [(2, this)]) (lo' := [(0, (2, this))]) rfl ?_
  refine r_nn hX hS (by decide) (fun p1 => ?_)
  refine r_objI hX hP rfl (tbg sg1 136 rfl rfl) (tbg sg1 33 rfl rfl) (tbg sg1 34 rfl rfl) p1 (by first | decide | omega) (Nat.le_of_ble_eq_true rfl) ?_
  exact r_retV hX hP rfl rfl (by first | decide | omega) (by first | decide | omega) ⟨rfl, rfl, rfl, trivial⟩
set_option maxRecDepth 100000 in
set_option maxHeartbeats 4000000 in
theorem c_Jxc12de_init_da8c8 (E : En) (S : Sg) (G : Gh) (this : Int) (hS : S this = 153) : Calls E mJxc12de_init_da8c8 [(2, this)] S G 4 0 0 (fun r S' G' => S = S' ∧ (∃ G1, hw [(153, 0)] G G1 = G') ∧ r = none ∧ True) := by
  refine calls_by [(0, (2, this))] rfl rfl (Nat.le_of_ble_eq_true rfl) (fun X hX => ?_)
  have hP := hPJxc12de_init_da8c8
  refine r_ex hX hP 1 (pc' := 1) (st' := [(2, this)]) (lo' := [(0, (2, this))]) rfl ?_
  refine r_nn hX hS (by decide) (fun p1 => ?_)
  refine r_callI gd hX hP rfl ci_Jxc12de_1 p1 (d' := 3) (mc' := 0) (ms' := 0) (as' := []) (st := []) (by first | decide | omega) (by first | decide | omega) (by first | decide | omega) rfl rfl (Nat.le_of_ble_eq_true rfl) (c_Jxa1e45_init_da8c8 E S G this  hS) ?_
  rintro _ _ _ ⟨rfl, rfl, rfl, -⟩
  refine r_ex hX hP 2 (pc' := 6) (st' := [(0, 0), (2, this)]) (lo' := [(0, (2, this))]) rfl ?_
  refine r_putIK hX hP rfl fp_Jxc12de_7_153 hS (by first | decide | omega) (by first | decide | omega) (fun h2 => ?_)
  exact r_retV hX hP rfl rfl (by first | decide | omega) (by first | decide | omega) ⟨rfl, ⟨_, (hw_up (hw_refl _ _) rfl).symm⟩, rfl, trivial⟩
set_option maxRecDepth 100000 in
set_option maxHeartbeats 4000000 in
theorem c_Jx4a65c_init_da8c8 (E : En) (S : Sg) (G : Gh) (this : Int) (hS : S this = 153) : Calls E mJx4a65c_init_da8c8 [(2, this)] S G 5 0 0 (fun r S' G' => S = S' ∧ (∃ G1, hw [(153, 0), (153, 1)] G G1 = G') ∧ r = none ∧ ∃ ed : Int, ed = G' 153 this 1 ∧ ed = Ad E 0) := by
  refine calls_by [(0, (2, this))] rfl rfl (Nat.le_of_ble_eq_true rfl) (fun X hX => ?_)
  have hP := hPJx4a65c_init_da8c8
  refine r_ex hX hP 1 (pc' := 1) (st' := [(2, this)]) (lo' := [(0, (2, this))]) rfl ?_
  refine r_nn hX hS (by decide) (fun p1 => ?_)
  refine r_callI gd hX hP rfl ci_Jx4a65c_1 p1 (d' := 4) (mc' := 0) (ms' := 0) (as' := []) (st := []) (by first | decide | omega) (by first | decide | omega) (by first | decide | omega) rfl rfl (Nat.le_of_ble_eq_true rfl) (c_Jxc12de_init_da8c8 E S G this  hS) ?_
  rintro _ _ _ ⟨rfl, ⟨G2, rfl⟩, rfl, -⟩
  refine r_ex hX hP 1 (pc' := 5) (st' := [(2, this)]) (lo' := [(0, (2, this))]) rfl ?_
  refine r_getsE hX hP rfl (tbg sg1 137 rfl rfl) ?_
  refine r_putE hX hP rfl fp_Jx4a65c_9_153 hS (Or.inr rfl) (fun h3 => ?_)
  exact r_retV hX hP rfl rfl (by first | decide | omega) (by first | decide | omega) ⟨rfl, ⟨_, (hw_up (hw_sub (hw_refl _ _) rfl) rfl).symm⟩, rfl, (Ad E 0), h3, (by first | decide | omega)⟩
