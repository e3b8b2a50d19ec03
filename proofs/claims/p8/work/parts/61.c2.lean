theorem tl_130 (j : Nat) {t : Ty} (h : fs_130.getD j (0, 0, 0) = t) (hj : j < fs_130.length) : Tl 130 j t := ⟨1, fs_130, rfl, hj, h, by decide⟩
theorem fl_X0_66_130 : Fl RX0 66 130 0 (0, 0, 20) := ⟨1, 18, fs_130, RX0, TX0, rfl, rfl, by decide, rfl, by decide, rfl, cf_X0, (tbg sg1 51 rfl rfl)⟩
theorem fl_X0_9_130 : Fl RX0 9 130 1 (2, 93, 0) := ⟨1, 18, fs_130, RX0, TX0, rfl, rfl, by decide, rfl, by decide, rfl, cf_X0, (tbg sg1 55 rfl rfl)⟩
theorem fl_X0_15_130 : Fl RX0 15 130 2 (2, 94, 0) := ⟨1, 18, fs_130, RX0, TX0, rfl, rfl, by decide, rfl, by decide, rfl, cf_X0, (tbg sg1 57 rfl rfl)⟩
theorem al_94 : Al 94 0 20 (0, (-2147483648), 2147483647) := ⟨rfl, by decide, by decide⟩
theorem fl_X0_18_130 : Fl RX0 18 130 3 (2, 94, 0) := ⟨1, 18, fs_130, RX0, TX0, rfl, rfl, by decide, rfl, by decide, rfl, cf_X0, (tbg sg1 58 rfl rfl)⟩
theorem fl_X0_21_130 : Fl RX0 21 130 4 (2, 94, 0) := ⟨1, 18, fs_130, RX0, TX0, rfl, rfl, by decide, rfl, by decide, rfl, cf_X0, (tbg sg1 59 rfl rfl)⟩
theorem fl_X0_24_130 : Fl RX0 24 130 5 (2, 94, 0) := ⟨1, 18, fs_130, RX0, TX0, rfl, rfl, by decide, rfl, by decide, rfl, cf_X0, (tbg sg1 62 rfl rfl)⟩
theorem fl_X0_27_130 : Fl RX0 27 130 6 (2, 94, 0) := ⟨1, 18, fs_130, RX0, TX0, rfl, rfl, by decide, rfl, by decide, rfl, cf_X0, (tbg sg1 64 rfl rfl)⟩
theorem fl_X0_30_130 : Fl RX0 30 130 7 (2, 93, 0) := ⟨1, 18, fs_130, RX0, TX0, rfl, rfl, by decide, rfl, by decide, rfl, cf_X0, (tbg sg1 66 rfl rfl)⟩
theorem fl_X0_33_130 : Fl RX0 33 130 8 (2, 93, 0) := ⟨1, 18, fs_130, RX0, TX0, rfl, rfl, by decide, rfl, by decide, rfl, cf_X0, (tbg sg1 68 rfl rfl)⟩
theorem fl_X0_36_130 : Fl RX0 36 130 9 (2, 93, 0) := ⟨1, 18, fs_130, RX0, TX0, rfl, rfl, by decide, rfl, by decide, rfl, cf_X0, (tbg sg1 69 rfl rfl)⟩
theorem fp_X0_66_130 : Fp RX0 66 130 0 (0, 0, 20) := ⟨fl_X0_66_130, 1, 18, fs_130, RX0, TX0, .int, rfl, rfl, rfl, by decide +kernel, fun E S x h => ⟨rfl, rfl⟩⟩
theorem co_X0_firstHand : Co mX0_firstHand 1 := ⟨(tbg sg5 136 rfl rfl), (tbg sg1 3 rfl rfl), by decide, by decide, by decide +kernel, by decide⟩
theorem cv_X0_70_130 : Cv RX0 70 mX0_firstHand 130 1 := ⟨co_X0_firstHand, (tbg sg6 24 rfl rfl), (tbg sg5 134 rfl rfl), 1, 18, fs_130, RX0, TX0, rfl, by decide, rfl, (tbg sg5 135 rfl rfl)⟩
theorem fl_X0_41_130 : Fl RX0 41 130 10 (2, 98, 0) := ⟨1, 18, fs_130, RX0, TX0, rfl, rfl, by decide, rfl, by decide, rfl, cf_X0, (tbg sg1 71 rfl rfl)⟩
theorem al_98 : Al 98 4 4 (2, 95, 0) := ⟨rfl, by decide, by decide⟩
theorem fl_X0_44_130 : Fl RX0 44 130 11 (2, 98, 0) := ⟨1, 18, fs_130, RX0, TX0, rfl, rfl, by decide, rfl, by decide, rfl, cf_X0, (tbg sg1 73 rfl rfl)⟩
theorem co_X0_roll : Co mX0_roll 2 := ⟨(tbg sg5 144 rfl rfl), (tbg sg1 3 rfl rfl), by decide, by decide, by decide +kernel, by decide⟩
theorem cv_X0_74_130 : Cv RX0 74 mX0_roll 130 2 := ⟨co_X0_roll, (tbg sg5 141 rfl rfl), (tbg sg5 142 rfl rfl), 1, 18, fs_130, RX0, TX0, rfl, by decide, rfl, (tbg sg5 143 rfl rfl)⟩
theorem fl_X0_60_130 : Fl RX0 60 130 16 (2, 96, 0) := ⟨1, 18, fs_130, RX0, TX0, rfl, rfl, by decide, rfl, by decide, rfl, cf_X0, (tbg sg1 83 rfl rfl)⟩
theorem fl_X0_63_130 : Fl RX0 63 130 17 (2, 96, 0) := ⟨1, 18, fs_130, RX0, TX0, rfl, rfl, by decide, rfl, by decide, rfl, cf_X0, (tbg sg1 85 rfl rfl)⟩
theorem fl_X0_57_130 : Fl RX0 57 130 15 (2, 96, 0) := ⟨1, 18, fs_130, RX0, TX0, rfl, rfl, by decide, rfl, by decide, rfl, cf_X0, (tbg sg1 81 rfl rfl)⟩
theorem co_J7_fill_d0a16 : Co mJ7_fill_d0a16 2 := ⟨(tbg sg5 86 rfl rfl), (tbg sg1 15 rfl rfl), by decide, by decide, by decide +kernel, by decide⟩
theorem cs_X0_82 : Cs RX0 82 mJ7_fill_d0a16 2 := ⟨co_J7_fill_d0a16, (tbg sg5 157 rfl rfl), (tbg sg5 85 rfl rfl)⟩
theorem fl_X0_47_130 : Fl RX0 47 130 12 (2, 95, 0) := ⟨1, 18, fs_130, RX0, TX0, rfl, rfl, by decide, rfl, by decide, rfl, cf_X0, (tbg sg1 75 rfl rfl)⟩
theorem fl_X0_54_130 : Fl RX0 54 130 14 (2, 97, 0) := ⟨1, 18, fs_130, RX0, TX0, rfl, rfl, by decide, rfl, by decide, rfl, cf_X0, (tbg sg1 80 rfl rfl)⟩
theorem al_97 : Al 97 0 21 (0, 0, 19) := ⟨rfl, by decide, by decide⟩
theorem co_X0_split : Co mX0_split 2 := ⟨(tbg sg5 156 rfl rfl), (tbg sg1 3 rfl rfl), by decide, by decide, by decide +kernel, by decide⟩
theorem cv_X0_78_130 : Cv RX0 78 mX0_split 130 2 := ⟨co_X0_split, (tbg sg5 163 rfl rfl), (tbg sg5 154 rfl rfl), 1, 18, fs_130, RX0, TX0, rfl, by decide, rfl, (tbg sg5 155 rfl rfl)⟩
theorem fl_X0_51_130 : Fl RX0 51 130 13 (2, 95, 0) := ⟨1, 18, fs_130, RX0, TX0, rfl, rfl, by decide, rfl, by decide, rfl, cf_X0, (tbg sg1 78 rfl rfl)⟩
theorem tl_132 (j : Nat) {t : Ty} (h : fs_132.getD j (0, 0, 0) = t) (hj : j < fs_132.length) : Tl 132 j t := ⟨8, fs_132, rfl, hj, h, by decide⟩
theorem fl_X7_47_132 : Fl RX7 47 132 0 (0, 0, 12) := ⟨8, 17, fs_132, RX7, TX7, rfl, rfl, by decide, rfl, by decide, rfl, cf_X7, (tbg sg2 91 rfl rfl)⟩
theorem fl_X7_9_132 : Fl RX7 9 132 5 (2, 108, 0) := ⟨8, 17, fs_132, RX7, TX7, rfl, rfl, by decide, rfl, by decide, rfl, cf_X7, (tbg sg2 100 rfl rfl)⟩
theorem al_108 : Al 108 0 12 (0, (-2147483648), 2147483647) := ⟨rfl, by decide, by decide⟩
theorem fl_X7_15_132 : Fl RX7 15 132 6 (2, 108, 0) := ⟨8, 17, fs_132, RX7, TX7, rfl, rfl, by decide, rfl, by decide, rfl, cf_X7, (tbg sg2 101 rfl rfl)⟩
theorem fl_X7_18_132 : Fl RX7 18 132 7 (2, 108, 0) := ⟨8, 17, fs_132, RX7, TX7, rfl, rfl, by decide, rfl, by decide, rfl, cf_X7, (tbg sg2 102 rfl rfl)⟩
theorem fl_X7_21_132 : Fl RX7 21 132 8 (2, 108, 0) := ⟨8, 17, fs_132, RX7, TX7, rfl, rfl, by decide, rfl, by decide, rfl, cf_X7, (tbg sg2 103 rfl rfl)⟩
theorem fl_X7_24_132 : Fl RX7 24 132 9 (2, 108, 0) := ⟨8, 17, fs_132, RX7, TX7, rfl, rfl, by decide, rfl, by decide, rfl, cf_X7, (tbg sg2 104 rfl rfl)⟩
theorem fl_X7_27_132 : Fl RX7 27 132 10 (2, 110, 0) := ⟨8, 17, fs_132, RX7, TX7, rfl, rfl, by decide, rfl, by decide, rfl, cf_X7, (tbg sg2 105 rfl rfl)⟩
theorem al_110 : Al 110 3 12 (0, 0, 1) := ⟨rfl, by decide, by decide⟩
theorem fl_X7_31_132 : Fl RX7 31 132 11 (2, 109, 0) := ⟨8, 17, fs_132, RX7, TX7, rfl, rfl, by decide, rfl, by decide, rfl, cf_X7, (tbg sg2 106 rfl rfl)⟩
theorem al_109 : Al 109 0 12 (0, 0, 11) := ⟨rfl, by decide, by decide⟩
theorem fp_X7_47_132 : Fp RX7 47 132 0 (0, 0, 12) := ⟨fl_X7_47_132, 8, 17, fs_132, RX7, TX7, .int, rfl, rfl, rfl, by decide +kernel, fun E S x h => ⟨rfl, rfl⟩⟩
theorem fl_X7_57_132 : Fl RX7 57 132 12 (0, 0, 13) := ⟨8, 17, fs_132, RX7, TX7, rfl, rfl, by decide, rfl, by decide, rfl, cf_X7, (tbg sg2 107 rfl rfl)⟩
theorem fl_X7_34_132 : Fl RX7 34 132 13 (2, 111, 0) := ⟨8, 17, fs_132, RX7, TX7, rfl, rfl, by decide, rfl, by decide, rfl, cf_X7, (tbg sg2 108 rfl rfl)⟩
theorem al_111 : Al 111 0 13 (0, 0, 12) := ⟨rfl, by decide, by decide⟩
theorem fl_X7_37_132 : Fl RX7 37 132 14 (2, 112, 0) := ⟨8, 17, fs_132, RX7, TX7, rfl, rfl, by decide, rfl, by decide, rfl, cf_X7, (tbg sg2 109 rfl rfl)⟩
theorem al_112 : Al 112 0 13 (0, (-2147483648), 2147483647) := ⟨rfl, by decide, by decide⟩
theorem fl_X7_40_132 : Fl RX7 40 132 15 (2, 113, 0) := ⟨8, 17, fs_132, RX7, TX7, rfl, rfl, by decide, rfl, by decide, rfl, cf_X7, (tbg sg2 110 rfl rfl)⟩
theorem al_113 : Al 113 1 13 (1, (-9223372036854775808), 9223372036854775807) := ⟨rfl, by decide, by decide⟩
theorem fl_X7_44_132 : Fl RX7 44 132 16 (2, 112, 0) := ⟨8, 17, fs_132, RX7, TX7, rfl, rfl, by decide, rfl, by decide, rfl, cf_X7, (tbg sg2 111 rfl rfl)⟩
theorem fp_X7_57_132 : Fp RX7 57 132 12 (0, 0, 13) := ⟨fl_X7_57_132, 8, 17, fs_132, RX7, TX7, .int, rfl, rfl, rfl, by decide +kernel, fun E S x h => ⟨rfl, rfl⟩⟩
theorem co_X7_leave : Co mX7_leave 4 := ⟨(tbg sg7 91 rfl rfl), (tbg sg1 9 rfl rfl), by decide, by decide, by decide +kernel, by decide⟩
theorem cv_X7_60_132 : Cv RX7 60 mX7_leave 132 4 := ⟨co_X7_leave, (tbg sg7 88 rfl rfl), (tbg sg7 90 rfl rfl), 8, 17, fs_132, RX7, TX7, rfl, by decide, rfl, (tbm 78 (by decide +kernel) rfl)⟩
theorem cs_X7_74 : Cs RX7 74 mJ6_bitCount_0f7a4 1 := ⟨co_J6_bitCount_0f7a4, (tbg sg7 101 rfl rfl), (tbg sg7 102 rfl rfl)⟩
theorem fl_X7_54_132 : Fl RX7 54 132 4 (0, (-2147483648), 2147483647) := ⟨8, 17, fs_132, RX7, TX7, rfl, rfl, by decide, rfl, by decide, rfl, cf_X7, (tbg sg2 99 rfl rfl)⟩
theorem fl_X7_51_132 : Fl RX7 51 132 1 (0, (-2147483648), 2147483647) := ⟨8, 17, fs_132, RX7, TX7, rfl, rfl, by decide, rfl, by decide, rfl, cf_X7, (tbg sg2 93 rfl rfl)⟩
theorem fp_X7_51_132 : Fp RX7 51 132 1 (0, (-2147483648), 2147483647) := ⟨fl_X7_51_132, 8, 17, fs_132, RX7, TX7, .int, rfl, rfl, rfl, by decide +kernel, fun E S x h => ⟨rfl, rfl⟩⟩
theorem fp_X7_54_132 : Fp RX7 54 132 4 (0, (-2147483648), 2147483647) := ⟨fl_X7_54_132, 8, 17, fs_132, RX7, TX7, .int, rfl, rfl, rfl, by decide +kernel, fun E S x h => ⟨rfl, rfl⟩⟩
theorem co_X7_walk : Co mX7_walk 4 := ⟨(tbg sg7 95 rfl rfl), (tbg sg1 9 rfl rfl), by decide, by decide, by decide +kernel, by decide⟩
theorem cv_X7_64_132 : Cv RX7 64 mX7_walk 132 4 := ⟨co_X7_walk, (tbg sg7 92 rfl rfl), (tbg sg7 94 rfl rfl), 8, 17, fs_132, RX7, TX7, rfl, by decide, rfl, (tbm 79 (by decide +kernel) rfl)⟩
theorem co_X7_weigh : Co mX7_weigh 1 := ⟨(tbg sg7 100 rfl rfl), (tbg sg1 9 rfl rfl), by decide, by decide, by decide +kernel, by decide⟩
theorem cv_X7_68_132 : Cv RX7 68 mX7_weigh 132 1 := ⟨co_X7_weigh, (tbg sg7 97 rfl rfl), (tbg sg7 99 rfl rfl), 8, 17, fs_132, RX7, TX7, rfl, by decide, rfl, (tbm 80 (by decide +kernel) rfl)⟩
theorem fl_X7_80_132 : Fl RX7 80 132 2 (0, (-2147483648), 2147483647) := ⟨8, 17, fs_132, RX7, TX7, rfl, rfl, by decide, rfl, by decide, rfl, cf_X7, (tbg sg2 95 rfl rfl)⟩
theorem fp_X7_80_132 : Fp RX7 80 132 2 (0, (-2147483648), 2147483647) := ⟨fl_X7_80_132, 8, 17, fs_132, RX7, TX7, .int, rfl, rfl, rfl, by decide +kernel, fun E S x h => ⟨rfl, rfl⟩⟩
theorem fl_X7_83_132 : Fl RX7 83 132 3 (0, (-2147483648), 2147483647) := ⟨8, 17, fs_132, RX7, TX7, rfl, rfl, by decide, rfl, by decide, rfl, cf_X7, (tbg sg2 97 rfl rfl)⟩
theorem fp_X7_83_132 : Fp RX7 83 132 3 (0, (-2147483648), 2147483647) := ⟨fl_X7_83_132, 8, 17, fs_132, RX7, TX7, .int, rfl, rfl, rfl, by decide +kernel, fun E S x h => ⟨rfl, rfl⟩⟩
set_option maxRecDepth 100000 in
set_option maxHeartbeats 4000000 in
theorem c_X0_firstHand (E : En) (S : Sg) (G : Gh) (this : Int) (account : Int) (hS : S this = 130) (account_a : 0 ≤ account) (account_b : account ≤ 19) : Calls E mX0_firstHand [(2, this), (0, account)] S G 0 0 0 (fun r S' G' => S = S' ∧ G = G' ∧ ∃ z : Int, r = some (0, z) ∧ 0 ≤ z ∧ z ≤ 19) := by
  refine calls_by [(0, (2, this)), (1, (0, account))] rfl rfl (Nat.le_of_ble_eq_true rfl) (fun X hX => ?_)
  have hP := hPX0_firstHand
  refine r_ex hX hP 1 (pc' := 1) (st' := [(2, this)]) (lo' := [(0, (2, this)), (1, (0, account))]) rfl ?_
  refine r_getR hX hP rfl fl_X0_9_130 hS (fun uf1 uf1e uf1s => ?_)
  refine r_ex hX hP 1 (pc' := 5) (st' := [(0, account), (2, uf1)]) (lo' := [(0, (2, this)), (1, (0, account))]) rfl ?_
  refine r_iald hX hP rfl al_93 uf1s (by first | decide | omega) (by first | decide | omega) (fun x2 x2e x2a x2b => ?_)
  refine r_ex hX hP 1 (pc' := 7) (st' := [(0, (-1)), (0, x2)]) (lo' := [(0, (2, this)), (1, (0, account))]) rfl ?_
  refine r_ic_ne hX hP rfl (tgt := 14) rfl (by first | decide | omega) (by first | decide | omega) (by first | decide | omega) (by first | decide | omega) (fun c3 => ?_) (fun c3 => ?_)
  · skip
    refine r_ex hX hP 1 (pc' := 15) (st' := [(2, this)]) (lo' := [(0, (2, this)), (1, (0, account))]) rfl ?_
    refine r_getKR hX hP rfl fl_X0_9_130 hS (x := uf1) uf1e ?_
    refine r_ex hX hP 1 (pc' := 19) (st' := [(0, account), (2, uf1)]) (lo' := [(0, (2, this)), (1, (0, account))]) rfl ?_
    refine r_ialdK hX hP rfl al_93 uf1s (by first | decide | omega) (by first | decide | omega) (x := x2) x2e ?_
    exact r_retI hX hP rfl rfl (by first | decide | omega) (by first | decide | omega) ⟨rfl, rfl, x2, rfl, (by first | decide | omega)⟩
  · skip
    refine r_ex hX hP 2 (pc' := 20) (st' := [(0, account)]) (lo' := [(0, (2, this)), (1, (0, account))]) rfl ?_
    exact r_retI hX hP rfl rfl (by first | decide | omega) (by first | decide | omega) ⟨rfl, rfl, account, rfl, (by first | decide | omega)⟩
set_option maxRecDepth 100000 in
set_option maxHeartbeats 4000000 in
theorem c_X0_slowHand (E : En) (S : Sg) (G : Gh) (this : Int) (account : Int) (hS : S this = 130) (account_a : 0 ≤ account) (account_b : account ≤ 19) : Calls E mX0_slowHand [(2, this), (0, account)] S G 1 0 0 (fun r S' G' => S = S' ∧ G = G' ∧ ∃ z : Int, r = some (0, z) ∧ (-1) ≤ z ∧ z ≤ 19) := by
  refine calls_by [(0, (2, this)), (1, (0, account))] rfl rfl (Nat.le_of_ble_eq_true rfl) (fun X hX => ?_)
  have hP := hPX0_slowHand
  refine r_ex hX hP 2 (pc' := 2) (st' := [(0, account), (2, this)]) (lo' := [(0, (2, this)), (1, (0, account))]) rfl ?_
  refine r_callV gd hX hP rfl cv_X0_70_130 hS (d' := 0) (mc' := 0) (ms' := 0) (as' := [(0, account)]) (st := []) (by first | decide | omega) (by first | decide | omega) (by first | decide | omega) rfl rfl (Nat.le_of_ble_eq_true rfl) (c_X0_firstHand E S G this account hS (by first | decide | omega) (by first | decide | omega)) ?_
  rintro _ _ _ ⟨rfl, rfl, z1, rfl, z1a, z1b⟩
  refine r_ex hX hP 3 (pc' := 8) (st' := []) (lo' := [(0, (2, this)), (1, (0, account)), (2, (0, z1)), (3, (0, 0))]) rfl ?_
  have x49 : ∀ (l2_x49 l3_x49 : Int), (-1) ≤ l2_x49 → l2_x49 ≤ 19 → 0 ≤ l3_x49 → l3_x49 ≤ 20 → X 0 0 49 [] [(0, (2, this)), (1, (0, account)), (2, (0, l2_x49)), (3, (0, l3_x49))] S G := by
    intro l2_x49 l3_x49 yx49_0 yx49_1 yx49_2 yx49_3
    refine r_ex hX hP 1 (pc' := 50) (st' := [(0, (-1))]) (lo' := [(0, (2, this)), (1, (0, account)), (2, (0, l2_x49)), (3, (0, l3_x49))]) rfl ?_
    exact r_retI hX hP rfl rfl (by first | decide | omega) (by first | decide | omega) ⟨rfl, rfl, (-1), rfl, (by first | decide | omega)⟩
  have loop8 : ∀ (nF : Nat) (l2_h8 l3_h8 : Int), (-1) ≤ l2_h8 → l2_h8 ≤ 19 → 0 ≤ l3_h8 → l3_h8 ≤ 20 → 20 - l3_h8 < (nF : Int) → X 0 0 8 [] [(0, (2, this)), (1, (0, account)), (2, (0, l2_h8)), (3, (0, l3_h8))] S G := by
    intro nF
    induction nF with
    | zero => intro l2_h8 l3_h8 yh8_0 yh8_1 yh8_2 yh8_3 ym8; exfalso; omega
    | succ nF ih8 =>
      intro l2_h8 l3_h8 yh8_0 yh8_1 yh8_2 yh8_3 ym8
      refine r_ex hX hP 2 (pc' := 11) (st' := [(0, 20), (0, l3_h8)]) (lo' := [(0, (2, this)), (1, (0, account)), (2, (0, l2_h8)), (3, (0, l3_h8))]) rfl ?_
      refine r_ic_ge hX hP rfl (tgt := 49) rfl (by first | decide | omega) (by first | decide | omega) (by first | decide | omega) (by first | decide | omega) (fun c2 => ?_) (fun c2 => ?_)
      · skip
        exact x49 l2_h8 l3_h8 (by first | decide | omega) (by first | decide | omega) (by first | decide | omega) (by first | decide | omega)
      · skip
        refine r_ex hX hP 2 (pc' := 16) (st' := [(0, (-1)), (0, l2_h8)]) (lo' := [(0, (2, this)), (1, (0, account)), (2, (0, l2_h8)), (3, (0, l3_h8))]) rfl ?_
        refine r_ic_eq hX hP rfl (tgt := 49) rfl (by first | decide | omega) (by first | decide | omega) (by first | decide | omega) (by first | decide | omega) (fun c3 => ?_) (fun c3 => ?_)
        · skip
          exact x49 l2_h8 l3_h8 (by first | decide | omega) (by first | decide | omega) (by first | decide | omega) (by first | decide | omega)
        · skip
          refine r_ex hX hP 1 (pc' := 20) (st' := [(2, this)]) (lo' := [(0, (2, this)), (1, (0, account)), (2, (0, l2_h8)), (3, (0, l3_h8))]) rfl ?_
          refine r_getR hX hP rfl fl_X0_18_130 hS (fun df4 df4e df4s => ?_)
          refine r_ex hX hP 1 (pc' := 24) (st' := [(0, l2_h8), (2, df4)]) (lo' := [(0, (2, this)), (1, (0, account)), (2, (0, l2_h8)), (3, (0, l3_h8))]) rfl ?_
          refine r_iald hX hP rfl al_94 df4s (by first | decide | omega) (by first | decide | omega) (fun x5 x5e x5a x5b => ?_)
          refine r_ex hX hP 1 (pc' := 26) (st' := [(2, this), (0, x5)]) (lo' := [(0, (2, this)), (1, (0, account)), (2, (0, l2_h8)), (3, (0, l3_h8))]) rfl ?_
          refine r_getR hX hP rfl fl_X0_15_130 hS (fun lf6 lf6e lf6s => ?_)
          refine r_ex hX hP 1 (pc' := 30) (st' := [(0, l2_h8), (2, lf6), (0, x5)]) (lo' := [(0, (2, this)), (1, (0, account)), (2, (0, l2_h8)), (3, (0, l3_h8))]) rfl ?_
          refine r_iald hX hP rfl al_94 lf6s (by first | decide | omega) (by first | decide | omega) (fun x7 x7e x7a x7b => ?_)
          refine r_ic_le hX hP rfl (tgt := 36) rfl (by first | decide | omega) (by first | decide | omega) (by first | decide | omega) (by first | decide | omega) (fun c8 => ?_) (fun c8 => ?_)
          · skip
            refine r_ex hX hP 1 (pc' := 37) (st' := [(2, this)]) (lo' := [(0, (2, this)), (1, (0, account)), (2, (0, l2_h8)), (3, (0, l3_h8))]) rfl ?_
            refine r_getR hX hP rfl fl_X0_9_130 hS (fun uf9 uf9e uf9s => ?_)
            refine r_ex hX hP 1 (pc' := 41) (st' := [(0, l2_h8), (2, uf9)]) (lo' := [(0, (2, this)), (1, (0, account)), (2, (0, l2_h8)), (3, (0, l3_h8))]) rfl ?_
            refine r_iald hX hP rfl al_93 uf9s (by first | decide | omega) (by first | decide | omega) (fun x10 x10e x10a x10b => ?_)
            refine r_ex hX hP 3 (pc' := 8) (st' := []) (lo' := [(0, (2, this)), (1, (0, account)), (2, (0, x10)), (3, (0, (l3_h8 + 1)))]) rfl ?_
            exact ih8 x10 (l3_h8 + 1) (by first | decide | omega) (by first | decide | omega) (by first | decide | omega) (by first | decide | omega) (by first | decide | omega)
          · skip
            refine r_ex hX hP 1 (pc' := 35) (st' := [(0, l2_h8)]) (lo' := [(0, (2, this)), (1, (0, account)), (2, (0, l2_h8)), (3, (0, l3_h8))]) rfl ?_
            exact r_retI hX hP rfl rfl (by first | decide | omega) (by first | decide | omega) ⟨rfl, rfl, l2_h8, rfl, (by first | decide | omega)⟩
  exact loop8 ((20 - 0) + 1 : Int).toNat z1 0 (by first | decide | omega) (by first | decide | omega) (by first | decide | omega) (by first | decide | omega) (by first | decide | omega)
set_option maxRecDepth 100000 in
set_option maxHeartbeats 4000000 in
theorem c_X0_roll (E : En) (S : Sg) (G : Gh) (this : Int) (frm : Int) (into : Int) (hS : S this = 130) (frm_s : S frm = 95) (into_s : S into = 95) : Calls E mX0_roll [(2, this), (2, frm), (2, into)] S G 0 0 0 (fun r S' G' => S = S' ∧ (∃ G1, hw [(95, -1)] G G1 = G') ∧ r = none ∧ True) := by
  refine calls_by [(0, (2, this)), (1, (2, frm)), (2, (2, into))] rfl rfl (Nat.le_of_ble_eq_true rfl) (fun X hX => ?_)
  have hP := hPX0_roll
  refine r_ex hX hP 2 (pc' := 2) (st' := []) (lo' := [(0, (2, this)), (1, (2, frm)), (2, (2, into)), (3, (0, 0))]) rfl ?_
  have loop2 : ∀ (nF : Nat) (l3_h2 : Int) (Gh2 : Gh), 0 ≤ l3_h2 → l3_h2 ≤ 20 → 20 - l3_h2 < (nF : Int) → X 0 0 2 [] [(0, (2, this)), (1, (2, frm)), (2, (2, into)), (3, (0, l3_h2))] S (hw [(95, -1)] G Gh2) := by
    intro nF
    induction nF with
    | zero => intro l3_h2 Gh2 yh2_0 yh2_1 ym2; exfalso; omega
    | succ nF ih2 =>
      intro l3_h2 Gh2 yh2_0 yh2_1 ym2
      refine r_ex hX hP 2 (pc' := 4) (st' := [(2, this), (0, l3_h2)]) (lo' := [(0, (2, this)), (1, (2, frm)), (2, (2, into)), (3, (0, l3_h2))]) rfl ?_
      refine r_getI hX hP rfl fl_X0_66_130 hS (fun cf1 cf1e cf1a cf1b => ?_)
      refine r_ic_ge hX hP rfl (tgt := 22) rfl (by first | decide | omega) (by first | decide | omega) (by first | decide | omega) (by first | decide | omega) (fun c2 => ?_) (fun c2 => ?_)
      · skip
        refine r_ex hX hP 1 (pc' := 23) (st' := [(2, this)]) (lo' := [(0, (2, this)), (1, (2, frm)), (2, (2, into)), (3, (0, l3_h2))]) rfl ?_
        refine r_getKI hX hP rfl fl_X0_66_130 hS (x := cf1) cf1e ?_
        refine r_ex hX hP 3 (pc' := 29) (st' := []) (lo' := [(0, (2, this)), (1, (2, frm)), (2, (2, into)), (3, (0, (cf1 - 1)))]) rfl ?_
        have loop29 : ∀ (nF : Nat) (l3_h29 : Int) (Gh29 : Gh), (-1) ≤ l3_h29 → l3_h29 ≤ 19 → l3_h29 - (-1) < (nF : Int) → X 0 0 29 [] [(0, (2, this)), (1, (2, frm)), (2, (2, into)), (3, (0, l3_h29))] S (hw [(95, -1)] (hw [(95, -1)] G Gh2) Gh29) := by
          intro nF
          induction nF with
          | zero => intro l3_h29 Gh29 yh29_0 yh29_1 ym29; exfalso; omega
          | succ nF ih29 =>
            intro l3_h29 Gh29 yh29_0 yh29_1 ym29
            refine r_ex hX hP 1 (pc' := 30) (st' := [(0, l3_h29)]) (lo' := [(0, (2, this)), (1, (2, frm)), (2, (2, into)), (3, (0, l3_h29))]) rfl ?_
            refine r_if_le hX hP rfl (tgt := 63) rfl (by first | decide | omega) (by first | decide | omega) (fun c3 => ?_) (fun c3 => ?_)
            · skip
              exact r_retV hX hP rfl rfl (by first | decide | omega) (by first | decide | omega) ⟨rfl, ⟨_, (hw_sub (hw_sub (hw_refl _ _) rfl) rfl).symm⟩, rfl, trivial⟩
            · skip
              refine r_ex hX hP 1 (pc' := 34) (st' := [(2, this)]) (lo' := [(0, (2, this)), (1, (2, frm)), (2, (2, into)), (3, (0, l3_h29))]) rfl ?_
              refine r_getR hX hP rfl fl_X0_9_130 hS (fun uf4 uf4e uf4s => ?_)
              refine r_ex hX hP 1 (pc' := 38) (st' := [(0, l3_h29), (2, uf4)]) (lo' := [(0, (2, this)), (1, (2, frm)), (2, (2, into)), (3, (0, l3_h29))]) rfl ?_
              refine r_iald hX hP rfl al_93 uf4s (by first | decide | omega) (by first | decide | omega) (fun x5 x5e x5a x5b => ?_)
              refine r_ex hX hP 1 (pc' := 40) (st' := [(0, (-1)), (0, x5)]) (lo' := [(0, (2, this)), (1, (2, frm)), (2, (2, into)), (3, (0, l3_h29))]) rfl ?_
              refine r_ic_eq hX hP rfl (tgt := 57) rfl (by first | decide | omega) (by first | decide | omega) (by first | decide | omega) (by first | decide | omega) (fun c6 => ?_) (fun c6 => ?_)
              · skip
                refine r_ex hX hP 2 (pc' := 29) (st' := []) (lo' := [(0, (2, this)), (1, (2, frm)), (2, (2, into)), (3, (0, (l3_h29 + (-1))))]) rfl ?_
                refine r_eqG (X := X) (hw_base _ _ _) ?_
                exact ih29 (l3_h29 + (-1)) _ (by first | decide | omega) (by first | decide | omega) (by first | decide | omega)
              · skip
                refine r_ex hX hP 2 (pc' := 45) (st' := [(2, this), (2, into)]) (lo' := [(0, (2, this)), (1, (2, frm)), (2, (2, into)), (3, (0, l3_h29))]) rfl ?_
                refine r_getKR hX hP rfl fl_X0_9_130 hS (x := uf4) uf4e ?_
                refine r_ex hX hP 1 (pc' := 49) (st' := [(0, l3_h29), (2, uf4), (2, into)]) (lo' := [(0, (2, this)), (1, (2, frm)), (2, (2, into)), (3, (0, l3_h29))]) rfl ?_
                refine r_ialdK hX hP rfl al_93 uf4s (by first | decide | omega) (by first | decide | omega) (x := x5) x5e ?_
                refine r_ex hX hP 1 (pc' := 51) (st' := [(0, x5), (2, into), (0, x5), (2, into)]) (lo' := [(0, (2, this)), (1, (2, frm)), (2, (2, into)), (3, (0, l3_h29))]) rfl ?_
                refine r_lald hX hP rfl al_95 into_s (by first | decide | omega) (by first | decide | omega) (fun x7 x7e x7a x7b => ?_)
                refine r_ex hX hP 2 (pc' := 54) (st' := [(0, l3_h29), (2, into), (1, x7), (0, x5), (2, into)]) (lo' := [(0, (2, this)), (1, (2, frm)), (2, (2, into)), (3, (0, l3_h29))]) rfl ?_
                refine r_lald hX hP rfl al_95 into_s (by first | decide | omega) (by first | decide | omega) (fun x8 x8e x8a x8b => ?_)
                refine r_ex hX hP 1 (pc' := 56) (st' := [(1, (x7 + x8)), (0, x5), (2, into)]) (lo' := [(0, (2, this)), (1, (2, frm)), (2, (2, into)), (3, (0, l3_h29))]) rfl ?_
                refine r_hvL hX (fun w9 w9a w9b w9e => ?_)
                refine r_lastK hX hP rfl al_95 into_s (by first | decide | omega) (by first | decide | omega) (by first | decide | omega) (by first | decide | omega) (fun h10 => ?_)
                refine r_ex hX hP 2 (pc' := 29) (st' := []) (lo' := [(0, (2, this)), (1, (2, frm)), (2, (2, into)), (3, (0, (l3_h29 + (-1))))]) rfl ?_
                refine r_eqG (X := X) (hw_up (hw_base _ _ _) rfl) ?_
                exact ih29 (l3_h29 + (-1)) _ (by first | decide | omega) (by first | decide | omega) (by first | decide | omega)
        refine r_eqG (X := X) (hw_refl [(95, -1)] _) ?_
        exact loop29 (((cf1 - 1) - (-1)) + 1 : Int).toNat (cf1 - 1) _ (by first | decide | omega) (by first | decide | omega) (by first | decide | omega)
      · skip
        refine r_ex hX hP 4 (pc' := 14) (st' := [(0, l3_h2), (2, frm), (0, l3_h2), (2, into)]) (lo' := [(0, (2, this)), (1, (2, frm)), (2, (2, into)), (3, (0, l3_h2))]) rfl ?_
        refine r_lald hX hP rfl al_95 frm_s (by first | decide | omega) (by first | decide | omega) (fun x11 x11e x11a x11b => ?_)
        refine r_lastK hX hP rfl al_95 into_s (by first | decide | omega) (by first | decide | omega) (by first | decide | omega) (by first | decide | omega) (fun h12 => ?_)
        refine r_ex hX hP 2 (pc' := 2) (st' := []) (lo' := [(0, (2, this)), (1, (2, frm)), (2, (2, into)), (3, (0, (l3_h2 + 1)))]) rfl ?_
        refine r_eqG (X := X) (hw_up (hw_base _ _ _) rfl) ?_
        exact ih2 (l3_h2 + 1) _ (by first | decide | omega) (by first | decide | omega) (by first | decide | omega)
  refine r_eqG (X := X) (hw_refl [(95, -1)] _) ?_
  exact loop2 ((20 - 0) + 1 : Int).toNat 0 _ (by first | decide | omega) (by first | decide | omega) (by first | decide | omega)
set_option maxRecDepth 100000 in
set_option maxHeartbeats 4000000 in
theorem c_X0_rollRows (E : En) (S : Sg) (G : Gh) (this : Int) (hS : S this = 130) : Calls E mX0_rollRows [(2, this)] S G 1 0 0 (fun r S' G' => S = S' ∧ (∃ G1, hw [(95, -1)] G G1 = G') ∧ r = none ∧ True) := by
  refine calls_by [(0, (2, this))] rfl rfl (Nat.le_of_ble_eq_true rfl) (fun X hX => ?_)
  have hP := hPX0_rollRows
  refine r_ex hX hP 2 (pc' := 2) (st' := []) (lo' := [(0, (2, this)), (1, (0, 0))]) rfl ?_
  have loop2 : ∀ (nF : Nat) (l1_h2 : Int) (Gh2 : Gh), 0 ≤ l1_h2 → l1_h2 ≤ 4 → 4 - l1_h2 < (nF : Int) → X 0 0 2 [] [(0, (2, this)), (1, (0, l1_h2))] S (hw [(95, -1)] G Gh2) := by
    intro nF
    induction nF with
    | zero => intro l1_h2 Gh2 yh2_0 yh2_1 ym2; exfalso; omega
    | succ nF ih2 =>
      intro l1_h2 Gh2 yh2_0 yh2_1 ym2
      refine r_ex hX hP 2 (pc' := 4) (st' := [(0, 4), (0, l1_h2)]) (lo' := [(0, (2, this)), (1, (0, l1_h2))]) rfl ?_
      refine r_ic_ge hX hP rfl (tgt := 29) rfl (by first | decide | omega) (by first | decide | omega) (by first | decide | omega) (by first | decide | omega) (fun c1 => ?_) (fun c1 => ?_)
      · skip
        exact r_retV hX hP rfl rfl (by first | decide | omega) (by first | decide | omega) ⟨rfl, ⟨_, (hw_sub (hw_refl _ _) rfl).symm⟩, rfl, trivial⟩
      · skip
        refine r_ex hX hP 2 (pc' := 9) (st' := [(2, this), (2, this)]) (lo' := [(0, (2, this)), (1, (0, l1_h2))]) rfl ?_
        refine r_getR hX hP rfl fl_X0_41_130 hS (fun mf2 mf2e mf2s => ?_)
        refine r_ex hX hP 1 (pc' := 13) (st' := [(0, l1_h2), (2, mf2), (2, this)]) (lo' := [(0, (2, this)), (1, (0, l1_h2))]) rfl ?_
        refine r_aald hX hP rfl al_98 rfl mf2s (by first | decide | omega) (by first | decide | omega) (fun r3 r3e r3s => ?_)
        refine r_ex hX hP 1 (pc' := 15) (st' := [(2, this), (2, r3), (2, this)]) (lo' := [(0, (2, this)), (1, (0, l1_h2))]) rfl ?_
        refine r_getR hX hP rfl fl_X0_44_130 hS (fun af4 af4e af4s => ?_)
        refine r_ex hX hP 1 (pc' := 19) (st' := [(0, l1_h2), (2, af4), (2, r3), (2, this)]) (lo' := [(0, (2, this)), (1, (0, l1_h2))]) rfl ?_
        refine r_aald hX hP rfl al_98 rfl af4s (by first | decide | omega) (by first | decide | omega) (fun r5 r5e r5s => ?_)
        refine r_callV gd hX hP rfl cv_X0_74_130 hS (d' := 0) (mc' := 0) (ms' := 0) (as' := [(2, r3), (2, r5)]) (st := []) (by first | decide | omega) (by first | decide | omega) (by first | decide | omega) rfl rfl (Nat.le_of_ble_eq_true rfl) (c_X0_roll E S (hw [(95, -1)] G Gh2) this r3 r5 hS r3s r5s) ?_
        rintro _ _ _ ⟨rfl, ⟨G6, rfl⟩, rfl, -⟩
        refine r_ex hX hP 2 (pc' := 2) (st' := []) (lo' := [(0, (2, this)), (1, (0, (l1_h2 + 1)))]) rfl ?_
        refine r_eqG (X := X) (hw_sub (hw_base _ _ _) rfl) ?_
        exact ih2 (l1_h2 + 1) _ (by first | decide | omega) (by first | decide | omega) (by first | decide | omega)
  refine r_eqG (X := X) (hw_refl [(95, -1)] _) ?_
  exact loop2 ((4 - 0) + 1 : Int).toNat 0 _ (by first | decide | omega) (by first | decide | omega) (by first | decide | omega)
set_option maxRecDepth 100000 in
set_option maxHeartbeats 4000000 in
theorem c_X0_split (E : En) (S : Sg) (G : Gh) (this : Int) (amount : Int) (parts : Int) (hS : S this = 130) (amount_a : (-9223372036854775808) ≤ amount) (amount_b : amount ≤ 9223372036854775807) (parts_a : 0 ≤ parts) (parts_b : parts ≤ 21) : Calls E mX0_split [(2, this), (1, amount), (0, parts)] S G 1 0 0 (fun r S' G' => S = S' ∧ (∃ G1, hw [(96, -1)] G G1 = G') ∧ r = none ∧ True) := by
  refine calls_by [(0, (2, this)), (1, (1, amount)), (3, (0, parts))] rfl rfl (Nat.le_of_ble_eq_true rfl) (fun X hX => ?_)
  have hP := hPX0_split
  refine r_ex hX hP 4 (pc' := 6) (st' := []) (lo' := [(0, (2, this)), (1, (1, amount)), (3, (0, parts)), (4, (1, 0)), (6, (0, 0))]) rfl ?_
  have loop6 : ∀ (nF : Nat) (l4_h6 l6_h6 : Int), (-9223372036854775808) ≤ l4_h6 → l4_h6 ≤ 9223372036854775807 → 0 ≤ l6_h6 → l6_h6 ≤ 21 → 21 - l6_h6 < (nF : Int) → X 0 0 6 [] [(0, (2, this)), (1, (1, amount)), (3, (0, parts)), (4, (1, l4_h6)), (6, (0, l6_h6))] S G := by
    intro nF
    induction nF with
    | zero => intro l4_h6 l6_h6 yh6_0 yh6_1 yh6_2 yh6_3 ym6; exfalso; omega
    | succ nF ih6 =>
      intro l4_h6 l6_h6 yh6_0 yh6_1 yh6_2 yh6_3 ym6
      refine r_ex hX hP 2 (pc' := 9) (st' := [(0, parts), (0, l6_h6)]) (lo' := [(0, (2, this)), (1, (1, amount)), (3, (0, parts)), (4, (1, l4_h6)), (6, (0, l6_h6))]) rfl ?_
      refine r_ic_ge hX hP rfl (tgt := 30) rfl (by first | decide | omega) (by first | decide | omega) (by first | decide | omega) (by first | decide | omega) (fun c1 => ?_) (fun c1 => ?_)
      · skip
        refine r_ex hX hP 2 (pc' := 33) (st' := [(1, 0), (1, l4_h6)]) (lo' := [(0, (2, this)), (1, (1, amount)), (3, (0, parts)), (4, (1, l4_h6)), (6, (0, l6_h6))]) rfl ?_
        refine r_lc_gt hX hP rfl rfl (tgt := 46) rfl (by first | decide | omega) (by first | decide | omega) (by first | decide | omega) (by first | decide | omega) (fun c2 => ?_) (fun c2 => ?_)
        · skip
          refine r_ex hX hP 2 (pc' := 49) (st' := [(1, l4_h6), (1, amount)]) (lo' := [(0, (2, this)), (1, (1, amount)), (3, (0, parts)), (4, (1, l4_h6)), (6, (0, l6_h6))]) rfl ?_
          refine r_ldiv hX hP rfl (by first | decide | omega) (by first | decide | omega) (by first | decide | omega) (by first | decide | omega) (by first | decide | omega) ?_
          obtain ⟨q3, q3e⟩ : ∃ q : Int, q = (Int.tdiv amount l4_h6) := ⟨_, rfl⟩
          rw [← q3e]
          have q3b := td_gen q3e (by first | decide | omega)
          refine r_hvL hX (fun w4 w4a w4b w4e => ?_)
          refine r_ex hX hP 3 (pc' := 55) (st' := [(1, l4_h6), (1, amount)]) (lo' := [(0, (2, this)), (1, (1, amount)), (3, (0, parts)), (4, (1, l4_h6)), (6, (1, w4))]) rfl ?_
          refine r_lrem hX hP rfl (by first | decide | omega) (by first | decide | omega) (by first | decide | omega) (by first | decide | omega) (by first | decide | omega) ?_
          obtain ⟨q5, q5e⟩ : ∃ q : Int, q = (Int.tmod amount l4_h6) := ⟨_, rfl⟩
          rw [← q5e]
          have q5b := tm_gen q5e (by first | decide | omega)
          refine r_ex hX hP 5 (pc' := 64) (st' := []) (lo' := [(0, (2, this)), (1, (1, amount)), (3, (0, parts)), (4, (1, l4_h6)), (6, (1, w4)), (8, (1, q5)), (10, (1, amount)), (12, (0, 0))]) rfl ?_
          have loop64 : ∀ (nF : Nat) (l10_h64 l12_h64 : Int) (Gh64 : Gh), (-9223372036854775808) ≤ l10_h64 → l10_h64 ≤ 9223372036854775807 → 0 ≤ l12_h64 → l12_h64 ≤ 21 → 21 - l12_h64 < (nF : Int) → X 0 0 64 [] [(0, (2, this)), (1, (1, amount)), (3, (0, parts)), (4, (1, l4_h6)), (6, (1, w4)), (8, (1, q5)), (10, (1, l10_h64)), (12, (0, l12_h64))] S (hw [(96, -1)] G Gh64) := by
            intro nF
            induction nF with
            | zero => intro l10_h64 l12_h64 Gh64 yh64_0 yh64_1 yh64_2 yh64_3 ym64; exfalso; omega
            | succ nF ih64 =>
              intro l10_h64 l12_h64 Gh64 yh64_0 yh64_1 yh64_2 yh64_3 ym64
              refine r_ex hX hP 2 (pc' := 67) (st' := [(0, parts), (0, l12_h64)]) (lo' := [(0, (2, this)), (1, (1, amount)), (3, (0, parts)), (4, (1, l4_h6)), (6, (1, w4)), (8, (1, q5)), (10, (1, l10_h64)), (12, (0, l12_h64))]) rfl ?_
              refine r_ic_ge hX hP rfl (tgt := 139) rfl (by first | decide | omega) (by first | decide | omega) (by first | decide | omega) (by first | decide | omega) (fun c6 => ?_) (fun c6 => ?_)
              · skip
                refine r_ex hX hP 2 (pc' := 142) (st' := []) (lo' := [(0, (2, this)), (1, (1, amount)), (3, (0, parts)), (4, (1, l4_h6)), (6, (1, w4)), (8, (1, q5)), (10, (1, l10_h64)), (12, (0, 0))]) rfl ?_
                have x228 : ∀ (l10_x228 l12_x228 : Int) (Gx228 : Gh), (-9223372036854775808) ≤ l10_x228 → l10_x228 ≤ 9223372036854775807 → 0 ≤ l12_x228 → l12_x228 ≤ 21 → X 0 0 228 [] [(0, (2, this)), (1, (1, amount)), (3, (0, parts)), (4, (1, l4_h6)), (6, (1, w4)), (8, (1, q5)), (10, (1, l10_x228)), (12, (0, l12_x228))] S (hw [(96, -1)] (hw [(96, -1)] G Gh64) Gx228) := by
                  intro l10_x228 l12_x228 Gx228 yx228_0 yx228_1 yx228_2 yx228_3
                  exact r_retV hX hP rfl rfl (by first | decide | omega) (by first | decide | omega) ⟨rfl, ⟨_, (hw_sub (hw_sub (hw_refl _ _) rfl) rfl).symm⟩, rfl, trivial⟩
                have loop142 : ∀ (nF : Nat) (l10_h142 l12_h142 : Int) (Gh142 : Gh), (-9223372036854775808) ≤ l10_h142 → l10_h142 ≤ 9223372036854775807 → 0 ≤ l12_h142 → l12_h142 ≤ 21 → 21 - l12_h142 < (nF : Int) → X 0 0 142 [] [(0, (2, this)), (1, (1, amount)), (3, (0, parts)), (4, (1, l4_h6)), (6, (1, w4)), (8, (1, q5)), (10, (1, l10_h142)), (12, (0, l12_h142))] S (hw [(96, -1)] (hw [(96, -1)] G Gh64) Gh142) := by
                  intro nF
                  induction nF with
                  | zero => intro l10_h142 l12_h142 Gh142 yh142_0 yh142_1 yh142_2 yh142_3 ym142; exfalso; omega
                  | succ nF ih142 =>
                    intro l10_h142 l12_h142 Gh142 yh142_0 yh142_1 yh142_2 yh142_3 ym142
                    refine r_ex hX hP 2 (pc' := 145) (st' := [(0, parts), (0, l12_h142)]) (lo' := [(0, (2, this)), (1, (1, amount)), (3, (0, parts)), (4, (1, l4_h6)), (6, (1, w4)), (8, (1, q5)), (10, (1, l10_h142)), (12, (0, l12_h142))]) rfl ?_
                    refine r_ic_ge hX hP rfl (tgt := 228) rfl (by first | decide | omega) (by first | decide | omega) (by first | decide | omega) (by first | decide | omega) (fun c7 => ?_) (fun c7 => ?_)
                    · skip
                      refine r_eqG (X := X) (hw_sub (hw_refl [(96, -1)] _) rfl) ?_
                      exact x228 l10_h142 l12_h142 _ (by first | decide | omega) (by first | decide | omega) (by first | decide | omega) (by first | decide | omega)
                    · skip
                      refine r_ex hX hP 2 (pc' := 151) (st' := [(1, 0), (1, l10_h142)]) (lo' := [(0, (2, this)), (1, (1, amount)), (3, (0, parts)), (4, (1, l4_h6)), (6, (1, w4)), (8, (1, q5)), (10, (1, l10_h142)), (12, (0, l12_h142))]) rfl ?_
                      refine r_lc_le hX hP rfl rfl (tgt := 228) rfl (by first | decide | omega) (by first | decide | omega) (by first | decide | omega) (by first | decide | omega) (fun c8 => ?_) (fun c8 => ?_)
                      · skip
                        refine r_eqG (X := X) (hw_sub (hw_refl [(96, -1)] _) rfl) ?_
                        exact x228 l10_h142 l12_h142 _ (by first | decide | omega) (by first | decide | omega) (by first | decide | omega) (by first | decide | omega)
                      · skip
                        refine r_ex hX hP 4 (pc' := 161) (st' := []) (lo' := [(0, (2, this)), (1, (1, amount)), (3, (0, parts)), (4, (1, l4_h6)), (6, (1, w4)), (8, (1, q5)), (10, (1, l10_h142)), (12, (0, l12_h142)), (13, (0, 0)), (14, (0, 1))]) rfl ?_
                        have loop161 : ∀ (nF : Nat) (l13_h161 l14_h161 : Int), 0 ≤ l13_h161 → l13_h161 ≤ 20 → 1 ≤ l14_h161 → l14_h161 ≤ 21 → 21 - l14_h161 < (nF : Int) → X 0 0 161 [] [(0, (2, this)), (1, (1, amount)), (3, (0, parts)), (4, (1, l4_h6)), (6, (1, w4)), (8, (1, q5)), (10, (1, l10_h142)), (12, (0, l12_h142)), (13, (0, l13_h161)), (14, (0, l14_h161))] S (hw [(96, -1)] (hw [(96, -1)] G Gh64) Gh142) := by
                          intro nF
                          induction nF with
                          | zero => intro l13_h161 l14_h161 yh161_0 yh161_1 yh161_2 yh161_3 ym161; exfalso; omega
                          | succ nF ih161 =>
                            intro l13_h161 l14_h161 yh161_0 yh161_1 yh161_2 yh161_3 ym161
                            refine r_ex hX hP 2 (pc' := 164) (st' := [(0, parts), (0, l14_h161)]) (lo' := [(0, (2, this)), (1, (1, amount)), (3, (0, parts)), (4, (1, l4_h6)), (6, (1, w4)), (8, (1, q5)), (10, (1, l10_h142)), (12, (0, l12_h142)), (13, (0, l13_h161)), (14, (0, l14_h161))]) rfl ?_
                            refine r_ic_ge hX hP rfl (tgt := 195) rfl (by first | decide | omega) (by first | decide | omega) (by first | decide | omega) (by first | decide | omega) (fun c9 => ?_) (fun c9 => ?_)
                            · skip
                              refine r_ex hX hP 1 (pc' := 196) (st' := [(2, this)]) (lo' := [(0, (2, this)), (1, (1, amount)), (3, (0, parts)), (4, (1, l4_h6)), (6, (1, w4)), (8, (1, q5)), (10, (1, l10_h142)), (12, (0, l12_h142)), (13, (0, l13_h161)), (14, (0, l14_h161))]) rfl ?_
                              refine r_getR hX hP rfl fl_X0_60_130 hS (fun sf10 sf10e sf10s => ?_)
                              refine r_ex hX hP 2 (pc' := 202) (st' := [(0, l13_h161), (2, sf10), (0, l13_h161), (2, sf10)]) (lo' := [(0, (2, this)), (1, (1, amount)), (3, (0, parts)), (4, (1, l4_h6)), (6, (1, w4)), (8, (1, q5)), (10, (1, l10_h142)), (12, (0, l12_h142)), (13, (0, l13_h161)), (14, (0, l14_h161))]) rfl ?_
                              refine r_lald hX hP rfl al_96 sf10s (by first | decide | omega) (by first | decide | omega) (fun x11 x11e x11a x11b => ?_)
                              refine r_ex hX hP 2 (pc' := 205) (st' := [(1, (x11 + 1)), (0, l13_h161), (2, sf10)]) (lo' := [(0, (2, this)), (1, (1, amount)), (3, (0, parts)), (4, (1, l4_h6)), (6, (1, w4)), (8, (1, q5)), (10, (1, l10_h142)), (12, (0, l12_h142)), (13, (0, l13_h161)), (14, (0, l14_h161))]) rfl ?_
                              refine r_hvL hX (fun w12 w12a w12b w12e => ?_)
                              refine r_lastK hX hP rfl al_96 sf10s (by first | decide | omega) (by first | decide | omega) (by first | decide | omega) (by first | decide | omega) (fun h13 => ?_)
                              refine r_ex hX hP 1 (pc' := 207) (st' := [(2, this)]) (lo' := [(0, (2, this)), (1, (1, amount)), (3, (0, parts)), (4, (1, l4_h6)), (6, (1, w4)), (8, (1, q5)), (10, (1, l10_h142)), (12, (0, l12_h142)), (13, (0, l13_h161)), (14, (0, l14_h161))]) rfl ?_
                              refine r_getR hX hP rfl fl_X0_63_130 hS (fun rf14 rf14e rf14s => ?_)
                              refine r_ex hX hP 1 (pc' := 212) (st' := [(0, l13_h161), (2, rf14)]) (lo' := [(0, (2, this)), (1, (1, amount)), (3, (0, parts)), (4, (1, l4_h6)), (6, (1, w4)), (8, (1, q5)), (10, (1, l10_h142)), (12, (0, l12_h142)), (13, (0, l13_h161)), (14, (0, l14_h161))]) rfl ?_
                              refine r_ldc2 hX hP rfl (v := (-1)) (tbg sg5 158 rfl rfl) ?_
                              refine r_lastK hX hP rfl al_96 rf14s (by first | decide | omega) (by first | decide | omega) (by first | decide | omega) (by first | decide | omega) (fun h15 => ?_)
                              refine r_ex hX hP 6 (pc' := 142) (st' := []) (lo' := [(0, (2, this)), (1, (1, amount)), (3, (0, parts)), (4, (1, l4_h6)), (6, (1, w4)), (8, (1, q5)), (10, (1, (l10_h142 - 1))), (12, (0, (l12_h142 + 1))), (13, (0, l13_h161)), (14, (0, l14_h161))]) rfl ?_
                              refine r_pick hX [0, 1, 2, 3, 4, 5, 6, 7] (lo' := [(0, (2, this)), (1, (1, amount)), (3, (0, parts)), (4, (1, l4_h6)), (6, (1, w4)), (8, (1, q5)), (10, (1, (l10_h142 - 1))), (12, (0, (l12_h142 + 1)))]) rfl ?_
                              refine r_eqG (X := X) (hw_up (hw_up (hw_base _ _ _) rfl) rfl) ?_
                              exact ih142 (l10_h142 - 1) (l12_h142 + 1) _ (by first | decide | omega) (by first | decide | omega) (by first | decide | omega) (by first | decide | omega) (by first | decide | omega)
                            · skip
                              refine r_ex hX hP 1 (pc' := 168) (st' := [(2, this)]) (lo' := [(0, (2, this)), (1, (1, amount)), (3, (0, parts)), (4, (1, l4_h6)), (6, (1, w4)), (8, (1, q5)), (10, (1, l10_h142)), (12, (0, l12_h142)), (13, (0, l13_h161)), (14, (0, l14_h161))]) rfl ?_
                              refine r_getR hX hP rfl fl_X0_63_130 hS (fun rf16 rf16e rf16s => ?_)
                              refine r_ex hX hP 1 (pc' := 173) (st' := [(0, l14_h161), (2, rf16)]) (lo' := [(0, (2, this)), (1, (1, amount)), (3, (0, parts)), (4, (1, l4_h6)), (6, (1, w4)), (8, (1, q5)), (10, (1, l10_h142)), (12, (0, l12_h142)), (13, (0, l13_h161)), (14, (0, l14_h161))]) rfl ?_
                              refine r_lald hX hP rfl al_96 rf16s (by first | decide | omega) (by first | decide | omega) (fun x17 x17e x17a x17b => ?_)
                              refine r_ex hX hP 1 (pc' := 175) (st' := [(2, this), (1, x17)]) (lo' := [(0, (2, this)), (1, (1, amount)), (3, (0, parts)), (4, (1, l4_h6)), (6, (1, w4)), (8, (1, q5)), (10, (1, l10_h142)), (12, (0, l12_h142)), (13, (0, l13_h161)), (14, (0, l14_h161))]) rfl ?_
                              refine r_getKR hX hP rfl fl_X0_63_130 hS (x := rf16) rf16e ?_
                              refine r_ex hX hP 1 (pc' := 180) (st' := [(0, l13_h161), (2, rf16), (1, x17)]) (lo' := [(0, (2, this)), (1, (1, amount)), (3, (0, parts)), (4, (1, l4_h6)), (6, (1, w4)), (8, (1, q5)), (10, (1, l10_h142)), (12, (0, l12_h142)), (13, (0, l13_h161)), (14, (0, l14_h161))]) rfl ?_
                              refine r_lald hX hP rfl al_96 rf16s (by first | decide | omega) (by first | decide | omega) (fun x18 x18e x18a x18b => ?_)
                              refine r_lc_le hX hP rfl rfl (tgt := 189) rfl (by first | decide | omega) (by first | decide | omega) (by first | decide | omega) (by first | decide | omega) (fun c19 => ?_) (fun c19 => ?_)
                              · skip
                                refine r_ex hX hP 2 (pc' := 161) (st' := []) (lo' := [(0, (2, this)), (1, (1, amount)), (3, (0, parts)), (4, (1, l4_h6)), (6, (1, w4)), (8, (1, q5)), (10, (1, l10_h142)), (12, (0, l12_h142)), (13, (0, l13_h161)), (14, (0, (l14_h161 + 1)))]) rfl ?_
                                exact ih161 l13_h161 (l14_h161 + 1) (by first | decide | omega) (by first | decide | omega) (by first | decide | omega) (by first | decide | omega) (by first | decide | omega)
                              · skip
                                refine r_ex hX hP 4 (pc' := 161) (st' := []) (lo' := [(0, (2, this)), (1, (1, amount)), (3, (0, parts)), (4, (1, l4_h6)), (6, (1, w4)), (8, (1, q5)), (10, (1, l10_h142)), (12, (0, l12_h142)), (13, (0, l14_h161)), (14, (0, (l14_h161 + 1)))]) rfl ?_
                                exact ih161 l14_h161 (l14_h161 + 1) (by first | decide | omega) (by first | decide | omega) (by first | decide | omega) (by first | decide | omega) (by first | decide | omega)
                        exact loop161 ((21 - 1) + 1 : Int).toNat 0 1 (by first | decide | omega) (by first | decide | omega) (by first | decide | omega) (by first | decide | omega) (by first | decide | omega)
                refine r_eqG (X := X) (hw_refl [(96, -1)] _) ?_
                exact loop142 ((21 - 0) + 1 : Int).toNat l10_h64 0 _ (by first | decide | omega) (by first | decide | omega) (by first | decide | omega) (by first | decide | omega) (by first | decide | omega)
              · skip
                refine r_ex hX hP 1 (pc' := 71) (st' := [(2, this)]) (lo' := [(0, (2, this)), (1, (1, amount)), (3, (0, parts)), (4, (1, l4_h6)), (6, (1, w4)), (8, (1, q5)), (10, (1, l10_h64)), (12, (0, l12_h64))]) rfl ?_
                refine r_getR hX hP rfl fl_X0_60_130 hS (fun sf20 sf20e sf20s => ?_)
                refine r_ex hX hP 3 (pc' := 79) (st' := [(2, this), (1, w4), (0, l12_h64), (2, sf20)]) (lo' := [(0, (2, this)), (1, (1, amount)), (3, (0, parts)), (4, (1, l4_h6)), (6, (1, w4)), (8, (1, q5)), (10, (1, l10_h64)), (12, (0, l12_h64))]) rfl ?_
                refine r_getR hX hP rfl fl_X0_57_130 hS (fun wf21 wf21e wf21s => ?_)
                refine r_ex hX hP 1 (pc' := 84) (st' := [(0, l12_h64), (2, wf21), (1, w4), (0, l12_h64), (2, sf20)]) (lo' := [(0, (2, this)), (1, (1, amount)), (3, (0, parts)), (4, (1, l4_h6)), (6, (1, w4)), (8, (1, q5)), (10, (1, l10_h64)), (12, (0, l12_h64))]) rfl ?_
                refine r_lald hX hP rfl al_96 wf21s (by first | decide | omega) (by first | decide | omega) (fun x22 x22e x22a x22b => ?_)
                refine r_ex hX hP 1 (pc' := 86) (st' := [(1, (w4 * x22)), (0, l12_h64), (2, sf20)]) (lo' := [(0, (2, this)), (1, (1, amount)), (3, (0, parts)), (4, (1, l4_h6)), (6, (1, w4)), (8, (1, q5)), (10, (1, l10_h64)), (12, (0, l12_h64))]) rfl ?_
                refine r_hvL hX (fun w23 w23a w23b w23e => ?_)
                refine r_ex hX hP 2 (pc' := 89) (st' := [(2, this), (1, q5), (1, w23), (0, l12_h64), (2, sf20)]) (lo' := [(0, (2, this)), (1, (1, amount)), (3, (0, parts)), (4, (1, l4_h6)), (6, (1, w4)), (8, (1, q5)), (10, (1, l10_h64)), (12, (0, l12_h64))]) rfl ?_
                refine r_getKR hX hP rfl fl_X0_57_130 hS (x := wf21) wf21e ?_
                refine r_ex hX hP 1 (pc' := 94) (st' := [(0, l12_h64), (2, wf21), (1, q5), (1, w23), (0, l12_h64), (2, sf20)]) (lo' := [(0, (2, this)), (1, (1, amount)), (3, (0, parts)), (4, (1, l4_h6)), (6, (1, w4)), (8, (1, q5)), (10, (1, l10_h64)), (12, (0, l12_h64))]) rfl ?_
                refine r_laldK hX hP rfl al_96 wf21s (by first | decide | omega) (by first | decide | omega) (x := x22) x22e ?_
                refine r_ex hX hP 1 (pc' := 96) (st' := [(1, (q5 * x22)), (1, w23), (0, l12_h64), (2, sf20)]) (lo' := [(0, (2, this)), (1, (1, amount)), (3, (0, parts)), (4, (1, l4_h6)), (6, (1, w4)), (8, (1, q5)), (10, (1, l10_h64)), (12, (0, l12_h64))]) rfl ?_
                refine r_hvL hX (fun w24 w24a w24b w24e => ?_)
                refine r_ex hX hP 1 (pc' := 98) (st' := [(1, l4_h6), (1, w24), (1, w23), (0, l12_h64), (2, sf20)]) (lo' := [(0, (2, this)), (1, (1, amount)), (3, (0, parts)), (4, (1, l4_h6)), (6, (1, w4)), (8, (1, q5)), (10, (1, l10_h64)), (12, (0, l12_h64))]) rfl ?_
                refine r_ldiv hX hP rfl (by first | decide | omega) (by first | decide | omega) (by first | decide | omega) (by first | decide | omega) (by first | decide | omega) ?_
                obtain ⟨q25, q25e⟩ : ∃ q : Int, q = (Int.tdiv w24 l4_h6) := ⟨_, rfl⟩
                rw [← q25e]
                have q25b := td_gen q25e (by first | decide | omega)
                refine r_hvL hX (fun w26 w26a w26b w26e => ?_)
                refine r_ex hX hP 1 (pc' := 100) (st' := [(1, (w23 + w26)), (0, l12_h64), (2, sf20)]) (lo' := [(0, (2, this)), (1, (1, amount)), (3, (0, parts)), (4, (1, l4_h6)), (6, (1, w4)), (8, (1, q5)), (10, (1, l10_h64)), (12, (0, l12_h64))]) rfl ?_
                refine r_hvL hX (fun w27 w27a w27b w27e => ?_)
                refine r_lastK hX hP rfl al_96 sf20s (by first | decide | omega) (by first | decide | omega) (by first | decide | omega) (by first | decide | omega) (fun h28 => ?_)
                refine r_ex hX hP 1 (pc' := 102) (st' := [(2, this)]) (lo' := [(0, (2, this)), (1, (1, amount)), (3, (0, parts)), (4, (1, l4_h6)), (6, (1, w4)), (8, (1, q5)), (10, (1, l10_h64)), (12, (0, l12_h64))]) rfl ?_
                refine r_getR hX hP rfl fl_X0_63_130 hS (fun rf29 rf29e rf29s => ?_)
                refine r_ex hX hP 3 (pc' := 110) (st' := [(2, this), (1, q5), (0, l12_h64), (2, rf29)]) (lo' := [(0, (2, this)), (1, (1, amount)), (3, (0, parts)), (4, (1, l4_h6)), (6, (1, w4)), (8, (1, q5)), (10, (1, l10_h64)), (12, (0, l12_h64))]) rfl ?_
                refine r_getKR hX hP rfl fl_X0_57_130 hS (x := wf21) wf21e ?_
                refine r_ex hX hP 1 (pc' := 115) (st' := [(0, l12_h64), (2, wf21), (1, q5), (0, l12_h64), (2, rf29)]) (lo' := [(0, (2, this)), (1, (1, amount)), (3, (0, parts)), (4, (1, l4_h6)), (6, (1, w4)), (8, (1, q5)), (10, (1, l10_h64)), (12, (0, l12_h64))]) rfl ?_
                refine r_lald hX hP rfl al_96 wf21s (by first | decide | omega) (by first | decide | omega) (fun x30 x30e x30a x30b => ?_)
                refine r_ex hX hP 1 (pc' := 117) (st' := [(1, (q5 * x30)), (0, l12_h64), (2, rf29)]) (lo' := [(0, (2, this)), (1, (1, amount)), (3, (0, parts)), (4, (1, l4_h6)), (6, (1, w4)), (8, (1, q5)), (10, (1, l10_h64)), (12, (0, l12_h64))]) rfl ?_
                refine r_hvL hX (fun w31 w31a w31b w31e => ?_)
                refine r_ex hX hP 1 (pc' := 119) (st' := [(1, l4_h6), (1, w31), (0, l12_h64), (2, rf29)]) (lo' := [(0, (2, this)), (1, (1, amount)), (3, (0, parts)), (4, (1, l4_h6)), (6, (1, w4)), (8, (1, q5)), (10, (1, l10_h64)), (12, (0, l12_h64))]) rfl ?_
                refine r_lrem hX hP rfl (by first | decide | omega) (by first | decide | omega) (by first | decide | omega) (by first | decide | omega) (by first | decide | omega) ?_
                obtain ⟨q32, q32e⟩ : ∃ q : Int, q = (Int.tmod w31 l4_h6) := ⟨_, rfl⟩
                rw [← q32e]
                have q32b := tm_gen q32e (by first | decide | omega)
                refine r_lastK hX hP rfl al_96 rf29s (by first | decide | omega) (by first | decide | omega) (by first | decide | omega) (by first | decide | omega) (fun h33 => ?_)
                refine r_ex hX hP 2 (pc' := 124) (st' := [(2, this), (1, l10_h64)]) (lo' := [(0, (2, this)), (1, (1, amount)), (3, (0, parts)), (4, (1, l4_h6)), (6, (1, w4)), (8, (1, q5)), (10, (1, l10_h64)), (12, (0, l12_h64))]) rfl ?_
                refine r_getKR hX hP rfl fl_X0_60_130 hS (x := sf20) sf20e ?_
                refine r_ex hX hP 1 (pc' := 129) (st' := [(0, l12_h64), (2, sf20), (1, l10_h64)]) (lo' := [(0, (2, this)), (1, (1, amount)), (3, (0, parts)), (4, (1, l4_h6)), (6, (1, w4)), (8, (1, q5)), (10, (1, l10_h64)), (12, (0, l12_h64))]) rfl ?_
                refine r_lald hX hP rfl al_96 sf20s (by first | decide | omega) (by first | decide | omega) (fun x34 x34e x34a x34b => ?_)
                refine r_ex hX hP 1 (pc' := 131) (st' := [(1, (l10_h64 - x34))]) (lo' := [(0, (2, this)), (1, (1, amount)), (3, (0, parts)), (4, (1, l4_h6)), (6, (1, w4)), (8, (1, q5)), (10, (1, l10_h64)), (12, (0, l12_h64))]) rfl ?_
                refine r_hvL hX (fun w35 w35a w35b w35e => ?_)
                refine r_ex hX hP 3 (pc' := 64) (st' := []) (lo' := [(0, (2, this)), (1, (1, amount)), (3, (0, parts)), (4, (1, l4_h6)), (6, (1, w4)), (8, (1, q5)), (10, (1, w35)), (12, (0, (l12_h64 + 1)))]) rfl ?_
                refine r_eqG (X := X) (hw_up (hw_up (hw_base _ _ _) rfl) rfl) ?_
                exact ih64 w35 (l12_h64 + 1) _ (by first | decide | omega) (by first | decide | omega) (by first | decide | omega) (by first | decide | omega) (by first | decide | omega)
          refine r_eqG (X := X) (hw_refl [(96, -1)] _) ?_
          exact loop64 ((21 - 0) + 1 : Int).toNat amount 0 _ (by first | decide | omega) (by first | decide | omega) (by first | decide | omega) (by first | decide | omega) (by first | decide | omega)
        · skip
          refine r_ex hX hP 1 (pc' := 38) (st' := [(2, this)]) (lo' := [(0, (2, this)), (1, (1, amount)), (3, (0, parts)), (4, (1, l4_h6)), (6, (0, l6_h6))]) rfl ?_
          refine r_getR hX hP rfl fl_X0_60_130 hS (fun sf36 sf36e sf36s => ?_)
          refine r_ex hX hP 1 (pc' := 42) (st' := [(1, 0), (2, sf36)]) (lo' := [(0, (2, this)), (1, (1, amount)), (3, (0, parts)), (4, (1, l4_h6)), (6, (0, l6_h6))]) rfl ?_
          refine r_callS gd hX hP rfl cs_X0_82 (d' := 0) (mc' := 0) (ms' := 0) (as' := [(2, sf36), (1, 0)]) (st := []) (by first | decide | omega) (by first | decide | omega) (by first | decide | omega) rfl rfl (Nat.le_of_ble_eq_true rfl) (c_fillJ_J21 E S G sf36 0 sf36s (by first | decide | omega) (by first | decide | omega)) ?_
          rintro _ _ _ ⟨rfl, ⟨G37, rfl⟩, rfl, -⟩
          exact r_retV hX hP rfl rfl (by first | decide | omega) (by first | decide | omega) ⟨rfl, ⟨_, (hw_sub (hw_refl _ _) rfl).symm⟩, rfl, trivial⟩
      · skip
        refine r_ex hX hP 2 (pc' := 15) (st' := [(2, this), (1, l4_h6)]) (lo' := [(0, (2, this)), (1, (1, amount)), (3, (0, parts)), (4, (1, l4_h6)), (6, (0, l6_h6))]) rfl ?_
        refine r_getR hX hP rfl fl_X0_57_130 hS (fun wf38 wf38e wf38s => ?_)
        refine r_ex hX hP 1 (pc' := 20) (st' := [(0, l6_h6), (2, wf38), (1, l4_h6)]) (lo' := [(0, (2, this)), (1, (1, amount)), (3, (0, parts)), (4, (1, l4_h6)), (6, (0, l6_h6))]) rfl ?_
        refine r_lald hX hP rfl al_96 wf38s (by first | decide | omega) (by first | decide | omega) (fun x39 x39e x39a x39b => ?_)
        refine r_ex hX hP 1 (pc' := 22) (st' := [(1, (l4_h6 + x39))]) (lo' := [(0, (2, this)), (1, (1, amount)), (3, (0, parts)), (4, (1, l4_h6)), (6, (0, l6_h6))]) rfl ?_
        refine r_hvL hX (fun w40 w40a w40b w40e => ?_)
        refine r_ex hX hP 3 (pc' := 6) (st' := []) (lo' := [(0, (2, this)), (1, (1, amount)), (3, (0, parts)), (4, (1, w40)), (6, (0, (l6_h6 + 1)))]) rfl ?_
        exact ih6 w40 (l6_h6 + 1) (by first | decide | omega) (by first | decide | omega) (by first | decide | omega) (by first | decide | omega) (by first | decide | omega)
  exact loop6 ((21 - 0) + 1 : Int).toNat 0 0 (by first | decide | omega) (by first | decide | omega) (by first | decide | omega) (by first | decide | omega) (by first | decide | omega)
set_option maxRecDepth 100000 in
set_option maxHeartbeats 4000000 in
theorem c_X0_part (E : En) (S : Sg) (G : Gh) (this : Int) (amount : Int) (head : Int) (row : Int) (hS : S this = 130) (amount_a : (-9223372036854775808) ≤ amount) (amount_b : amount ≤ 9223372036854775807) (head_a : 0 ≤ head) (head_b : head ≤ 19) (row_a : 0 ≤ row) (row_b : row ≤ 3) : Calls E mX0_part [(2, this), (1, amount), (0, head), (0, row)] S G 2 0 0 (fun r S' G' => S = S' ∧ (∃ G1, hw [(95, -1), (96, -1), (97, -1)] G G1 = G') ∧ r = none ∧ True) := by
  refine calls_by [(0, (2, this)), (1, (1, amount)), (3, (0, head)), (4, (0, row))] rfl rfl (Nat.le_of_ble_eq_true rfl) (fun X hX => ?_)
  have hP := hPX0_part
  refine r_ex hX hP 1 (pc' := 1) (st' := [(2, this)]) (lo' := [(0, (2, this)), (1, (1, amount)), (3, (0, head)), (4, (0, row))]) rfl ?_
  refine r_getR hX hP rfl fl_X0_47_130 hS (fun of1 of1e of1s => ?_)
  refine r_ex hX hP 2 (pc' := 6) (st' := [(1, amount), (0, head), (2, of1)]) (lo' := [(0, (2, this)), (1, (1, amount)), (3, (0, head)), (4, (0, row))]) rfl ?_
  refine r_lastK hX hP rfl al_95 of1s (by first | decide | omega) (by first | decide | omega) (by first | decide | omega) (by first | decide | omega) (fun h2 => ?_)
  refine r_ex hX hP 2 (pc' := 10) (st' := []) (lo' := [(0, (2, this)), (1, (1, amount)), (3, (0, head)), (4, (0, row)), (5, (0, head))]) rfl ?_
  have loop10 : ∀ (nF : Nat) (l5_h10 : Int) (Gh10 : Gh), 0 ≤ l5_h10 → l5_h10 ≤ 20 → 20 - l5_h10 < (nF : Int) → X 0 0 10 [] [(0, (2, this)), (1, (1, amount)), (3, (0, head)), (4, (0, row)), (5, (0, l5_h10))] S (hw [(95, -1), (96, -1), (97, -1)] (up G 95 of1 head amount) Gh10) := by
    intro nF
    induction nF with
    | zero => intro l5_h10 Gh10 yh10_0 yh10_1 ym10; exfalso; omega
    | succ nF ih10 =>
      intro l5_h10 Gh10 yh10_0 yh10_1 ym10
      refine r_ex hX hP 2 (pc' := 13) (st' := [(2, this), (0, l5_h10)]) (lo' := [(0, (2, this)), (1, (1, amount)), (3, (0, head)), (4, (0, row)), (5, (0, l5_h10))]) rfl ?_
      refine r_getI hX hP rfl fl_X0_66_130 hS (fun cf3 cf3e cf3a cf3b => ?_)
      refine r_ic_ge hX hP rfl (tgt := 196) rfl (by first | decide | omega) (by first | decide | omega) (by first | decide | omega) (by first | decide | omega) (fun c4 => ?_) (fun c4 => ?_)
      · skip
        exact r_retV hX hP rfl rfl (by first | decide | omega) (by first | decide | omega) ⟨rfl, ⟨_, (hw_sub (hw_up (hw_refl _ _) rfl) rfl).symm⟩, rfl, trivial⟩
      · skip
        refine r_ex hX hP 1 (pc' := 20) (st' := [(2, this)]) (lo' := [(0, (2, this)), (1, (1, amount)), (3, (0, head)), (4, (0, row)), (5, (0, l5_h10))]) rfl ?_
        refine r_getR hX hP rfl fl_X0_21_130 hS (fun tf5 tf5e tf5s => ?_)
        refine r_ex hX hP 1 (pc' := 25) (st' := [(0, l5_h10), (2, tf5)]) (lo' := [(0, (2, this)), (1, (1, amount)), (3, (0, head)), (4, (0, row)), (5, (0, l5_h10))]) rfl ?_
        refine r_iald hX hP rfl al_94 tf5s (by first | decide | omega) (by first | decide | omega) (fun x6 x6e x6a x6b => ?_)
        refine r_ex hX hP 1 (pc' := 27) (st' := [(0, head), (0, x6)]) (lo' := [(0, (2, this)), (1, (1, amount)), (3, (0, head)), (4, (0, row)), (5, (0, l5_h10))]) rfl ?_
        refine r_ic_eq hX hP rfl (tgt := 33) rfl (by first | decide | omega) (by first | decide | omega) (by first | decide | omega) (by first | decide | omega) (fun c7 => ?_) (fun c7 => ?_)
        · skip
          refine r_ex hX hP 1 (pc' := 34) (st' := [(2, this)]) (lo' := [(0, (2, this)), (1, (1, amount)), (3, (0, head)), (4, (0, row)), (5, (0, l5_h10))]) rfl ?_
          refine r_getR hX hP rfl fl_X0_54_130 hS (fun wf8 wf8e wf8s => ?_)
          refine r_ex hX hP 2 (pc' := 40) (st' := [(0, l5_h10), (0, 0), (2, wf8)]) (lo' := [(0, (2, this)), (1, (1, amount)), (3, (0, head)), (4, (0, row)), (5, (0, l5_h10))]) rfl ?_
          refine r_iastK hX hP rfl al_97 wf8s (by first | decide | omega) (by first | decide | omega) (by first | decide | omega) (by first | decide | omega) (fun h9 => ?_)
          refine r_ex hX hP 1 (pc' := 42) (st' := [(2, this)]) (lo' := [(0, (2, this)), (1, (1, amount)), (3, (0, head)), (4, (0, row)), (5, (0, l5_h10))]) rfl ?_
          refine r_getR hX hP rfl fl_X0_57_130 hS (fun wf10 wf10e wf10s => ?_)
          refine r_ex hX hP 2 (pc' := 47) (st' := [(2, this), (0, 0), (2, wf10)]) (lo' := [(0, (2, this)), (1, (1, amount)), (3, (0, head)), (4, (0, row)), (5, (0, l5_h10))]) rfl ?_
          refine r_getR hX hP rfl fl_X0_41_130 hS (fun mf11 mf11e mf11s => ?_)
          refine r_ex hX hP 1 (pc' := 52) (st' := [(0, row), (2, mf11), (0, 0), (2, wf10)]) (lo' := [(0, (2, this)), (1, (1, amount)), (3, (0, head)), (4, (0, row)), (5, (0, l5_h10))]) rfl ?_
          refine r_aald hX hP rfl al_98 rfl mf11s (by first | decide | omega) (by first | decide | omega) (fun r12 r12e r12s => ?_)
          refine r_ex hX hP 1 (pc' := 55) (st' := [(0, l5_h10), (2, r12), (0, 0), (2, wf10)]) (lo' := [(0, (2, this)), (1, (1, amount)), (3, (0, head)), (4, (0, row)), (5, (0, l5_h10))]) rfl ?_
          refine r_lald hX hP rfl al_95 r12s (by first | decide | omega) (by first | decide | omega) (fun x13 x13e x13a x13b => ?_)
          refine r_lastK hX hP rfl al_96 wf10s (by first | decide | omega) (by first | decide | omega) (by first | decide | omega) (by first | decide | omega) (fun h14 => ?_)
          refine r_ex hX hP 3 (pc' := 61) (st' := [(2, this)]) (lo' := [(0, (2, this)), (1, (1, amount)), (3, (0, head)), (4, (0, row)), (5, (0, l5_h10)), (6, (0, 1))]) rfl ?_
          refine r_getR hX hP rfl fl_X0_30_130 hS (fun ff15 ff15e ff15s => ?_)
          refine r_ex hX hP 1 (pc' := 66) (st' := [(0, l5_h10), (2, ff15)]) (lo' := [(0, (2, this)), (1, (1, amount)), (3, (0, head)), (4, (0, row)), (5, (0, l5_h10)), (6, (0, 1))]) rfl ?_
          refine r_iald hX hP rfl al_93 ff15s (by first | decide | omega) (by first | decide | omega) (fun x16 x16e x16a x16b => ?_)
          refine r_ex hX hP 3 (pc' := 72) (st' := []) (lo' := [(0, (2, this)), (1, (1, amount)), (3, (0, head)), (4, (0, row)), (5, (0, l5_h10)), (6, (0, 1)), (7, (0, x16)), (8, (0, 0))]) rfl ?_
          have x129 : ∀ (l6_x129 l7_x129 l8_x129 : Int) (Gx129 : Gh), 1 ≤ l6_x129 → l6_x129 ≤ 21 → (-2147483648) ≤ l7_x129 → l7_x129 ≤ 2147483647 → 0 ≤ l8_x129 → l8_x129 ≤ 20 → X 0 0 129 [] [(0, (2, this)), (1, (1, amount)), (3, (0, head)), (4, (0, row)), (5, (0, l5_h10)), (6, (0, l6_x129)), (7, (0, l7_x129)), (8, (0, l8_x129))] S (hw [(96, -1), (97, -1)] (up (up (hw [(95, -1), (96, -1), (97, -1)] (up G 95 of1 head amount) Gh10) 97 wf8 0 l5_h10) 96 wf10 0 x13) Gx129) := by
            intro l6_x129 l7_x129 l8_x129 Gx129 yx129_0 yx129_1 yx129_2 yx129_3 yx129_4 yx129_5
            refine r_ex hX hP 2 (pc' := 131) (st' := [(2, this), (2, this)]) (lo' := [(0, (2, this)), (1, (1, amount)), (3, (0, head)), (4, (0, row)), (5, (0, l5_h10)), (6, (0, l6_x129)), (7, (0, l7_x129)), (8, (0, l8_x129))]) rfl ?_
            refine r_getKR hX hP rfl fl_X0_47_130 hS (x := of1) of1e ?_
            refine r_ex hX hP 1 (pc' := 136) (st' := [(0, l5_h10), (2, of1), (2, this)]) (lo' := [(0, (2, this)), (1, (1, amount)), (3, (0, head)), (4, (0, row)), (5, (0, l5_h10)), (6, (0, l6_x129)), (7, (0, l7_x129)), (8, (0, l8_x129))]) rfl ?_
            refine r_lald hX hP rfl al_95 of1s (by first | decide | omega) (by first | decide | omega) (fun x17 x17e x17a x17b => ?_)
            refine r_ex hX hP 1 (pc' := 139) (st' := [(0, l6_x129), (1, x17), (2, this)]) (lo' := [(0, (2, this)), (1, (1, amount)), (3, (0, head)), (4, (0, row)), (5, (0, l5_h10)), (6, (0, l6_x129)), (7, (0, l7_x129)), (8, (0, l8_x129))]) rfl ?_
            refine r_callV gd hX hP rfl cv_X0_78_130 hS (d' := 1) (mc' := 0) (ms' := 0) (as' := [(1, x17), (0, l6_x129)]) (st := []) (by first | decide | omega) (by first | decide | omega) (by first | decide | omega) rfl rfl (Nat.le_of_ble_eq_true rfl) (c_X0_split E S (hw [(96, -1), (97, -1)] (up (up (hw [(95, -1), (96, -1), (97, -1)] (up G 95 of1 head amount) Gh10) 97 wf8 0 l5_h10) 96 wf10 0 x13) Gx129) this x17 l6_x129 hS (by first | decide | omega) (by first | decide | omega) (by first | decide | omega) (by first | decide | omega)) ?_
            rintro _ _ _ ⟨rfl, ⟨G18, rfl⟩, rfl, -⟩
            refine r_ex hX hP 1 (pc' := 143) (st' := [(2, this)]) (lo' := [(0, (2, this)), (1, (1, amount)), (3, (0, head)), (4, (0, row)), (5, (0, l5_h10)), (6, (0, l6_x129)), (7, (0, l7_x129)), (8, (0, l8_x129))]) rfl ?_
            refine r_getR hX hP rfl fl_X0_51_130 hS (fun gf19 gf19e gf19s => ?_)
            refine r_ex hX hP 2 (pc' := 149) (st' := [(2, this), (0, l5_h10), (2, gf19)]) (lo' := [(0, (2, this)), (1, (1, amount)), (3, (0, head)), (4, (0, row)), (5, (0, l5_h10)), (6, (0, l6_x129)), (7, (0, l7_x129)), (8, (0, l8_x129))]) rfl ?_
            refine r_getR hX hP rfl fl_X0_60_130 hS (fun sf20 sf20e sf20s => ?_)
            refine r_ex hX hP 1 (pc' := 153) (st' := [(0, 0), (2, sf20), (0, l5_h10), (2, gf19)]) (lo' := [(0, (2, this)), (1, (1, amount)), (3, (0, head)), (4, (0, row)), (5, (0, l5_h10)), (6, (0, l6_x129)), (7, (0, l7_x129)), (8, (0, l8_x129))]) rfl ?_
            refine r_lald hX hP rfl al_96 sf20s (by first | decide | omega) (by first | decide | omega) (fun x21 x21e x21a x21b => ?_)
            refine r_lastK hX hP rfl al_95 gf19s (by first | decide | omega) (by first | decide | omega) (by first | decide | omega) (by first | decide | omega) (fun h22 => ?_)
            refine r_ex hX hP 2 (pc' := 158) (st' := []) (lo' := [(0, (2, this)), (1, (1, amount)), (3, (0, head)), (4, (0, row)), (5, (0, l5_h10)), (6, (0, l6_x129)), (7, (0, l7_x129)), (8, (0, 1))]) rfl ?_
            have loop158 : ∀ (nF : Nat) (l8_h158 : Int) (Gh158 : Gh), 1 ≤ l8_h158 → l8_h158 ≤ 21 → 21 - l8_h158 < (nF : Int) → X 0 0 158 [] [(0, (2, this)), (1, (1, amount)), (3, (0, head)), (4, (0, row)), (5, (0, l5_h10)), (6, (0, l6_x129)), (7, (0, l7_x129)), (8, (0, l8_h158))] S (hw [(95, -1)] (up (hw [(96, -1)] (hw [(96, -1), (97, -1)] (up (up (hw [(95, -1), (96, -1), (97, -1)] (up G 95 of1 head amount) Gh10) 97 wf8 0 l5_h10) 96 wf10 0 x13) Gx129) G18) 95 gf19 l5_h10 x21) Gh158) := by
              intro nF
              induction nF with
              | zero => intro l8_h158 Gh158 yh158_0 yh158_1 ym158; exfalso; omega
              | succ nF ih158 =>
                intro l8_h158 Gh158 yh158_0 yh158_1 ym158
                refine r_ex hX hP 2 (pc' := 162) (st' := [(0, l6_x129), (0, l8_h158)]) (lo' := [(0, (2, this)), (1, (1, amount)), (3, (0, head)), (4, (0, row)), (5, (0, l5_h10)), (6, (0, l6_x129)), (7, (0, l7_x129)), (8, (0, l8_h158))]) rfl ?_
                refine r_ic_ge hX hP rfl (tgt := 190) rfl (by first | decide | omega) (by first | decide | omega) (by first | decide | omega) (by first | decide | omega) (fun c23 => ?_) (fun c23 => ?_)
                · skip
                  refine r_ex hX hP 2 (pc' := 10) (st' := []) (lo' := [(0, (2, this)), (1, (1, amount)), (3, (0, head)), (4, (0, row)), (5, (0, (l5_h10 + 1))), (6, (0, l6_x129)), (7, (0, l7_x129)), (8, (0, l8_h158))]) rfl ?_
                  refine r_pick hX [0, 1, 2, 3, 4] (lo' := [(0, (2, this)), (1, (1, amount)), (3, (0, head)), (4, (0, row)), (5, (0, (l5_h10 + 1)))]) rfl ?_
                  refine r_eqG (X := X) (hw_sub (hw_up (hw_sub (hw_sub (hw_up (hw_up (hw_base _ _ _) rfl) rfl) rfl) rfl) rfl) rfl) ?_
                  exact ih10 (l5_h10 + 1) _ (by first | decide | omega) (by first | decide | omega) (by first | decide | omega)
                · skip
                  refine r_ex hX hP 1 (pc' := 166) (st' := [(2, this)]) (lo' := [(0, (2, this)), (1, (1, amount)), (3, (0, head)), (4, (0, row)), (5, (0, l5_h10)), (6, (0, l6_x129)), (7, (0, l7_x129)), (8, (0, l8_h158))]) rfl ?_
                  refine r_getKR hX hP rfl fl_X0_47_130 hS (x := of1) of1e ?_
                  refine r_ex hX hP 1 (pc' := 170) (st' := [(2, this), (2, of1)]) (lo' := [(0, (2, this)), (1, (1, amount)), (3, (0, head)), (4, (0, row)), (5, (0, l5_h10)), (6, (0, l6_x129)), (7, (0, l7_x129)), (8, (0, l8_h158))]) rfl ?_
                  refine r_getKR hX hP rfl fl_X0_54_130 hS (x := wf8) wf8e ?_
                  refine r_ex hX hP 1 (pc' := 175) (st' := [(0, l8_h158), (2, wf8), (2, of1)]) (lo' := [(0, (2, this)), (1, (1, amount)), (3, (0, head)), (4, (0, row)), (5, (0, l5_h10)), (6, (0, l6_x129)), (7, (0, l7_x129)), (8, (0, l8_h158))]) rfl ?_
                  refine r_iald hX hP rfl al_97 wf8s (by first | decide | omega) (by first | decide | omega) (fun x24 x24e x24a x24b => ?_)
                  refine r_ex hX hP 1 (pc' := 177) (st' := [(2, this), (0, x24), (2, of1)]) (lo' := [(0, (2, this)), (1, (1, amount)), (3, (0, head)), (4, (0, row)), (5, (0, l5_h10)), (6, (0, l6_x129)), (7, (0, l7_x129)), (8, (0, l8_h158))]) rfl ?_
                  refine r_getKR hX hP rfl fl_X0_60_130 hS (x := sf20) sf20e ?_
                  refine r_ex hX hP 1 (pc' := 182) (st' := [(0, l8_h158), (2, sf20), (0, x24), (2, of1)]) (lo' := [(0, (2, this)), (1, (1, amount)), (3, (0, head)), (4, (0, row)), (5, (0, l5_h10)), (6, (0, l6_x129)), (7, (0, l7_x129)), (8, (0, l8_h158))]) rfl ?_
                  refine r_lald hX hP rfl al_96 sf20s (by first | decide | omega) (by first | decide | omega) (fun x25 x25e x25a x25b => ?_)
                  refine r_lastK hX hP rfl al_95 of1s (by first | decide | omega) (by first | decide | omega) (by first | decide | omega) (by first | decide | omega) (fun h26 => ?_)
                  refine r_ex hX hP 2 (pc' := 158) (st' := []) (lo' := [(0, (2, this)), (1, (1, amount)), (3, (0, head)), (4, (0, row)), (5, (0, l5_h10)), (6, (0, l6_x129)), (7, (0, l7_x129)), (8, (0, (l8_h158 + 1)))]) rfl ?_
                  refine r_eqG (X := X) (hw_up (hw_base _ _ _) rfl) ?_
                  exact ih158 (l8_h158 + 1) _ (by first | decide | omega) (by first | decide | omega) (by first | decide | omega)
            refine r_eqG (X := X) (hw_refl [(95, -1)] _) ?_
            exact loop158 ((21 - 1) + 1 : Int).toNat 1 _ (by first | decide | omega) (by first | decide | omega) (by first | decide | omega)
          have loop72 : ∀ (nF : Nat) (l6_h72 l7_h72 l8_h72 : Int) (Gh72 : Gh), 1 ≤ l6_h72 → l6_h72 ≤ 21 → (-1) ≤ l7_h72 → l7_h72 ≤ 19 → 0 ≤ l8_h72 → l8_h72 ≤ 20 → l6_h72 = l8_h72 + 1 → 20 - l8_h72 < (nF : Int) → X 0 0 72 [] [(0, (2, this)), (1, (1, amount)), (3, (0, head)), (4, (0, row)), (5, (0, l5_h10)), (6, (0, l6_h72)), (7, (0, l7_h72)), (8, (0, l8_h72))] S (hw [(96, -1), (97, -1)] (up (up (hw [(95, -1), (96, -1), (97, -1)] (up G 95 of1 head amount) Gh10) 97 wf8 0 l5_h10) 96 wf10 0 x13) Gh72) := by
            intro nF
            induction nF with
            | zero => intro l6_h72 l7_h72 l8_h72 Gh72 yh72_0 yh72_1 yh72_2 yh72_3 yh72_4 yh72_5 yh72_6 ym72; exfalso; omega
            | succ nF ih72 =>
              intro l6_h72 l7_h72 l8_h72 Gh72 yh72_0 yh72_1 yh72_2 yh72_3 yh72_4 yh72_5 yh72_6 ym72
              refine r_ex hX hP 2 (pc' := 76) (st' := [(0, 20), (0, l8_h72)]) (lo' := [(0, (2, this)), (1, (1, amount)), (3, (0, head)), (4, (0, row)), (5, (0, l5_h10)), (6, (0, l6_h72)), (7, (0, l7_h72)), (8, (0, l8_h72))]) rfl ?_
              refine r_ic_ge hX hP rfl (tgt := 129) rfl (by first | decide | omega) (by first | decide | omega) (by first | decide | omega) (by first | decide | omega) (fun c27 => ?_) (fun c27 => ?_)
              · skip
                refine r_eqG (X := X) (hw_sub (hw_refl [(96, -1), (97, -1)] _) rfl) ?_
                exact x129 l6_h72 l7_h72 l8_h72 _ (by first | decide | omega) (by first | decide | omega) (by first | decide | omega) (by first | decide | omega) (by first | decide | omega) (by first | decide | omega)
              · skip
                refine r_ex hX hP 2 (pc' := 82) (st' := [(0, (-1)), (0, l7_h72)]) (lo' := [(0, (2, this)), (1, (1, amount)), (3, (0, head)), (4, (0, row)), (5, (0, l5_h10)), (6, (0, l6_h72)), (7, (0, l7_h72)), (8, (0, l8_h72))]) rfl ?_
                refine r_ic_eq hX hP rfl (tgt := 129) rfl (by first | decide | omega) (by first | decide | omega) (by first | decide | omega) (by first | decide | omega) (fun c28 => ?_) (fun c28 => ?_)
                · skip
                  refine r_eqG (X := X) (hw_sub (hw_refl [(96, -1), (97, -1)] _) rfl) ?_
                  exact x129 l6_h72 l7_h72 l8_h72 _ (by first | decide | omega) (by first | decide | omega) (by first | decide | omega) (by first | decide | omega) (by first | decide | omega) (by first | decide | omega)
                · skip
                  refine r_ex hX hP 1 (pc' := 86) (st' := [(2, this)]) (lo' := [(0, (2, this)), (1, (1, amount)), (3, (0, head)), (4, (0, row)), (5, (0, l5_h10)), (6, (0, l6_h72)), (7, (0, l7_h72)), (8, (0, l8_h72))]) rfl ?_
                  refine r_getKR hX hP rfl fl_X0_54_130 hS (x := wf8) wf8e ?_
                  refine r_ex hX hP 2 (pc' := 93) (st' := [(0, l7_h72), (0, l6_h72), (2, wf8)]) (lo' := [(0, (2, this)), (1, (1, amount)), (3, (0, head)), (4, (0, row)), (5, (0, l5_h10)), (6, (0, l6_h72)), (7, (0, l7_h72)), (8, (0, l8_h72))]) rfl ?_
                  refine r_iastK hX hP rfl al_97 wf8s (by first | decide | omega) (by first | decide | omega) (by first | decide | omega) (by first | decide | omega) (fun h29 => ?_)
                  refine r_ex hX hP 1 (pc' := 95) (st' := [(2, this)]) (lo' := [(0, (2, this)), (1, (1, amount)), (3, (0, head)), (4, (0, row)), (5, (0, l5_h10)), (6, (0, l6_h72)), (7, (0, l7_h72)), (8, (0, l8_h72))]) rfl ?_
                  refine r_getKR hX hP rfl fl_X0_57_130 hS (x := wf10) wf10e ?_
                  refine r_ex hX hP 2 (pc' := 101) (st' := [(2, this), (0, l6_h72), (2, wf10)]) (lo' := [(0, (2, this)), (1, (1, amount)), (3, (0, head)), (4, (0, row)), (5, (0, l5_h10)), (6, (0, l6_h72)), (7, (0, l7_h72)), (8, (0, l8_h72))]) rfl ?_
                  refine r_getR hX hP rfl fl_X0_44_130 hS (fun af30 af30e af30s => ?_)
                  refine r_ex hX hP 1 (pc' := 106) (st' := [(0, row), (2, af30), (0, l6_h72), (2, wf10)]) (lo' := [(0, (2, this)), (1, (1, amount)), (3, (0, head)), (4, (0, row)), (5, (0, l5_h10)), (6, (0, l6_h72)), (7, (0, l7_h72)), (8, (0, l8_h72))]) rfl ?_
                  refine r_aald hX hP rfl al_98 rfl af30s (by first | decide | omega) (by first | decide | omega) (fun r31 r31e r31s => ?_)
                  refine r_ex hX hP 1 (pc' := 109) (st' := [(0, l7_h72), (2, r31), (0, l6_h72), (2, wf10)]) (lo' := [(0, (2, this)), (1, (1, amount)), (3, (0, head)), (4, (0, row)), (5, (0, l5_h10)), (6, (0, l6_h72)), (7, (0, l7_h72)), (8, (0, l8_h72))]) rfl ?_
                  refine r_lald hX hP rfl al_95 r31s (by first | decide | omega) (by first | decide | omega) (fun x32 x32e x32a x32b => ?_)
                  refine r_lastK hX hP rfl al_96 wf10s (by first | decide | omega) (by first | decide | omega) (by first | decide | omega) (by first | decide | omega) (fun h33 => ?_)
                  refine r_ex hX hP 2 (pc' := 115) (st' := [(2, this)]) (lo' := [(0, (2, this)), (1, (1, amount)), (3, (0, head)), (4, (0, row)), (5, (0, l5_h10)), (6, (0, (l6_h72 + 1))), (7, (0, l7_h72)), (8, (0, l8_h72))]) rfl ?_
                  refine r_getR hX hP rfl fl_X0_36_130 hS (fun nf34 nf34e nf34s => ?_)
                  refine r_ex hX hP 1 (pc' := 120) (st' := [(0, l7_h72), (2, nf34)]) (lo' := [(0, (2, this)), (1, (1, amount)), (3, (0, head)), (4, (0, row)), (5, (0, l5_h10)), (6, (0, (l6_h72 + 1))), (7, (0, l7_h72)), (8, (0, l8_h72))]) rfl ?_
                  refine r_iald hX hP rfl al_93 nf34s (by first | decide | omega) (by first | decide | omega) (fun x35 x35e x35a x35b => ?_)
                  refine r_ex hX hP 3 (pc' := 72) (st' := []) (lo' := [(0, (2, this)), (1, (1, amount)), (3, (0, head)), (4, (0, row)), (5, (0, l5_h10)), (6, (0, (l6_h72 + 1))), (7, (0, x35)), (8, (0, (l8_h72 + 1)))]) rfl ?_
                  refine r_eqG (X := X) (hw_up (hw_up (hw_base _ _ _) rfl) rfl) ?_
                  exact ih72 (l6_h72 + 1) x35 (l8_h72 + 1) _ (by first | decide | omega) (by first | decide | omega) (by first | decide | omega) (by first | decide | omega) (by first | decide | omega) (by first | decide | omega) (by first | decide | omega) (by first | decide | omega)
          refine r_eqG (X := X) (hw_refl [(96, -1), (97, -1)] _) ?_
          exact loop72 ((20 - 0) + 1 : Int).toNat 1 x16 0 _ (by first | decide | omega) (by first | decide | omega) (by first | decide | omega) (by first | decide | omega) (by first | decide | omega) (by first | decide | omega) (by first | decide | omega) (by first | decide | omega)
        · skip
          refine r_ex hX hP 3 (pc' := 10) (st' := []) (lo' := [(0, (2, this)), (1, (1, amount)), (3, (0, head)), (4, (0, row)), (5, (0, (l5_h10 + 1)))]) rfl ?_
          refine r_eqG (X := X) (hw_base _ _ _) ?_
          exact ih10 (l5_h10 + 1) _ (by first | decide | omega) (by first | decide | omega) (by first | decide | omega)
  refine r_eqG (X := X) (hw_refl [(95, -1), (96, -1), (97, -1)] _) ?_
  exact loop10 ((20 - head) + 1 : Int).toNat head _ (by first | decide | omega) (by first | decide | omega) (by first | decide | omega)
set_option maxRecDepth 100000 in
set_option maxHeartbeats 4000000 in
theorem c_X7_add (E : En) (S : Sg) (G : Gh) (this : Int) (fromPaper : Int) (toPaper : Int) (onDay : Int) (by_ : Int) (per : Int) (isSure : Int) (hS : S this = 132) (cnt : Int) (cnt_e : cnt = G 132 this 0) (fromPaper_a : (-2147483648) ≤ fromPaper) (fromPaper_b : fromPaper ≤ 2147483647) (toPaper_a : (-2147483648) ≤ toPaper) (toPaper_b : toPaper ≤ 2147483647) (onDay_a : (-2147483648) ≤ onDay) (onDay_b : onDay ≤ 2147483647) (by__a : (-2147483648) ≤ by_) (by__b : by_ ≤ 2147483647) (per_a : (-2147483648) ≤ per) (per_b : per ≤ 2147483647) (isSure_a : 0 ≤ isSure) (isSure_b : isSure ≤ 1) (pre0 : cnt ≤ 11) : Calls E mX7_add [(2, this), (0, fromPaper), (0, toPaper), (0, onDay), (0, by_), (0, per), (0, isSure)] S G 0 0 0 (fun r S' G' => S = S' ∧ (∃ G1, hw [(108, -1), (109, -1), (110, -1), (132, 0)] G G1 = G') ∧ ∃ z : Int, r = some (0, z) ∧ 0 ≤ z ∧ z ≤ 11) := by
  refine calls_by [(0, (2, this)), (1, (0, fromPaper)), (2, (0, toPaper)), (3, (0, onDay)), (4, (0, by_)), (5, (0, per)), (6, (0, isSure))] rfl rfl (Nat.le_of_ble_eq_true rfl) (fun X hX => ?_)
  have hP := hPX7_add
  refine r_peekI hX (tl_132 0 rfl (by decide)) hS (fun cnt_o cnt_oe cnt_oa cnt_ob => ?_)
  obtain rfl : cnt = cnt_o := cnt_e.trans cnt_oe.symm
  refine r_ex hX hP 1 (pc' := 1) (st' := [(2, this)]) (lo' := [(0, (2, this)), (1, (0, fromPaper)), (2, (0, toPaper)), (3, (0, onDay)), (4, (0, by_)), (5, (0, per)), (6, (0, isSure))]) rfl ?_
  refine r_getKI hX hP rfl fl_X7_47_132 hS (x := cnt) cnt_e ?_
  refine r_ex hX hP 2 (pc' := 7) (st' := [(2, this)]) (lo' := [(0, (2, this)), (1, (0, fromPaper)), (2, (0, toPaper)), (3, (0, onDay)), (4, (0, by_)), (5, (0, per)), (6, (0, isSure)), (7, (0, cnt))]) rfl ?_
  refine r_getR hX hP rfl fl_X7_9_132 hS (fun ff1 ff1e ff1s => ?_)
  refine r_ex hX hP 2 (pc' := 13) (st' := [(0, fromPaper), (0, cnt), (2, ff1)]) (lo' := [(0, (2, this)), (1, (0, fromPaper)), (2, (0, toPaper)), (3, (0, onDay)), (4, (0, by_)), (5, (0, per)), (6, (0, isSure)), (7, (0, cnt))]) rfl ?_
  refine r_iastK hX hP rfl al_108 ff1s (by first | decide | omega) (by first | decide | omega) (by first | decide | omega) (by first | decide | omega) (fun h2 => ?_)
  refine r_ex hX hP 1 (pc' := 15) (st' := [(2, this)]) (lo' := [(0, (2, this)), (1, (0, fromPaper)), (2, (0, toPaper)), (3, (0, onDay)), (4, (0, by_)), (5, (0, per)), (6, (0, isSure)), (7, (0, cnt))]) rfl ?_
  refine r_getR hX hP rfl fl_X7_15_132 hS (fun tf3 tf3e tf3s => ?_)
  refine r_ex hX hP 2 (pc' := 21) (st' := [(0, toPaper), (0, cnt), (2, tf3)]) (lo' := [(0, (2, this)), (1, (0, fromPaper)), (2, (0, toPaper)), (3, (0, onDay)), (4, (0, by_)), (5, (0, per)), (6, (0, isSure)), (7, (0, cnt))]) rfl ?_
  refine r_iastK hX hP rfl al_108 tf3s (by first | decide | omega) (by first | decide | omega) (by first | decide | omega) (by first | decide | omega) (fun h4 => ?_)
  refine r_ex hX hP 1 (pc' := 23) (st' := [(2, this)]) (lo' := [(0, (2, this)), (1, (0, fromPaper)), (2, (0, toPaper)), (3, (0, onDay)), (4, (0, by_)), (5, (0, per)), (6, (0, isSure)), (7, (0, cnt))]) rfl ?_
  refine r_getR hX hP rfl fl_X7_18_132 hS (fun df5 df5e df5s => ?_)
  refine r_ex hX hP 2 (pc' := 29) (st' := [(0, onDay), (0, cnt), (2, df5)]) (lo' := [(0, (2, this)), (1, (0, fromPaper)), (2, (0, toPaper)), (3, (0, onDay)), (4, (0, by_)), (5, (0, per)), (6, (0, isSure)), (7, (0, cnt))]) rfl ?_
  refine r_iastK hX hP rfl al_108 df5s (by first | decide | omega) (by first | decide | omega) (by first | decide | omega) (by first | decide | omega) (fun h6 => ?_)
  refine r_ex hX hP 1 (pc' := 31) (st' := [(2, this)]) (lo' := [(0, (2, this)), (1, (0, fromPaper)), (2, (0, toPaper)), (3, (0, onDay)), (4, (0, by_)), (5, (0, per)), (6, (0, isSure)), (7, (0, cnt))]) rfl ?_
  refine r_getR hX hP rfl fl_X7_21_132 hS (fun mf7 mf7e mf7s => ?_)
  refine r_ex hX hP 2 (pc' := 38) (st' := [(0, by_), (0, cnt), (2, mf7)]) (lo' := [(0, (2, this)), (1, (0, fromPaper)), (2, (0, toPaper)), (3, (0, onDay)), (4, (0, by_)), (5, (0, per)), (6, (0, isSure)), (7, (0, cnt))]) rfl ?_
  refine r_iastK hX hP rfl al_108 mf7s (by first | decide | omega) (by first | decide | omega) (by first | decide | omega) (by first | decide | omega) (fun h8 => ?_)
  refine r_ex hX hP 1 (pc' := 40) (st' := [(2, this)]) (lo' := [(0, (2, this)), (1, (0, fromPaper)), (2, (0, toPaper)), (3, (0, onDay)), (4, (0, by_)), (5, (0, per)), (6, (0, isSure)), (7, (0, cnt))]) rfl ?_
  refine r_getR hX hP rfl fl_X7_24_132 hS (fun nf9 nf9e nf9s => ?_)
  refine r_ex hX hP 2 (pc' := 47) (st' := [(0, per), (0, cnt), (2, nf9)]) (lo' := [(0, (2, this)), (1, (0, fromPaper)), (2, (0, toPaper)), (3, (0, onDay)), (4, (0, by_)), (5, (0, per)), (6, (0, isSure)), (7, (0, cnt))]) rfl ?_
  refine r_iastK hX hP rfl al_108 nf9s (by first | decide | omega) (by first | decide | omega) (by first | decide | omega) (by first | decide | omega) (fun h10 => ?_)
  refine r_ex hX hP 1 (pc' := 49) (st' := [(2, this)]) (lo' := [(0, (2, this)), (1, (0, fromPaper)), (2, (0, toPaper)), (3, (0, onDay)), (4, (0, by_)), (5, (0, per)), (6, (0, isSure)), (7, (0, cnt))]) rfl ?_
  refine r_getR hX hP rfl fl_X7_27_132 hS (fun sf11 sf11e sf11s => ?_)
  refine r_ex hX hP 2 (pc' := 56) (st' := [(0, isSure), (0, cnt), (2, sf11)]) (lo' := [(0, (2, this)), (1, (0, fromPaper)), (2, (0, toPaper)), (3, (0, onDay)), (4, (0, by_)), (5, (0, per)), (6, (0, isSure)), (7, (0, cnt))]) rfl ?_
  refine r_zastK hX hP rfl al_110 sf11s (by first | decide | omega) (by first | decide | omega) (by first | decide | omega) (by first | decide | omega) (by first | decide | omega) (by first | decide | omega) (fun h12 => ?_)
  refine r_ex hX hP 1 (pc' := 58) (st' := [(2, this)]) (lo' := [(0, (2, this)), (1, (0, fromPaper)), (2, (0, toPaper)), (3, (0, onDay)), (4, (0, by_)), (5, (0, per)), (6, (0, isSure)), (7, (0, cnt))]) rfl ?_
  refine r_getKI hX hP rfl fl_X7_47_132 hS (x := cnt) cnt_e ?_
  refine r_ex hX hP 1 (pc' := 63) (st' := []) (lo' := [(0, (2, this)), (1, (0, fromPaper)), (2, (0, toPaper)), (3, (0, onDay)), (4, (0, by_)), (5, (0, per)), (6, (0, isSure)), (7, (0, cnt)), (8, (0, cnt))]) rfl ?_
  have x108 : ∀ (l8_x108 : Int) (Gx108 : Gh), 0 ≤ l8_x108 → l8_x108 ≤ 11 → X 0 0 108 [] [(0, (2, this)), (1, (0, fromPaper)), (2, (0, toPaper)), (3, (0, onDay)), (4, (0, by_)), (5, (0, per)), (6, (0, isSure)), (7, (0, cnt)), (8, (0, l8_x108))] S (hw [(109, -1)] (up (up (up (up (up (up G 108 ff1 cnt fromPaper) 108 tf3 cnt toPaper) 108 df5 cnt onDay) 108 mf7 cnt by_) 108 nf9 cnt per) 110 sf11 cnt isSure) Gx108) := by
    intro l8_x108 Gx108 yx108_0 yx108_1
    refine r_ex hX hP 1 (pc' := 109) (st' := [(2, this)]) (lo' := [(0, (2, this)), (1, (0, fromPaper)), (2, (0, toPaper)), (3, (0, onDay)), (4, (0, by_)), (5, (0, per)), (6, (0, isSure)), (7, (0, cnt)), (8, (0, l8_x108))]) rfl ?_
    refine r_getR hX hP rfl fl_X7_31_132 hS (fun of13 of13e of13s => ?_)
    refine r_ex hX hP 2 (pc' := 116) (st' := [(0, cnt), (0, l8_x108), (2, of13)]) (lo' := [(0, (2, this)), (1, (0, fromPaper)), (2, (0, toPaper)), (3, (0, onDay)), (4, (0, by_)), (5, (0, per)), (6, (0, isSure)), (7, (0, cnt)), (8, (0, l8_x108))]) rfl ?_
    refine r_iastK hX hP rfl al_109 of13s (by first | decide | omega) (by first | decide | omega) (by first | decide | omega) (by first | decide | omega) (fun h14 => ?_)
    refine r_ex hX hP 2 (pc' := 119) (st' := [(2, this), (2, this)]) (lo' := [(0, (2, this)), (1, (0, fromPaper)), (2, (0, toPaper)), (3, (0, onDay)), (4, (0, by_)), (5, (0, per)), (6, (0, isSure)), (7, (0, cnt)), (8, (0, l8_x108))]) rfl ?_
    refine r_getKI hX hP rfl fl_X7_47_132 hS (x := cnt) cnt_e ?_
    refine r_ex hX hP 2 (pc' := 124) (st' := [(0, (cnt + 1)), (2, this)]) (lo' := [(0, (2, this)), (1, (0, fromPaper)), (2, (0, toPaper)), (3, (0, onDay)), (4, (0, by_)), (5, (0, per)), (6, (0, isSure)), (7, (0, cnt)), (8, (0, l8_x108))]) rfl ?_
    refine r_putIK hX hP rfl fp_X7_47_132 hS (by first | decide | omega) (by first | decide | omega) (fun h15 => ?_)
    refine r_ex hX hP 1 (pc' := 129) (st' := [(0, cnt)]) (lo' := [(0, (2, this)), (1, (0, fromPaper)), (2, (0, toPaper)), (3, (0, onDay)), (4, (0, by_)), (5, (0, per)), (6, (0, isSure)), (7, (0, cnt)), (8, (0, l8_x108))]) rfl ?_
    exact r_retI hX hP rfl rfl (by first | decide | omega) (by first | decide | omega) ⟨rfl, ⟨_, (hw_up (hw_up (hw_sub (hw_up (hw_up (hw_up (hw_up (hw_up (hw_up (hw_refl _ _) rfl) rfl) rfl) rfl) rfl) rfl) rfl) rfl) rfl).symm⟩, cnt, rfl, (by first | decide | omega)⟩
  have loop63 : ∀ (nF : Nat) (l8_h63 : Int) (Gh63 : Gh), 0 ≤ l8_h63 → l8_h63 ≤ 11 → l8_h63 - 0 < (nF : Int) → X 0 0 63 [] [(0, (2, this)), (1, (0, fromPaper)), (2, (0, toPaper)), (3, (0, onDay)), (4, (0, by_)), (5, (0, per)), (6, (0, isSure)), (7, (0, cnt)), (8, (0, l8_h63))] S (hw [(109, -1)] (up (up (up (up (up (up G 108 ff1 cnt fromPaper) 108 tf3 cnt toPaper) 108 df5 cnt onDay) 108 mf7 cnt by_) 108 nf9 cnt per) 110 sf11 cnt isSure) Gh63) := by
    intro nF
    induction nF with
    | zero => intro l8_h63 Gh63 yh63_0 yh63_1 ym63; exfalso; omega
    | succ nF ih63 =>
      intro l8_h63 Gh63 yh63_0 yh63_1 ym63
      refine r_ex hX hP 1 (pc' := 65) (st' := [(0, l8_h63)]) (lo' := [(0, (2, this)), (1, (0, fromPaper)), (2, (0, toPaper)), (3, (0, onDay)), (4, (0, by_)), (5, (0, per)), (6, (0, isSure)), (7, (0, cnt)), (8, (0, l8_h63))]) rfl ?_
      refine r_if_le hX hP rfl (tgt := 108) rfl (by first | decide | omega) (by first | decide | omega) (fun c16 => ?_) (fun c16 => ?_)
      · skip
        refine r_eqG (X := X) (hw_sub (hw_refl [(109, -1)] _) rfl) ?_
        exact x108 l8_h63 _ (by first | decide | omega) (by first | decide | omega)
      · skip
        refine r_ex hX hP 1 (pc' := 69) (st' := [(2, this)]) (lo' := [(0, (2, this)), (1, (0, fromPaper)), (2, (0, toPaper)), (3, (0, onDay)), (4, (0, by_)), (5, (0, per)), (6, (0, isSure)), (7, (0, cnt)), (8, (0, l8_h63))]) rfl ?_
        refine r_getKR hX hP rfl fl_X7_18_132 hS (x := df5) df5e ?_
        refine r_ex hX hP 1 (pc' := 73) (st' := [(2, this), (2, df5)]) (lo' := [(0, (2, this)), (1, (0, fromPaper)), (2, (0, toPaper)), (3, (0, onDay)), (4, (0, by_)), (5, (0, per)), (6, (0, isSure)), (7, (0, cnt)), (8, (0, l8_h63))]) rfl ?_
        refine r_getR hX hP rfl fl_X7_31_132 hS (fun of17 of17e of17s => ?_)
        refine r_ex hX hP 3 (pc' := 80) (st' := [(0, (l8_h63 - 1)), (2, of17), (2, df5)]) (lo' := [(0, (2, this)), (1, (0, fromPaper)), (2, (0, toPaper)), (3, (0, onDay)), (4, (0, by_)), (5, (0, per)), (6, (0, isSure)), (7, (0, cnt)), (8, (0, l8_h63))]) rfl ?_
        refine r_iald hX hP rfl al_109 of17s (by first | decide | omega) (by first | decide | omega) (fun x18 x18e x18a x18b => ?_)
        refine r_iald hX hP rfl al_108 df5s (by first | decide | omega) (by first | decide | omega) (fun x19 x19e x19a x19b => ?_)
        refine r_ex hX hP 1 (pc' := 83) (st' := [(0, onDay), (0, x19)]) (lo' := [(0, (2, this)), (1, (0, fromPaper)), (2, (0, toPaper)), (3, (0, onDay)), (4, (0, by_)), (5, (0, per)), (6, (0, isSure)), (7, (0, cnt)), (8, (0, l8_h63))]) rfl ?_
        refine r_ic_le hX hP rfl (tgt := 108) rfl (by first | decide | omega) (by first | decide | omega) (by first | decide | omega) (by first | decide | omega) (fun c20 => ?_) (fun c20 => ?_)
        · skip
          refine r_eqG (X := X) (hw_sub (hw_refl [(109, -1)] _) rfl) ?_
          exact x108 l8_h63 _ (by first | decide | omega) (by first | decide | omega)
        · skip
          refine r_ex hX hP 1 (pc' := 87) (st' := [(2, this)]) (lo' := [(0, (2, this)), (1, (0, fromPaper)), (2, (0, toPaper)), (3, (0, onDay)), (4, (0, by_)), (5, (0, per)), (6, (0, isSure)), (7, (0, cnt)), (8, (0, l8_h63))]) rfl ?_
          refine r_getKR hX hP rfl fl_X7_31_132 hS (x := of17) of17e ?_
          refine r_ex hX hP 2 (pc' := 93) (st' := [(2, this), (0, l8_h63), (2, of17)]) (lo' := [(0, (2, this)), (1, (0, fromPaper)), (2, (0, toPaper)), (3, (0, onDay)), (4, (0, by_)), (5, (0, per)), (6, (0, isSure)), (7, (0, cnt)), (8, (0, l8_h63))]) rfl ?_
          refine r_getKR hX hP rfl fl_X7_31_132 hS (x := of17) of17e ?_
          refine r_ex hX hP 3 (pc' := 100) (st' := [(0, (l8_h63 - 1)), (2, of17), (0, l8_h63), (2, of17)]) (lo' := [(0, (2, this)), (1, (0, fromPaper)), (2, (0, toPaper)), (3, (0, onDay)), (4, (0, by_)), (5, (0, per)), (6, (0, isSure)), (7, (0, cnt)), (8, (0, l8_h63))]) rfl ?_
          refine r_ialdK hX hP rfl al_109 of17s (by first | decide | omega) (by first | decide | omega) (x := x18) x18e ?_
          refine r_iastK hX hP rfl al_109 of17s (by first | decide | omega) (by first | decide | omega) (by first | decide | omega) (by first | decide | omega) (fun h21 => ?_)
          refine r_ex hX hP 2 (pc' := 63) (st' := []) (lo' := [(0, (2, this)), (1, (0, fromPaper)), (2, (0, toPaper)), (3, (0, onDay)), (4, (0, by_)), (5, (0, per)), (6, (0, isSure)), (7, (0, cnt)), (8, (0, (l8_h63 + (-1))))]) rfl ?_
          refine r_eqG (X := X) (hw_up (hw_base _ _ _) rfl) ?_
          exact ih63 (l8_h63 + (-1)) _ (by first | decide | omega) (by first | decide | omega) (by first | decide | omega)
  refine r_eqG (X := X) (hw_refl [(109, -1)] _) ?_
  exact loop63 ((cnt - 0) + 1 : Int).toNat cnt _ (by first | decide | omega) (by first | decide | omega) (by first | decide | omega)
set_option maxRecDepth 100000 in
set_option maxHeartbeats 4000000 in
theorem c_X7_leave (E : En) (S : Sg) (G : Gh) (this : Int) (at_ : Int) (paper : Int) (shares : Int) (set_ : Int) (hS : S this = 132) (at__a : 0 ≤ at_) (at__b : at_ ≤ 12) (paper_a : (-2147483648) ≤ paper) (paper_b : paper ≤ 2147483647) (shares_a : (-9223372036854775808) ≤ shares) (shares_b : shares ≤ 9223372036854775807) (set__a : (-2147483648) ≤ set_) (set__b : set_ ≤ 2147483647) : Calls E mX7_leave [(2, this), (0, at_), (0, paper), (1, shares), (0, set_)] S G 0 0 0 (fun r S' G' => S = S' ∧ (∃ G1, hw [(111, -1), (112, -1), (113, -1), (132, 12)] G G1 = G') ∧ r = none ∧ True) := by
  refine calls_by [(0, (2, this)), (1, (0, at_)), (2, (0, paper)), (3, (1, shares)), (5, (0, set_))] rfl rfl (Nat.le_of_ble_eq_true rfl) (fun X hX => ?_)
  have hP := hPX7_leave
  refine r_ex hX hP 1 (pc' := 1) (st' := [(2, this)]) (lo' := [(0, (2, this)), (1, (0, at_)), (2, (0, paper)), (3, (1, shares)), (5, (0, set_))]) rfl ?_
  refine r_getI hX hP rfl fl_X7_57_132 hS (fun of1 of1e of1a of1b => ?_)
  refine r_ex hX hP 1 (pc' := 5) (st' := [(2, this), (0, of1)]) (lo' := [(0, (2, this)), (1, (0, at_)), (2, (0, paper)), (3, (1, shares)), (5, (0, set_))]) rfl ?_
  refine r_getR hX hP rfl fl_X7_34_132 hS (fun sf2 sf2e sf2s => ?_)
  refine r_alen hX hP rfl al_111 sf2s ?_
  refine r_ic_ge hX hP rfl (tgt := 63) rfl (by first | decide | omega) (by first | decide | omega) (by first | decide | omega) (by first | decide | omega) (fun c3 => ?_) (fun c3 => ?_)
  · skip
    exact r_retV hX hP rfl rfl (by first | decide | omega) (by first | decide | omega) ⟨rfl, ⟨_, (hw_refl _ _).symm⟩, rfl, trivial⟩
  · skip
    refine r_ex hX hP 1 (pc' := 13) (st' := [(2, this)]) (lo' := [(0, (2, this)), (1, (0, at_)), (2, (0, paper)), (3, (1, shares)), (5, (0, set_))]) rfl ?_
    refine r_getKR hX hP rfl fl_X7_34_132 hS (x := sf2) sf2e ?_
    refine r_ex hX hP 1 (pc' := 17) (st' := [(2, this), (2, sf2)]) (lo' := [(0, (2, this)), (1, (0, at_)), (2, (0, paper)), (3, (1, shares)), (5, (0, set_))]) rfl ?_
    refine r_getKI hX hP rfl fl_X7_57_132 hS (x := of1) of1e ?_
    refine r_ex hX hP 1 (pc' := 21) (st' := [(0, at_), (0, of1), (2, sf2)]) (lo' := [(0, (2, this)), (1, (0, at_)), (2, (0, paper)), (3, (1, shares)), (5, (0, set_))]) rfl ?_
    refine r_iastK hX hP rfl al_111 sf2s (by first | decide | omega) (by first | decide | omega) (by first | decide | omega) (by first | decide | omega) (fun h4 => ?_)
    refine r_ex hX hP 1 (pc' := 23) (st' := [(2, this)]) (lo' := [(0, (2, this)), (1, (0, at_)), (2, (0, paper)), (3, (1, shares)), (5, (0, set_))]) rfl ?_
    refine r_getR hX hP rfl fl_X7_37_132 hS (fun pf5 pf5e pf5s => ?_)
    refine r_ex hX hP 1 (pc' := 27) (st' := [(2, this), (2, pf5)]) (lo' := [(0, (2, this)), (1, (0, at_)), (2, (0, paper)), (3, (1, shares)), (5, (0, set_))]) rfl ?_
    refine r_getKI hX hP rfl fl_X7_57_132 hS (x := of1) of1e ?_
    refine r_ex hX hP 1 (pc' := 31) (st' := [(0, paper), (0, of1), (2, pf5)]) (lo' := [(0, (2, this)), (1, (0, at_)), (2, (0, paper)), (3, (1, shares)), (5, (0, set_))]) rfl ?_
    refine r_iastK hX hP rfl al_112 pf5s (by first | decide | omega) (by first | decide | omega) (by first | decide | omega) (by first | decide | omega) (fun h6 => ?_)
    refine r_ex hX hP 1 (pc' := 33) (st' := [(2, this)]) (lo' := [(0, (2, this)), (1, (0, at_)), (2, (0, paper)), (3, (1, shares)), (5, (0, set_))]) rfl ?_
    refine r_getR hX hP rfl fl_X7_40_132 hS (fun sf7 sf7e sf7s => ?_)
    refine r_ex hX hP 1 (pc' := 37) (st' := [(2, this), (2, sf7)]) (lo' := [(0, (2, this)), (1, (0, at_)), (2, (0, paper)), (3, (1, shares)), (5, (0, set_))]) rfl ?_
    refine r_getKI hX hP rfl fl_X7_57_132 hS (x := of1) of1e ?_
    refine r_ex hX hP 1 (pc' := 41) (st' := [(1, shares), (0, of1), (2, sf7)]) (lo' := [(0, (2, this)), (1, (0, at_)), (2, (0, paper)), (3, (1, shares)), (5, (0, set_))]) rfl ?_
    refine r_lastK hX hP rfl al_113 sf7s (by first | decide | omega) (by first | decide | omega) (by first | decide | omega) (by first | decide | omega) (fun h8 => ?_)
    refine r_ex hX hP 1 (pc' := 43) (st' := [(2, this)]) (lo' := [(0, (2, this)), (1, (0, at_)), (2, (0, paper)), (3, (1, shares)), (5, (0, set_))]) rfl ?_
    refine r_getR hX hP rfl fl_X7_44_132 hS (fun sf9 sf9e sf9s => ?_)
    refine r_ex hX hP 1 (pc' := 47) (st' := [(2, this), (2, sf9)]) (lo' := [(0, (2, this)), (1, (0, at_)), (2, (0, paper)), (3, (1, shares)), (5, (0, set_))]) rfl ?_
    refine r_getKI hX hP rfl fl_X7_57_132 hS (x := of1) of1e ?_
    refine r_ex hX hP 1 (pc' := 52) (st' := [(0, set_), (0, of1), (2, sf9)]) (lo' := [(0, (2, this)), (1, (0, at_)), (2, (0, paper)), (3, (1, shares)), (5, (0, set_))]) rfl ?_
    refine r_iastK hX hP rfl al_112 sf9s (by first | decide | omega) (by first | decide | omega) (by first | decide | omega) (by first | decide | omega) (fun h10 => ?_)
    refine r_ex hX hP 2 (pc' := 55) (st' := [(2, this), (2, this)]) (lo' := [(0, (2, this)), (1, (0, at_)), (2, (0, paper)), (3, (1, shares)), (5, (0, set_))]) rfl ?_
    refine r_getKI hX hP rfl fl_X7_57_132 hS (x := of1) of1e ?_
    refine r_ex hX hP 2 (pc' := 60) (st' := [(0, (of1 + 1)), (2, this)]) (lo' := [(0, (2, this)), (1, (0, at_)), (2, (0, paper)), (3, (1, shares)), (5, (0, set_))]) rfl ?_
    refine r_putIK hX hP rfl fp_X7_57_132 hS (by first | decide | omega) (by first | decide | omega) (fun h11 => ?_)
    exact r_retV hX hP rfl rfl (by first | decide | omega) (by first | decide | omega) ⟨rfl, ⟨_, (hw_up (hw_up (hw_up (hw_up (hw_up (hw_refl _ _) rfl) rfl) rfl) rfl) rfl).symm⟩, rfl, trivial⟩
set_option maxRecDepth 100000 in
set_option maxHeartbeats 4000000 in
theorem c_X7_walk (E : En) (S : Sg) (G : Gh) (this : Int) (since : Int) (now : Int) (has : Int) (later : Int) (hS : S this = 132) (opn : Int) (opn_e : opn = G 132 this 12) (since_a : (-2147483648) ≤ since) (since_b : since ≤ 2147483647) (now_a : (-2147483648) ≤ now) (now_b : now ≤ 2147483647) (has_a : (-2147483648) ≤ has) (has_b : has ≤ 2147483647) (later_a : (-2147483648) ≤ later) (later_b : later ≤ 2147483647) (pre0 : opn ≤ 12) : Calls E mX7_walk [(2, this), (0, since), (0, now), (0, has), (0, later)] S G 1 0 0 (fun r S' G' => S = S' ∧ (∃ G1, hw [(111, -1), (112, -1), (113, -1), (132, 12)] G G1 = G') ∧ ∃ z : Int, r = some (0, z) ∧ (-2147483648) ≤ z ∧ z ≤ 2147483647) := by
  refine calls_by [(0, (2, this)), (1, (0, since)), (2, (0, now)), (3, (0, has)), (4, (0, later))] rfl rfl (Nat.le_of_ble_eq_true rfl) (fun X hX => ?_)
  have hP := hPX7_walk
  refine r_peekI hX (tl_132 12 rfl (by decide)) hS (fun opn_o opn_oe opn_oa opn_ob => ?_)
  obtain rfl : opn = opn_o := opn_e.trans opn_oe.symm
  refine r_ex hX hP 1 (pc' := 1) (st' := [(2, this)]) (lo' := [(0, (2, this)), (1, (0, since)), (2, (0, now)), (3, (0, has)), (4, (0, later))]) rfl ?_
  refine r_getR hX hP rfl fl_X7_34_132 hS (fun sf1 sf1e sf1s => ?_)
  refine r_ex hX hP 1 (pc' := 5) (st' := [(2, this), (2, sf1)]) (lo' := [(0, (2, this)), (1, (0, since)), (2, (0, now)), (3, (0, has)), (4, (0, later))]) rfl ?_
  refine r_getKI hX hP rfl fl_X7_57_132 hS (x := opn) opn_e ?_
  refine r_iald hX hP rfl al_111 sf1s (by first | decide | omega) (by first | decide | omega) (fun x2 x2e x2a x2b => ?_)
  refine r_ex hX hP 2 (pc' := 12) (st' := [(2, this)]) (lo' := [(0, (2, this)), (1, (0, since)), (2, (0, now)), (3, (0, has)), (4, (0, later)), (5, (0, x2))]) rfl ?_
  refine r_getR hX hP rfl fl_X7_37_132 hS (fun pf3 pf3e pf3s => ?_)
  refine r_ex hX hP 1 (pc' := 16) (st' := [(2, this), (2, pf3)]) (lo' := [(0, (2, this)), (1, (0, since)), (2, (0, now)), (3, (0, has)), (4, (0, later)), (5, (0, x2))]) rfl ?_
  refine r_getKI hX hP rfl fl_X7_57_132 hS (x := opn) opn_e ?_
  refine r_iald hX hP rfl al_112 pf3s (by first | decide | omega) (by first | decide | omega) (fun x4 x4e x4a x4b => ?_)
  refine r_ex hX hP 2 (pc' := 23) (st' := [(2, this)]) (lo' := [(0, (2, this)), (1, (0, since)), (2, (0, now)), (3, (0, has)), (4, (0, later)), (5, (0, x2)), (6, (0, x4))]) rfl ?_
  refine r_getR hX hP rfl fl_X7_40_132 hS (fun sf5 sf5e sf5s => ?_)
  refine r_ex hX hP 1 (pc' := 27) (st' := [(2, this), (2, sf5)]) (lo' := [(0, (2, this)), (1, (0, since)), (2, (0, now)), (3, (0, has)), (4, (0, later)), (5, (0, x2)), (6, (0, x4))]) rfl ?_
  refine r_getKI hX hP rfl fl_X7_57_132 hS (x := opn) opn_e ?_
  refine r_lald hX hP rfl al_113 sf5s (by first | decide | omega) (by first | decide | omega) (fun x6 x6e x6a x6b => ?_)
  refine r_ex hX hP 2 (pc' := 34) (st' := [(2, this)]) (lo' := [(0, (2, this)), (1, (0, since)), (2, (0, now)), (3, (0, has)), (4, (0, later)), (5, (0, x2)), (6, (0, x4)), (7, (1, x6))]) rfl ?_
  refine r_getR hX hP rfl fl_X7_44_132 hS (fun sf7 sf7e sf7s => ?_)
  refine r_ex hX hP 1 (pc' := 38) (st' := [(2, this), (2, sf7)]) (lo' := [(0, (2, this)), (1, (0, since)), (2, (0, now)), (3, (0, has)), (4, (0, later)), (5, (0, x2)), (6, (0, x4)), (7, (1, x6))]) rfl ?_
  refine r_getKI hX hP rfl fl_X7_57_132 hS (x := opn) opn_e ?_
  refine r_iald hX hP rfl al_112 sf7s (by first | decide | omega) (by first | decide | omega) (fun x8 x8e x8a x8b => ?_)
  refine r_ex hX hP 3 (pc' := 48) (st' := []) (lo' := [(0, (2, this)), (1, (0, since)), (2, (0, now)), (3, (0, has)), (4, (0, later)), (5, (0, x2)), (6, (0, x4)), (7, (1, x6)), (9, (0, x8)), (10, (0, x2))]) rfl ?_
  have loop48 : ∀ (nF : Nat) (l6_h48 l7_h48 l9_h48 l10_h48 : Int) (Gh48 : Gh), (-2147483648) ≤ l6_h48 → l6_h48 ≤ 2147483647 → (-9223372036854775808) ≤ l7_h48 → l7_h48 ≤ 9223372036854775807 → (-2147483648) ≤ l9_h48 → l9_h48 ≤ 2147483647 → 0 ≤ l10_h48 → l10_h48 ≤ 12 → 12 - l10_h48 < (nF : Int) → X 0 0 48 [] [(0, (2, this)), (1, (0, since)), (2, (0, now)), (3, (0, has)), (4, (0, later)), (5, (0, x2)), (6, (0, l6_h48)), (7, (1, l7_h48)), (9, (0, l9_h48)), (10, (0, l10_h48))] S (hw [(111, -1), (112, -1), (113, -1), (132, 12)] G Gh48) := by
    intro nF
    induction nF with
    | zero => intro l6_h48 l7_h48 l9_h48 l10_h48 Gh48 yh48_0 yh48_1 yh48_2 yh48_3 yh48_4 yh48_5 yh48_6 yh48_7 ym48; exfalso; omega
    | succ nF ih48 =>
      intro l6_h48 l7_h48 l9_h48 l10_h48 Gh48 yh48_0 yh48_1 yh48_2 yh48_3 yh48_4 yh48_5 yh48_6 yh48_7 ym48
      refine r_ex hX hP 2 (pc' := 51) (st' := [(2, this), (0, l10_h48)]) (lo' := [(0, (2, this)), (1, (0, since)), (2, (0, now)), (3, (0, has)), (4, (0, later)), (5, (0, x2)), (6, (0, l6_h48)), (7, (1, l7_h48)), (9, (0, l9_h48)), (10, (0, l10_h48))]) rfl ?_
      refine r_getI hX hP rfl fl_X7_47_132 hS (fun cf9 cf9e cf9a cf9b => ?_)
      refine r_ic_ge hX hP rfl (tgt := 195) rfl (by first | decide | omega) (by first | decide | omega) (by first | decide | omega) (by first | decide | omega) (fun c10 => ?_) (fun c10 => ?_)
      · skip
        refine r_ex hX hP 2 (pc' := 198) (st' := [(0, now), (0, l6_h48)]) (lo' := [(0, (2, this)), (1, (0, since)), (2, (0, now)), (3, (0, has)), (4, (0, later)), (5, (0, x2)), (6, (0, l6_h48)), (7, (1, l7_h48)), (9, (0, l9_h48)), (10, (0, l10_h48))]) rfl ?_
        refine r_ic_ne hX hP rfl (tgt := 214) rfl (by first | decide | omega) (by first | decide | omega) (by first | decide | omega) (by first | decide | omega) (fun c11 => ?_) (fun c11 => ?_)
        · skip
          refine r_ex hX hP 1 (pc' := 215) (st' := [(0, (-1))]) (lo' := [(0, (2, this)), (1, (0, since)), (2, (0, now)), (3, (0, has)), (4, (0, later)), (5, (0, x2)), (6, (0, l6_h48)), (7, (1, l7_h48)), (9, (0, l9_h48)), (10, (0, l10_h48))]) rfl ?_
          exact r_retI hX hP rfl rfl (by first | decide | omega) (by first | decide | omega) ⟨rfl, ⟨_, (hw_sub (hw_refl _ _) rfl).symm⟩, (-1), rfl, (by first | decide | omega)⟩
        · skip
          refine r_ex hX hP 2 (pc' := 204) (st' := [(0, has), (1, l7_h48)]) (lo' := [(0, (2, this)), (1, (0, since)), (2, (0, now)), (3, (0, has)), (4, (0, later)), (5, (0, x2)), (6, (0, l6_h48)), (7, (1, l7_h48)), (9, (0, l9_h48)), (10, (0, l10_h48))]) rfl ?_
          refine r_i2l hX hP rfl (by first | decide | omega) (by first | decide | omega) ?_
          refine r_lc_ne hX hP rfl rfl (tgt := 214) rfl (by first | decide | omega) (by first | decide | omega) (by first | decide | omega) (by first | decide | omega) (fun c12 => ?_) (fun c12 => ?_)
          · skip
            refine r_ex hX hP 1 (pc' := 215) (st' := [(0, (-1))]) (lo' := [(0, (2, this)), (1, (0, since)), (2, (0, now)), (3, (0, has)), (4, (0, later)), (5, (0, x2)), (6, (0, l6_h48)), (7, (1, l7_h48)), (9, (0, l9_h48)), (10, (0, l10_h48))]) rfl ?_
            exact r_retI hX hP rfl rfl (by first | decide | omega) (by first | decide | omega) ⟨rfl, ⟨_, (hw_sub (hw_refl _ _) rfl).symm⟩, (-1), rfl, (by first | decide | omega)⟩
          · skip
            refine r_ex hX hP 2 (pc' := 215) (st' := [(0, l9_h48)]) (lo' := [(0, (2, this)), (1, (0, since)), (2, (0, now)), (3, (0, has)), (4, (0, later)), (5, (0, x2)), (6, (0, l6_h48)), (7, (1, l7_h48)), (9, (0, l9_h48)), (10, (0, l10_h48))]) rfl ?_
            exact r_retI hX hP rfl rfl (by first | decide | omega) (by first | decide | omega) ⟨rfl, ⟨_, (hw_sub (hw_refl _ _) rfl).symm⟩, l9_h48, rfl, (by first | decide | omega)⟩
      · skip
        refine r_ex hX hP 1 (pc' := 58) (st' := [(2, this)]) (lo' := [(0, (2, this)), (1, (0, since)), (2, (0, now)), (3, (0, has)), (4, (0, later)), (5, (0, x2)), (6, (0, l6_h48)), (7, (1, l7_h48)), (9, (0, l9_h48)), (10, (0, l10_h48))]) rfl ?_
        refine r_getR hX hP rfl fl_X7_31_132 hS (fun of13 of13e of13s => ?_)
        refine r_ex hX hP 1 (pc' := 63) (st' := [(0, l10_h48), (2, of13)]) (lo' := [(0, (2, this)), (1, (0, since)), (2, (0, now)), (3, (0, has)), (4, (0, later)), (5, (0, x2)), (6, (0, l6_h48)), (7, (1, l7_h48)), (9, (0, l9_h48)), (10, (0, l10_h48))]) rfl ?_
        refine r_iald hX hP rfl al_109 of13s (by first | decide | omega) (by first | decide | omega) (fun x14 x14e x14a x14b => ?_)
        refine r_ex hX hP 2 (pc' := 67) (st' := [(2, this)]) (lo' := [(0, (2, this)), (1, (0, since)), (2, (0, now)), (3, (0, has)), (4, (0, later)), (5, (0, x2)), (6, (0, l6_h48)), (7, (1, l7_h48)), (9, (0, l9_h48)), (10, (0, l10_h48)), (11, (0, x14))]) rfl ?_
        refine r_getR hX hP rfl fl_X7_9_132 hS (fun ff15 ff15e ff15s => ?_)
        refine r_ex hX hP 1 (pc' := 72) (st' := [(0, x14), (2, ff15)]) (lo' := [(0, (2, this)), (1, (0, since)), (2, (0, now)), (3, (0, has)), (4, (0, later)), (5, (0, x2)), (6, (0, l6_h48)), (7, (1, l7_h48)), (9, (0, l9_h48)), (10, (0, l10_h48)), (11, (0, x14))]) rfl ?_
        refine r_iald hX hP rfl al_108 ff15s (by first | decide | omega) (by first | decide | omega) (fun x16 x16e x16a x16b => ?_)
        refine r_ex hX hP 1 (pc' := 75) (st' := [(0, l6_h48), (0, x16)]) (lo' := [(0, (2, this)), (1, (0, since)), (2, (0, now)), (3, (0, has)), (4, (0, later)), (5, (0, x2)), (6, (0, l6_h48)), (7, (1, l7_h48)), (9, (0, l9_h48)), (10, (0, l10_h48)), (11, (0, x14))]) rfl ?_
        refine r_ic_ne hX hP rfl (tgt := 189) rfl (by first | decide | omega) (by first | decide | omega) (by first | decide | omega) (by first | decide | omega) (fun c17 => ?_) (fun c17 => ?_)
        · skip
          refine r_ex hX hP 2 (pc' := 48) (st' := []) (lo' := [(0, (2, this)), (1, (0, since)), (2, (0, now)), (3, (0, has)), (4, (0, later)), (5, (0, x2)), (6, (0, l6_h48)), (7, (1, l7_h48)), (9, (0, l9_h48)), (10, (0, (l10_h48 + 1))), (11, (0, x14))]) rfl ?_
          refine r_pick hX [0, 1, 2, 3, 4, 5, 6, 7, 8, 9] (lo' := [(0, (2, this)), (1, (0, since)), (2, (0, now)), (3, (0, has)), (4, (0, later)), (5, (0, x2)), (6, (0, l6_h48)), (7, (1, l7_h48)), (9, (0, l9_h48)), (10, (0, (l10_h48 + 1)))]) rfl ?_
          refine r_eqG (X := X) (hw_base _ _ _) ?_
          exact ih48 l6_h48 l7_h48 l9_h48 (l10_h48 + 1) _ (by first | decide | omega) (by first | decide | omega) (by first | decide | omega) (by first | decide | omega) (by first | decide | omega) (by first | decide | omega) (by first | decide | omega) (by first | decide | omega) (by first | decide | omega)
        · skip
          refine r_ex hX hP 1 (pc' := 79) (st' := [(2, this)]) (lo' := [(0, (2, this)), (1, (0, since)), (2, (0, now)), (3, (0, has)), (4, (0, later)), (5, (0, x2)), (6, (0, l6_h48)), (7, (1, l7_h48)), (9, (0, l9_h48)), (10, (0, l10_h48)), (11, (0, x14))]) rfl ?_
          refine r_getR hX hP rfl fl_X7_18_132 hS (fun df18 df18e df18s => ?_)
          refine r_ex hX hP 1 (pc' := 84) (st' := [(0, x14), (2, df18)]) (lo' := [(0, (2, this)), (1, (0, since)), (2, (0, now)), (3, (0, has)), (4, (0, later)), (5, (0, x2)), (6, (0, l6_h48)), (7, (1, l7_h48)), (9, (0, l9_h48)), (10, (0, l10_h48)), (11, (0, x14))]) rfl ?_
          refine r_iald hX hP rfl al_108 df18s (by first | decide | omega) (by first | decide | omega) (fun x19 x19e x19a x19b => ?_)
          refine r_ex hX hP 1 (pc' := 86) (st' := [(0, since), (0, x19)]) (lo' := [(0, (2, this)), (1, (0, since)), (2, (0, now)), (3, (0, has)), (4, (0, later)), (5, (0, x2)), (6, (0, l6_h48)), (7, (1, l7_h48)), (9, (0, l9_h48)), (10, (0, l10_h48)), (11, (0, x14))]) rfl ?_
          refine r_ic_le hX hP rfl (tgt := 189) rfl (by first | decide | omega) (by first | decide | omega) (by first | decide | omega) (by first | decide | omega) (fun c20 => ?_) (fun c20 => ?_)
          · skip
            refine r_ex hX hP 2 (pc' := 48) (st' := []) (lo' := [(0, (2, this)), (1, (0, since)), (2, (0, now)), (3, (0, has)), (4, (0, later)), (5, (0, x2)), (6, (0, l6_h48)), (7, (1, l7_h48)), (9, (0, l9_h48)), (10, (0, (l10_h48 + 1))), (11, (0, x14))]) rfl ?_
            refine r_pick hX [0, 1, 2, 3, 4, 5, 6, 7, 8, 9] (lo' := [(0, (2, this)), (1, (0, since)), (2, (0, now)), (3, (0, has)), (4, (0, later)), (5, (0, x2)), (6, (0, l6_h48)), (7, (1, l7_h48)), (9, (0, l9_h48)), (10, (0, (l10_h48 + 1)))]) rfl ?_
            refine r_eqG (X := X) (hw_base _ _ _) ?_
            exact ih48 l6_h48 l7_h48 l9_h48 (l10_h48 + 1) _ (by first | decide | omega) (by first | decide | omega) (by first | decide | omega) (by first | decide | omega) (by first | decide | omega) (by first | decide | omega) (by first | decide | omega) (by first | decide | omega) (by first | decide | omega)
          · skip
            refine r_ex hX hP 1 (pc' := 90) (st' := [(2, this)]) (lo' := [(0, (2, this)), (1, (0, since)), (2, (0, now)), (3, (0, has)), (4, (0, later)), (5, (0, x2)), (6, (0, l6_h48)), (7, (1, l7_h48)), (9, (0, l9_h48)), (10, (0, l10_h48)), (11, (0, x14))]) rfl ?_
            refine r_getKR hX hP rfl fl_X7_18_132 hS (x := df18) df18e ?_
            refine r_ex hX hP 1 (pc' := 95) (st' := [(0, x14), (2, df18)]) (lo' := [(0, (2, this)), (1, (0, since)), (2, (0, now)), (3, (0, has)), (4, (0, later)), (5, (0, x2)), (6, (0, l6_h48)), (7, (1, l7_h48)), (9, (0, l9_h48)), (10, (0, l10_h48)), (11, (0, x14))]) rfl ?_
            refine r_ialdK hX hP rfl al_108 df18s (by first | decide | omega) (by first | decide | omega) (x := x19) x19e ?_
            refine r_ex hX hP 1 (pc' := 98) (st' := [(0, later), (0, x19)]) (lo' := [(0, (2, this)), (1, (0, since)), (2, (0, now)), (3, (0, has)), (4, (0, later)), (5, (0, x2)), (6, (0, l6_h48)), (7, (1, l7_h48)), (9, (0, l9_h48)), (10, (0, l10_h48)), (11, (0, x14))]) rfl ?_
            refine r_ic_gt hX hP rfl (tgt := 189) rfl (by first | decide | omega) (by first | decide | omega) (by first | decide | omega) (by first | decide | omega) (fun c21 => ?_) (fun c21 => ?_)
            · skip
              refine r_ex hX hP 2 (pc' := 48) (st' := []) (lo' := [(0, (2, this)), (1, (0, since)), (2, (0, now)), (3, (0, has)), (4, (0, later)), (5, (0, x2)), (6, (0, l6_h48)), (7, (1, l7_h48)), (9, (0, l9_h48)), (10, (0, (l10_h48 + 1))), (11, (0, x14))]) rfl ?_
              refine r_pick hX [0, 1, 2, 3, 4, 5, 6, 7, 8, 9] (lo' := [(0, (2, this)), (1, (0, since)), (2, (0, now)), (3, (0, has)), (4, (0, later)), (5, (0, x2)), (6, (0, l6_h48)), (7, (1, l7_h48)), (9, (0, l9_h48)), (10, (0, (l10_h48 + 1)))]) rfl ?_
              refine r_eqG (X := X) (hw_base _ _ _) ?_
              exact ih48 l6_h48 l7_h48 l9_h48 (l10_h48 + 1) _ (by first | decide | omega) (by first | decide | omega) (by first | decide | omega) (by first | decide | omega) (by first | decide | omega) (by first | decide | omega) (by first | decide | omega) (by first | decide | omega) (by first | decide | omega)
            · skip
              refine r_ex hX hP 1 (pc' := 102) (st' := [(2, this)]) (lo' := [(0, (2, this)), (1, (0, since)), (2, (0, now)), (3, (0, has)), (4, (0, later)), (5, (0, x2)), (6, (0, l6_h48)), (7, (1, l7_h48)), (9, (0, l9_h48)), (10, (0, l10_h48)), (11, (0, x14))]) rfl ?_
              refine r_getR hX hP rfl fl_X7_24_132 hS (fun nf22 nf22e nf22s => ?_)
              refine r_ex hX hP 1 (pc' := 107) (st' := [(0, x14), (2, nf22)]) (lo' := [(0, (2, this)), (1, (0, since)), (2, (0, now)), (3, (0, has)), (4, (0, later)), (5, (0, x2)), (6, (0, l6_h48)), (7, (1, l7_h48)), (9, (0, l9_h48)), (10, (0, l10_h48)), (11, (0, x14))]) rfl ?_
              refine r_iald hX hP rfl al_108 nf22s (by first | decide | omega) (by first | decide | omega) (fun x23 x23e x23a x23b => ?_)
              refine r_if_gt hX hP rfl (tgt := 114) rfl (by first | decide | omega) (by first | decide | omega) (fun c24 => ?_) (fun c24 => ?_)
              · skip
                refine r_ex hX hP 1 (pc' := 115) (st' := [(2, this)]) (lo' := [(0, (2, this)), (1, (0, since)), (2, (0, now)), (3, (0, has)), (4, (0, later)), (5, (0, x2)), (6, (0, l6_h48)), (7, (1, l7_h48)), (9, (0, l9_h48)), (10, (0, l10_h48)), (11, (0, x14))]) rfl ?_
                refine r_getR hX hP rfl fl_X7_27_132 hS (fun sf25 sf25e sf25s => ?_)
                refine r_ex hX hP 1 (pc' := 120) (st' := [(0, x14), (2, sf25)]) (lo' := [(0, (2, this)), (1, (0, since)), (2, (0, now)), (3, (0, has)), (4, (0, later)), (5, (0, x2)), (6, (0, l6_h48)), (7, (1, l7_h48)), (9, (0, l9_h48)), (10, (0, l10_h48)), (11, (0, x14))]) rfl ?_
                refine r_zald hX hP rfl al_110 sf25s (by first | decide | omega) (by first | decide | omega) (fun x26 x26e x26a x26b => ?_)
                refine r_if_ne hX hP rfl (tgt := 147) rfl (by first | decide | omega) (by first | decide | omega) (fun c27 => ?_) (fun c27 => ?_)
                · skip
                  refine r_ex hX hP 2 (pc' := 150) (st' := [(2, this), (1, l7_h48)]) (lo' := [(0, (2, this)), (1, (0, since)), (2, (0, now)), (3, (0, has)), (4, (0, later)), (5, (0, x2)), (6, (0, l6_h48)), (7, (1, l7_h48)), (9, (0, l9_h48)), (10, (0, l10_h48)), (11, (0, x14))]) rfl ?_
                  refine r_getR hX hP rfl fl_X7_21_132 hS (fun mf28 mf28e mf28s => ?_)
                  refine r_ex hX hP 1 (pc' := 155) (st' := [(0, x14), (2, mf28), (1, l7_h48)]) (lo' := [(0, (2, this)), (1, (0, since)), (2, (0, now)), (3, (0, has)), (4, (0, later)), (5, (0, x2)), (6, (0, l6_h48)), (7, (1, l7_h48)), (9, (0, l9_h48)), (10, (0, l10_h48)), (11, (0, x14))]) rfl ?_
                  refine r_iald hX hP rfl al_108 mf28s (by first | decide | omega) (by first | decide | omega) (fun x29 x29e x29a x29b => ?_)
                  refine r_i2l hX hP rfl (by first | decide | omega) (by first | decide | omega) ?_
                  refine r_ex hX hP 1 (pc' := 158) (st' := [(1, (l7_h48 * x29))]) (lo' := [(0, (2, this)), (1, (0, since)), (2, (0, now)), (3, (0, has)), (4, (0, later)), (5, (0, x2)), (6, (0, l6_h48)), (7, (1, l7_h48)), (9, (0, l9_h48)), (10, (0, l10_h48)), (11, (0, x14))]) rfl ?_
                  refine r_hvL hX (fun w30 w30a w30b w30e => ?_)
                  refine r_ex hX hP 1 (pc' := 159) (st' := [(2, this), (1, w30)]) (lo' := [(0, (2, this)), (1, (0, since)), (2, (0, now)), (3, (0, has)), (4, (0, later)), (5, (0, x2)), (6, (0, l6_h48)), (7, (1, l7_h48)), (9, (0, l9_h48)), (10, (0, l10_h48)), (11, (0, x14))]) rfl ?_
                  refine r_getKR hX hP rfl fl_X7_24_132 hS (x := nf22) nf22e ?_
                  refine r_ex hX hP 1 (pc' := 164) (st' := [(0, x14), (2, nf22), (1, w30)]) (lo' := [(0, (2, this)), (1, (0, since)), (2, (0, now)), (3, (0, has)), (4, (0, later)), (5, (0, x2)), (6, (0, l6_h48)), (7, (1, l7_h48)), (9, (0, l9_h48)), (10, (0, l10_h48)), (11, (0, x14))]) rfl ?_
                  refine r_ialdK hX hP rfl al_108 nf22s (by first | decide | omega) (by first | decide | omega) (x := x23) x23e ?_
                  refine r_i2l hX hP rfl (by first | decide | omega) (by first | decide | omega) ?_
                  refine r_ldiv hX hP rfl (by first | decide | omega) (by first | decide | omega) (by first | decide | omega) (by first | decide | omega) (by first | decide | omega) ?_
                  obtain ⟨q31, q31e⟩ : ∃ q : Int, q = (Int.tdiv w30 x23) := ⟨_, rfl⟩
                  rw [← q31e]
                  have q31b := td_gen q31e (by first | decide | omega)
                  refine r_hvL hX (fun w32 w32a w32b w32e => ?_)
                  refine r_ex hX hP 2 (pc' := 170) (st' := [(2, this)]) (lo' := [(0, (2, this)), (1, (0, since)), (2, (0, now)), (3, (0, has)), (4, (0, later)), (5, (0, x2)), (6, (0, l6_h48)), (7, (1, w32)), (9, (0, l9_h48)), (10, (0, l10_h48)), (11, (0, x14))]) rfl ?_
                  refine r_getR hX hP rfl fl_X7_15_132 hS (fun tf33 tf33e tf33s => ?_)
                  refine r_ex hX hP 1 (pc' := 175) (st' := [(0, x14), (2, tf33)]) (lo' := [(0, (2, this)), (1, (0, since)), (2, (0, now)), (3, (0, has)), (4, (0, later)), (5, (0, x2)), (6, (0, l6_h48)), (7, (1, w32)), (9, (0, l9_h48)), (10, (0, l10_h48)), (11, (0, x14))]) rfl ?_
                  refine r_iald hX hP rfl al_108 tf33s (by first | decide | omega) (by first | decide | omega) (fun x34 x34e x34a x34b => ?_)
                  refine r_ex hX hP 2 (pc' := 180) (st' := [(1, w32)]) (lo' := [(0, (2, this)), (1, (0, since)), (2, (0, now)), (3, (0, has)), (4, (0, later)), (5, (0, x2)), (6, (0, x34)), (7, (1, w32)), (9, (0, l9_h48)), (10, (0, l10_h48)), (11, (0, x14))]) rfl ?_
                  refine r_ldc2 hX hP rfl (v := 1000000000000) (tbg sg7 96 rfl rfl) ?_
                  refine r_lc_le hX hP rfl rfl (tgt := 189) rfl (by first | decide | omega) (by first | decide | omega) (by first | decide | omega) (by first | decide | omega) (fun c35 => ?_) (fun c35 => ?_)
                  · skip
                    refine r_ex hX hP 2 (pc' := 48) (st' := []) (lo' := [(0, (2, this)), (1, (0, since)), (2, (0, now)), (3, (0, has)), (4, (0, later)), (5, (0, x2)), (6, (0, x34)), (7, (1, w32)), (9, (0, l9_h48)), (10, (0, (l10_h48 + 1))), (11, (0, x14))]) rfl ?_
                    refine r_pick hX [0, 1, 2, 3, 4, 5, 6, 7, 8, 9] (lo' := [(0, (2, this)), (1, (0, since)), (2, (0, now)), (3, (0, has)), (4, (0, later)), (5, (0, x2)), (6, (0, x34)), (7, (1, w32)), (9, (0, l9_h48)), (10, (0, (l10_h48 + 1)))]) rfl ?_
                    refine r_eqG (X := X) (hw_base _ _ _) ?_
                    exact ih48 x34 w32 l9_h48 (l10_h48 + 1) _ (by first | decide | omega) (by first | decide | omega) (by first | decide | omega) (by first | decide | omega) (by first | decide | omega) (by first | decide | omega) (by first | decide | omega) (by first | decide | omega) (by first | decide | omega)
                  · skip
                    refine r_ex hX hP 1 (pc' := 188) (st' := [(0, (-1))]) (lo' := [(0, (2, this)), (1, (0, since)), (2, (0, now)), (3, (0, has)), (4, (0, later)), (5, (0, x2)), (6, (0, x34)), (7, (1, w32)), (9, (0, l9_h48)), (10, (0, l10_h48)), (11, (0, x14))]) rfl ?_
                    exact r_retI hX hP rfl rfl (by first | decide | omega) (by first | decide | omega) ⟨rfl, ⟨_, (hw_sub (hw_refl _ _) rfl).symm⟩, (-1), rfl, (by first | decide | omega)⟩
                · skip
                  refine r_ex hX hP 7 (pc' := 135) (st' := [(0, l9_h48), (1, l7_h48), (0, l6_h48), (0, (l10_h48 + 1)), (2, this)]) (lo' := [(0, (2, this)), (1, (0, since)), (2, (0, now)), (3, (0, has)), (4, (0, later)), (5, (0, x2)), (6, (0, l6_h48)), (7, (1, l7_h48)), (9, (0, l9_h48)), (10, (0, l10_h48)), (11, (0, x14))]) rfl ?_
                  refine r_callV gd hX hP rfl cv_X7_60_132 hS (d' := 0) (mc' := 0) (ms' := 0) (as' := [(0, (l10_h48 + 1)), (0, l6_h48), (1, l7_h48), (0, l9_h48)]) (st := []) (by first | decide | omega) (by first | decide | omega) (by first | decide | omega) rfl rfl (Nat.le_of_ble_eq_true rfl) (c_X7_leave E S (hw [(111, -1), (112, -1), (113, -1), (132, 12)] G Gh48) this (l10_h48 + 1) l6_h48 l7_h48 l9_h48 hS (by first | decide | omega) (by first | decide | omega) (by first | decide | omega) (by first | decide | omega) (by first | decide | omega) (by first | decide | omega) (by first | decide | omega) (by first | decide | omega)) ?_
                  rintro _ _ _ ⟨rfl, ⟨G36, rfl⟩, rfl, -⟩
                  refine r_ex hX hP 3 (pc' := 143) (st' := [(0, x14), (0, 1), (0, l9_h48)]) (lo' := [(0, (2, this)), (1, (0, since)), (2, (0, now)), (3, (0, has)), (4, (0, later)), (5, (0, x2)), (6, (0, l6_h48)), (7, (1, l7_h48)), (9, (0, l9_h48)), (10, (0, l10_h48)), (11, (0, x14))]) rfl ?_
                  refine r_ishl hX hP rfl (fun b37 b37a b37b b37e => ?_)
                  refine r_ior hX hP rfl (fun b38 b38a b38b b38e => ?_)
                  refine r_ex hX hP 3 (pc' := 150) (st' := [(2, this), (1, l7_h48)]) (lo' := [(0, (2, this)), (1, (0, since)), (2, (0, now)), (3, (0, has)), (4, (0, later)), (5, (0, x2)), (6, (0, l6_h48)), (7, (1, l7_h48)), (9, (0, b38)), (10, (0, l10_h48)), (11, (0, x14))]) rfl ?_
                  refine r_getR hX hP rfl fl_X7_21_132 hS (fun mf39 mf39e mf39s => ?_)
                  refine r_ex hX hP 1 (pc' := 155) (st' := [(0, x14), (2, mf39), (1, l7_h48)]) (lo' := [(0, (2, this)), (1, (0, since)), (2, (0, now)), (3, (0, has)), (4, (0, later)), (5, (0, x2)), (6, (0, l6_h48)), (7, (1, l7_h48)), (9, (0, b38)), (10, (0, l10_h48)), (11, (0, x14))]) rfl ?_
                  refine r_iald hX hP rfl al_108 mf39s (by first | decide | omega) (by first | decide | omega) (fun x40 x40e x40a x40b => ?_)
                  refine r_i2l hX hP rfl (by first | decide | omega) (by first | decide | omega) ?_
                  refine r_ex hX hP 1 (pc' := 158) (st' := [(1, (l7_h48 * x40))]) (lo' := [(0, (2, this)), (1, (0, since)), (2, (0, now)), (3, (0, has)), (4, (0, later)), (5, (0, x2)), (6, (0, l6_h48)), (7, (1, l7_h48)), (9, (0, b38)), (10, (0, l10_h48)), (11, (0, x14))]) rfl ?_
                  refine r_hvL hX (fun w41 w41a w41b w41e => ?_)
                  refine r_ex hX hP 1 (pc' := 159) (st' := [(2, this), (1, w41)]) (lo' := [(0, (2, this)), (1, (0, since)), (2, (0, now)), (3, (0, has)), (4, (0, later)), (5, (0, x2)), (6, (0, l6_h48)), (7, (1, l7_h48)), (9, (0, b38)), (10, (0, l10_h48)), (11, (0, x14))]) rfl ?_
                  refine r_getKR hX hP rfl fl_X7_24_132 hS (x := nf22) nf22e ?_
                  refine r_ex hX hP 1 (pc' := 164) (st' := [(0, x14), (2, nf22), (1, w41)]) (lo' := [(0, (2, this)), (1, (0, since)), (2, (0, now)), (3, (0, has)), (4, (0, later)), (5, (0, x2)), (6, (0, l6_h48)), (7, (1, l7_h48)), (9, (0, b38)), (10, (0, l10_h48)), (11, (0, x14))]) rfl ?_
                  refine r_ialdK hX hP rfl al_108 nf22s (by first | decide | omega) (by first | decide | omega) (x := x23) x23e ?_
                  refine r_i2l hX hP rfl (by first | decide | omega) (by first | decide | omega) ?_
                  refine r_ldiv hX hP rfl (by first | decide | omega) (by first | decide | omega) (by first | decide | omega) (by first | decide | omega) (by first | decide | omega) ?_
                  obtain ⟨q42, q42e⟩ : ∃ q : Int, q = (Int.tdiv w41 x23) := ⟨_, rfl⟩
                  rw [← q42e]
                  have q42b := td_gen q42e (by first | decide | omega)
                  refine r_hvL hX (fun w43 w43a w43b w43e => ?_)
                  refine r_ex hX hP 2 (pc' := 170) (st' := [(2, this)]) (lo' := [(0, (2, this)), (1, (0, since)), (2, (0, now)), (3, (0, has)), (4, (0, later)), (5, (0, x2)), (6, (0, l6_h48)), (7, (1, w43)), (9, (0, b38)), (10, (0, l10_h48)), (11, (0, x14))]) rfl ?_
                  refine r_getR hX hP rfl fl_X7_15_132 hS (fun tf44 tf44e tf44s => ?_)
                  refine r_ex hX hP 1 (pc' := 175) (st' := [(0, x14), (2, tf44)]) (lo' := [(0, (2, this)), (1, (0, since)), (2, (0, now)), (3, (0, has)), (4, (0, later)), (5, (0, x2)), (6, (0, l6_h48)), (7, (1, w43)), (9, (0, b38)), (10, (0, l10_h48)), (11, (0, x14))]) rfl ?_
                  refine r_iald hX hP rfl al_108 tf44s (by first | decide | omega) (by first | decide | omega) (fun x45 x45e x45a x45b => ?_)
                  refine r_ex hX hP 2 (pc' := 180) (st' := [(1, w43)]) (lo' := [(0, (2, this)), (1, (0, since)), (2, (0, now)), (3, (0, has)), (4, (0, later)), (5, (0, x2)), (6, (0, x45)), (7, (1, w43)), (9, (0, b38)), (10, (0, l10_h48)), (11, (0, x14))]) rfl ?_
                  refine r_ldc2 hX hP rfl (v := 1000000000000) (tbg sg7 96 rfl rfl) ?_
                  refine r_lc_le hX hP rfl rfl (tgt := 189) rfl (by first | decide | omega) (by first | decide | omega) (by first | decide | omega) (by first | decide | omega) (fun c46 => ?_) (fun c46 => ?_)
                  · skip
                    refine r_ex hX hP 2 (pc' := 48) (st' := []) (lo' := [(0, (2, this)), (1, (0, since)), (2, (0, now)), (3, (0, has)), (4, (0, later)), (5, (0, x2)), (6, (0, x45)), (7, (1, w43)), (9, (0, b38)), (10, (0, (l10_h48 + 1))), (11, (0, x14))]) rfl ?_
                    refine r_pick hX [0, 1, 2, 3, 4, 5, 6, 7, 8, 9] (lo' := [(0, (2, this)), (1, (0, since)), (2, (0, now)), (3, (0, has)), (4, (0, later)), (5, (0, x2)), (6, (0, x45)), (7, (1, w43)), (9, (0, b38)), (10, (0, (l10_h48 + 1)))]) rfl ?_
                    refine r_eqG (X := X) (hw_sub (hw_base _ _ _) rfl) ?_
                    exact ih48 x45 w43 b38 (l10_h48 + 1) _ (by first | decide | omega) (by first | decide | omega) (by first | decide | omega) (by first | decide | omega) (by first | decide | omega) (by first | decide | omega) (by first | decide | omega) (by first | decide | omega) (by first | decide | omega)
                  · skip
                    refine r_ex hX hP 1 (pc' := 188) (st' := [(0, (-1))]) (lo' := [(0, (2, this)), (1, (0, since)), (2, (0, now)), (3, (0, has)), (4, (0, later)), (5, (0, x2)), (6, (0, x45)), (7, (1, w43)), (9, (0, b38)), (10, (0, l10_h48)), (11, (0, x14))]) rfl ?_
                    exact r_retI hX hP rfl rfl (by first | decide | omega) (by first | decide | omega) ⟨rfl, ⟨_, (hw_sub (hw_sub (hw_refl _ _) rfl) rfl).symm⟩, (-1), rfl, (by first | decide | omega)⟩
              · skip
                refine r_ex hX hP 3 (pc' := 48) (st' := []) (lo' := [(0, (2, this)), (1, (0, since)), (2, (0, now)), (3, (0, has)), (4, (0, later)), (5, (0, x2)), (6, (0, l6_h48)), (7, (1, l7_h48)), (9, (0, l9_h48)), (10, (0, (l10_h48 + 1))), (11, (0, x14))]) rfl ?_
                refine r_pick hX [0, 1, 2, 3, 4, 5, 6, 7, 8, 9] (lo' := [(0, (2, this)), (1, (0, since)), (2, (0, now)), (3, (0, has)), (4, (0, later)), (5, (0, x2)), (6, (0, l6_h48)), (7, (1, l7_h48)), (9, (0, l9_h48)), (10, (0, (l10_h48 + 1)))]) rfl ?_
                refine r_eqG (X := X) (hw_base _ _ _) ?_
                exact ih48 l6_h48 l7_h48 l9_h48 (l10_h48 + 1) _ (by first | decide | omega) (by first | decide | omega) (by first | decide | omega) (by first | decide | omega) (by first | decide | omega) (by first | decide | omega) (by first | decide | omega) (by first | decide | omega) (by first | decide | omega)
  refine r_eqG (X := X) (hw_refl [(111, -1), (112, -1), (113, -1), (132, 12)] _) ?_
  exact loop48 ((12 - x2) + 1 : Int).toNat x4 x6 x8 x2 _ (by first | decide | omega) (by first | decide | omega) (by first | decide | omega) (by first | decide | omega) (by first | decide | omega) (by first | decide | omega) (by first | decide | omega) (by first | decide | omega) (by first | decide | omega)
set_option maxRecDepth 100000 in
set_option maxHeartbeats 4000000 in
theorem c_X7_weigh (E : En) (S : Sg) (G : Gh) (this : Int) (set_ : Int) (hS : S this = 132) (set__a : (-2147483648) ≤ set_) (set__b : set_ ≤ 2147483647) : Calls E mX7_weigh [(2, this), (0, set_)] S G 1 0 0 (fun r S' G' => S = S' ∧ (∃ G1, hw [(132, 1), (132, 4)] G G1 = G') ∧ r = none ∧ True) := by
  refine calls_by [(0, (2, this)), (1, (0, set_))] rfl rfl (Nat.le_of_ble_eq_true rfl) (fun X hX => ?_)
  have hP := hPX7_weigh
  refine r_ex hX hP 1 (pc' := 1) (st' := [(0, set_)]) (lo' := [(0, (2, this)), (1, (0, set_))]) rfl ?_
  refine r_callS gd hX hP rfl cs_X7_74 (d' := 0) (mc' := 0) (ms' := 0) (as' := [(0, set_)]) (st := []) (by first | decide | omega) (by first | decide | omega) (by first | decide | omega) rfl rfl (Nat.le_of_ble_eq_true rfl) (c_bitC E S G set_ (by first | decide | omega) (by first | decide | omega)) ?_
  rintro _ _ _ ⟨rfl, rfl, z1, rfl, z1a, z1b⟩
  refine r_ex hX hP 2 (pc' := 6) (st' := [(2, this)]) (lo' := [(0, (2, this)), (1, (0, set_)), (2, (0, z1))]) rfl ?_
  refine r_getI hX hP rfl fl_X7_54_132 hS (fun bf2 bf2e bf2a bf2b => ?_)
  refine r_callS gd hX hP rfl cs_X7_74 (d' := 0) (mc' := 0) (ms' := 0) (as' := [(0, bf2)]) (st := []) (by first | decide | omega) (by first | decide | omega) (by first | decide | omega) rfl rfl (Nat.le_of_ble_eq_true rfl) (c_bitC E S G bf2 (by first | decide | omega) (by first | decide | omega)) ?_
  rintro _ _ _ ⟨rfl, rfl, z3, rfl, z3a, z3b⟩
  refine r_ex hX hP 2 (pc' := 14) (st' := [(2, this)]) (lo' := [(0, (2, this)), (1, (0, set_)), (2, (0, z1)), (3, (0, z3))]) rfl ?_
  refine r_getI hX hP rfl fl_X7_51_132 hS (fun wf4 wf4e wf4a wf4b => ?_)
  refine r_if_eq hX hP rfl (tgt := 25) rfl (by first | decide | omega) (by first | decide | omega) (fun c5 => ?_) (fun c5 => ?_)
  · skip
    refine r_ex hX hP 2 (pc' := 27) (st' := [(0, 1), (2, this)]) (lo' := [(0, (2, this)), (1, (0, set_)), (2, (0, z1)), (3, (0, z3))]) rfl ?_
    refine r_putIK hX hP rfl fp_X7_51_132 hS (by first | decide | omega) (by first | decide | omega) (fun h6 => ?_)
    refine r_ex hX hP 2 (pc' := 32) (st' := [(0, set_), (2, this)]) (lo' := [(0, (2, this)), (1, (0, set_)), (2, (0, z1)), (3, (0, z3))]) rfl ?_
    refine r_putIK hX hP rfl fp_X7_54_132 hS (by first | decide | omega) (by first | decide | omega) (fun h7 => ?_)
    refine r_ex hX hP 1 (pc' := 77) (st' := []) (lo' := [(0, (2, this)), (1, (0, set_)), (2, (0, z1)), (3, (0, z3))]) rfl ?_
    exact r_retV hX hP rfl rfl (by first | decide | omega) (by first | decide | omega) ⟨rfl, ⟨_, (hw_up (hw_up (hw_refl _ _) rfl) rfl).symm⟩, rfl, trivial⟩
  · skip
    refine r_ex hX hP 2 (pc' := 22) (st' := [(0, z3), (0, z1)]) (lo' := [(0, (2, this)), (1, (0, set_)), (2, (0, z1)), (3, (0, z3))]) rfl ?_
    refine r_ic_ge hX hP rfl (tgt := 38) rfl (by first | decide | omega) (by first | decide | omega) (by first | decide | omega) (by first | decide | omega) (fun c8 => ?_) (fun c8 => ?_)
    · skip
      refine r_ex hX hP 2 (pc' := 40) (st' := [(0, z3), (0, z1)]) (lo' := [(0, (2, this)), (1, (0, set_)), (2, (0, z1)), (3, (0, z3))]) rfl ?_
      refine r_ic_ne hX hP rfl (tgt := 77) rfl (by first | decide | omega) (by first | decide | omega) (by first | decide | omega) (by first | decide | omega) (fun c9 => ?_) (fun c9 => ?_)
      · skip
        exact r_retV hX hP rfl rfl (by first | decide | omega) (by first | decide | omega) ⟨rfl, ⟨_, (hw_refl _ _).symm⟩, rfl, trivial⟩
      · skip
        refine r_ex hX hP 2 (pc' := 45) (st' := [(2, this), (2, this)]) (lo' := [(0, (2, this)), (1, (0, set_)), (2, (0, z1)), (3, (0, z3))]) rfl ?_
        refine r_getKI hX hP rfl fl_X7_51_132 hS (x := wf4) wf4e ?_
        refine r_ex hX hP 2 (pc' := 50) (st' := [(0, (wf4 + 1)), (2, this)]) (lo' := [(0, (2, this)), (1, (0, set_)), (2, (0, z1)), (3, (0, z3))]) rfl ?_
        refine r_hvI hX (fun w10 w10a w10b w10e => ?_)
        refine r_putIK hX hP rfl fp_X7_51_132 hS (by first | decide | omega) (by first | decide | omega) (fun h11 => ?_)
        refine r_ex hX hP 2 (pc' := 55) (st' := [(2, this), (0, set_)]) (lo' := [(0, (2, this)), (1, (0, set_)), (2, (0, z1)), (3, (0, z3))]) rfl ?_
        refine r_getKI hX hP rfl fl_X7_54_132 hS (x := bf2) bf2e ?_
        refine r_ixor hX hP rfl (fun b12 b12a b12b b12e => ?_)
        refine r_ex hX hP 3 (pc' := 64) (st' := [(0, b12), (0, set_)]) (lo' := [(0, (2, this)), (1, (0, set_)), (2, (0, z1)), (3, (0, z3)), (4, (0, b12))]) rfl ?_
        refine r_iand hX hP rfl (fun b13 b13a b13b b13e => ?_)
        refine r_ex hX hP 2 (pc' := 68) (st' := [(0, (-b12)), (0, b13)]) (lo' := [(0, (2, this)), (1, (0, set_)), (2, (0, z1)), (3, (0, z3)), (4, (0, b12))]) rfl ?_
        refine r_hvI hX (fun w14 w14a w14b w14e => ?_)
        refine r_iand hX hP rfl (fun b15 b15a b15b b15e => ?_)
        refine r_if_eq hX hP rfl (tgt := 77) rfl (by first | decide | omega) (by first | decide | omega) (fun c16 => ?_) (fun c16 => ?_)
        · skip
          exact r_retV hX hP rfl rfl (by first | decide | omega) (by first | decide | omega) ⟨rfl, ⟨_, (hw_up (hw_refl _ _) rfl).symm⟩, rfl, trivial⟩
        · skip
          refine r_ex hX hP 2 (pc' := 74) (st' := [(0, set_), (2, this)]) (lo' := [(0, (2, this)), (1, (0, set_)), (2, (0, z1)), (3, (0, z3)), (4, (0, b12))]) rfl ?_
          refine r_putIK hX hP rfl fp_X7_54_132 hS (by first | decide | omega) (by first | decide | omega) (fun h17 => ?_)
          exact r_retV hX hP rfl rfl (by first | decide | omega) (by first | decide | omega) ⟨rfl, ⟨_, (hw_up (hw_up (hw_refl _ _) rfl) rfl).symm⟩, rfl, trivial⟩
    · skip
      refine r_ex hX hP 2 (pc' := 27) (st' := [(0, 1), (2, this)]) (lo' := [(0, (2, this)), (1, (0, set_)), (2, (0, z1)), (3, (0, z3))]) rfl ?_
      refine r_putIK hX hP rfl fp_X7_51_132 hS (by first | decide | omega) (by first | decide | omega) (fun h18 => ?_)
      refine r_ex hX hP 2 (pc' := 32) (st' := [(0, set_), (2, this)]) (lo' := [(0, (2, this)), (1, (0, set_)), (2, (0, z1)), (3, (0, z3))]) rfl ?_
      refine r_putIK hX hP rfl fp_X7_54_132 hS (by first | decide | omega) (by first | decide | omega) (fun h19 => ?_)
      refine r_ex hX hP 1 (pc' := 77) (st' := []) (lo' := [(0, (2, this)), (1, (0, set_)), (2, (0, z1)), (3, (0, z3))]) rfl ?_
      exact r_retV hX hP rfl rfl (by first | decide | omega) (by first | decide | omega) ⟨rfl, ⟨_, (hw_up (hw_up (hw_refl _ _) rfl) rfl).symm⟩, rfl, trivial⟩
set_option maxRecDepth 100000 in
set_option maxHeartbeats 4000000 in
theorem c_X7_solve (E : En) (S : Sg) (G : Gh) (this : Int) (paper : Int) (shares : Int) (since : Int) (now : Int) (has : Int) (later : Int) (hS : S this = 132) (paper_a : (-2147483648) ≤ paper) (paper_b : paper ≤ 2147483647) (shares_a : (-2147483648) ≤ shares) (shares_b : shares ≤ 2147483647) (since_a : (-2147483648) ≤ since) (since_b : since ≤ 2147483647) (now_a : (-2147483648) ≤ now) (now_b : now ≤ 2147483647) (has_a : (-2147483648) ≤ has) (has_b : has ≤ 2147483647) (later_a : (-2147483648) ≤ later) (later_b : later ≤ 2147483647) : Calls E mX7_solve [(2, this), (0, paper), (0, shares), (0, since), (0, now), (0, has), (0, later)] S G 2 0 0 (fun r S' G' => S = S' ∧ (∃ G1, hw [(111, -1), (112, -1), (113, -1), (132, 1), (132, 4), (132, 12)] G G1 = G') ∧ r = none ∧ True) := by
  refine calls_by [(0, (2, this)), (1, (0, paper)), (2, (0, shares)), (3, (0, since)), (4, (0, now)), (5, (0, has)), (6, (0, later))] rfl rfl (Nat.le_of_ble_eq_true rfl) (fun X hX => ?_)
  have hP := hPX7_solve
  refine r_ex hX hP 2 (pc' := 2) (st' := [(0, 0), (2, this)]) (lo' := [(0, (2, this)), (1, (0, paper)), (2, (0, shares)), (3, (0, since)), (4, (0, now)), (5, (0, has)), (6, (0, later))]) rfl ?_
  refine r_putIK hX hP rfl fp_X7_51_132 hS (by first | decide | omega) (by first | decide | omega) (fun h1 => ?_)
  refine r_ex hX hP 2 (pc' := 7) (st' := [(0, 0), (2, this)]) (lo' := [(0, (2, this)), (1, (0, paper)), (2, (0, shares)), (3, (0, since)), (4, (0, now)), (5, (0, has)), (6, (0, later))]) rfl ?_
  refine r_putIK hX hP rfl fp_X7_54_132 hS (by first | decide | omega) (by first | decide | omega) (fun h2 => ?_)
  refine r_ex hX hP 2 (pc' := 12) (st' := [(0, 0), (2, this)]) (lo' := [(0, (2, this)), (1, (0, paper)), (2, (0, shares)), (3, (0, since)), (4, (0, now)), (5, (0, has)), (6, (0, later))]) rfl ?_
  refine r_putIK hX hP rfl fp_X7_57_132 hS (by first | decide | omega) (by first | decide | omega) (fun h3 => ?_)
  refine r_ex hX hP 4 (pc' := 19) (st' := [(0, shares), (0, paper), (0, 0), (2, this)]) (lo' := [(0, (2, this)), (1, (0, paper)), (2, (0, shares)), (3, (0, since)), (4, (0, now)), (5, (0, has)), (6, (0, later))]) rfl ?_
  refine r_i2l hX hP rfl (by first | decide | omega) (by first | decide | omega) ?_
  refine r_ex hX hP 1 (pc' := 21) (st' := [(0, 0), (1, shares), (0, paper), (0, 0), (2, this)]) (lo' := [(0, (2, this)), (1, (0, paper)), (2, (0, shares)), (3, (0, since)), (4, (0, now)), (5, (0, has)), (6, (0, later))]) rfl ?_
  refine r_callV gd hX hP rfl cv_X7_60_132 hS (d' := 0) (mc' := 0) (ms' := 0) (as' := [(0, 0), (0, paper), (1, shares), (0, 0)]) (st := []) (by first | decide | omega) (by first | decide | omega) (by first | decide | omega) rfl rfl (Nat.le_of_ble_eq_true rfl) (c_X7_leave E S (up (up (up G 132 this 1 0) 132 this 4 0) 132 this 12 0) this 0 paper shares 0 hS (by first | decide | omega) (by first | decide | omega) (by first | decide | omega) (by first | decide | omega) (by first | decide | omega) (by first | decide | omega) (by first | decide | omega) (by first | decide | omega)) ?_
  rintro _ _ _ ⟨rfl, ⟨G4, rfl⟩, rfl, -⟩
  refine r_ex hX hP 2 (pc' := 27) (st' := []) (lo' := [(0, (2, this)), (1, (0, paper)), (2, (0, shares)), (3, (0, since)), (4, (0, now)), (5, (0, has)), (6, (0, later)), (7, (0, 0))]) rfl ?_
  have x83 : ∀ (l7_x83 : Int) (Gx83 : Gh), 0 ≤ l7_x83 → l7_x83 ≤ 4096 → X 0 0 83 [] [(0, (2, this)), (1, (0, paper)), (2, (0, shares)), (3, (0, since)), (4, (0, now)), (5, (0, has)), (6, (0, later)), (7, (0, l7_x83))] S (hw [(111, -1), (112, -1), (113, -1), (132, 1), (132, 4), (132, 12)] (hw [(111, -1), (112, -1), (113, -1), (132, 12)] (up (up (up G 132 this 1 0) 132 this 4 0) 132 this 12 0) G4) Gx83) := by
    intro l7_x83 Gx83 yx83_0 yx83_1
    exact r_retV hX hP rfl rfl (by first | decide | omega) (by first | decide | omega) ⟨rfl, ⟨_, (hw_sub (hw_sub (hw_up (hw_up (hw_up (hw_refl _ _) rfl) rfl) rfl) rfl) rfl).symm⟩, rfl, trivial⟩
  have loop27 : ∀ (nF : Nat) (l7_h27 : Int) (Gh27 : Gh), 0 ≤ l7_h27 → l7_h27 ≤ 4096 → 4096 - l7_h27 < (nF : Int) → X 0 0 27 [] [(0, (2, this)), (1, (0, paper)), (2, (0, shares)), (3, (0, since)), (4, (0, now)), (5, (0, has)), (6, (0, later)), (7, (0, l7_h27))] S (hw [(111, -1), (112, -1), (113, -1), (132, 1), (132, 4), (132, 12)] (hw [(111, -1), (112, -1), (113, -1), (132, 12)] (up (up (up G 132 this 1 0) 132 this 4 0) 132 this 12 0) G4) Gh27) := by
    intro nF
    induction nF with
    | zero => intro l7_h27 Gh27 yh27_0 yh27_1 ym27; exfalso; omega
    | succ nF ih27 =>
      intro l7_h27 Gh27 yh27_0 yh27_1 ym27
      refine r_ex hX hP 2 (pc' := 32) (st' := [(0, 4096), (0, l7_h27)]) (lo' := [(0, (2, this)), (1, (0, paper)), (2, (0, shares)), (3, (0, since)), (4, (0, now)), (5, (0, has)), (6, (0, later)), (7, (0, l7_h27))]) rfl ?_
      refine r_ic_ge hX hP rfl (tgt := 83) rfl (by first | decide | omega) (by first | decide | omega) (by first | decide | omega) (by first | decide | omega) (fun c5 => ?_) (fun c5 => ?_)
      · skip
        refine r_eqG (X := X) (hw_sub (hw_refl [(111, -1), (112, -1), (113, -1), (132, 1), (132, 4), (132, 12)] _) rfl) ?_
        exact x83 l7_h27 _ (by first | decide | omega) (by first | decide | omega)
      · skip
        refine r_ex hX hP 1 (pc' := 36) (st' := [(2, this)]) (lo' := [(0, (2, this)), (1, (0, paper)), (2, (0, shares)), (3, (0, since)), (4, (0, now)), (5, (0, has)), (6, (0, later)), (7, (0, l7_h27))]) rfl ?_
        refine r_getI hX hP rfl fl_X7_57_132 hS (fun of6 of6e of6a of6b => ?_)
        refine r_if_le hX hP rfl (tgt := 83) rfl (by first | decide | omega) (by first | decide | omega) (fun c7 => ?_) (fun c7 => ?_)
        · skip
          refine r_eqG (X := X) (hw_sub (hw_refl [(111, -1), (112, -1), (113, -1), (132, 1), (132, 4), (132, 12)] _) rfl) ?_
          exact x83 l7_h27 _ (by first | decide | omega) (by first | decide | omega)
        · skip
          refine r_ex hX hP 2 (pc' := 44) (st' := [(2, this), (2, this)]) (lo' := [(0, (2, this)), (1, (0, paper)), (2, (0, shares)), (3, (0, since)), (4, (0, now)), (5, (0, has)), (6, (0, later)), (7, (0, l7_h27))]) rfl ?_
          refine r_getKI hX hP rfl fl_X7_57_132 hS (x := of6) of6e ?_
          refine r_ex hX hP 2 (pc' := 49) (st' := [(0, (of6 - 1)), (2, this)]) (lo' := [(0, (2, this)), (1, (0, paper)), (2, (0, shares)), (3, (0, since)), (4, (0, now)), (5, (0, has)), (6, (0, later)), (7, (0, l7_h27))]) rfl ?_
          refine r_putIK hX hP rfl fp_X7_57_132 hS (by first | decide | omega) (by first | decide | omega) (fun h8 => ?_)
          refine r_ex hX hP 5 (pc' := 60) (st' := [(0, later), (0, has), (0, now), (0, since), (2, this)]) (lo' := [(0, (2, this)), (1, (0, paper)), (2, (0, shares)), (3, (0, since)), (4, (0, now)), (5, (0, has)), (6, (0, later)), (7, (0, l7_h27))]) rfl ?_
          refine r_callV gd hX hP rfl cv_X7_64_132 hS (d' := 1) (mc' := 0) (ms' := 0) (as' := [(0, since), (0, now), (0, has), (0, later)]) (st := []) (by first | decide | omega) (by first | decide | omega) (by first | decide | omega) rfl rfl (Nat.le_of_ble_eq_true rfl) (c_X7_walk E S (up (hw [(111, -1), (112, -1), (113, -1), (132, 1), (132, 4), (132, 12)] (hw [(111, -1), (112, -1), (113, -1), (132, 12)] (up (up (up G 132 this 1 0) 132 this 4 0) 132 this 12 0) G4) Gh27) 132 this 12 (of6 - 1)) this since now has later hS (of6 - 1) h8 (by first | decide | omega) (by first | decide | omega) (by first | decide | omega) (by first | decide | omega) (by first | decide | omega) (by first | decide | omega) (by first | decide | omega) (by first | decide | omega) (by first | decide | omega)) ?_
          rintro _ _ _ ⟨rfl, ⟨G9, rfl⟩, z10, rfl, z10a, z10b⟩
          refine r_ex hX hP 3 (pc' := 68) (st' := [(0, (-1)), (0, z10)]) (lo' := [(0, (2, this)), (1, (0, paper)), (2, (0, shares)), (3, (0, since)), (4, (0, now)), (5, (0, has)), (6, (0, later)), (7, (0, l7_h27)), (8, (0, z10))]) rfl ?_
          refine r_ic_eq hX hP rfl (tgt := 77) rfl (by first | decide | omega) (by first | decide | omega) (by first | decide | omega) (by first | decide | omega) (fun c11 => ?_) (fun c11 => ?_)
          · skip
            refine r_ex hX hP 2 (pc' := 27) (st' := []) (lo' := [(0, (2, this)), (1, (0, paper)), (2, (0, shares)), (3, (0, since)), (4, (0, now)), (5, (0, has)), (6, (0, later)), (7, (0, (l7_h27 + 1))), (8, (0, z10))]) rfl ?_
            refine r_pick hX [0, 1, 2, 3, 4, 5, 6, 7] (lo' := [(0, (2, this)), (1, (0, paper)), (2, (0, shares)), (3, (0, since)), (4, (0, now)), (5, (0, has)), (6, (0, later)), (7, (0, (l7_h27 + 1)))]) rfl ?_
            refine r_eqG (X := X) (hw_sub (hw_up (hw_base _ _ _) rfl) rfl) ?_
            exact ih27 (l7_h27 + 1) _ (by first | decide | omega) (by first | decide | omega) (by first | decide | omega)
          · skip
            refine r_ex hX hP 2 (pc' := 74) (st' := [(0, z10), (2, this)]) (lo' := [(0, (2, this)), (1, (0, paper)), (2, (0, shares)), (3, (0, since)), (4, (0, now)), (5, (0, has)), (6, (0, later)), (7, (0, l7_h27)), (8, (0, z10))]) rfl ?_
            refine r_callV gd hX hP rfl cv_X7_68_132 hS (d' := 1) (mc' := 0) (ms' := 0) (as' := [(0, z10)]) (st := []) (by first | decide | omega) (by first | decide | omega) (by first | decide | omega) rfl rfl (Nat.le_of_ble_eq_true rfl) (c_X7_weigh E S (hw [(111, -1), (112, -1), (113, -1), (132, 12)] (up (hw [(111, -1), (112, -1), (113, -1), (132, 1), (132, 4), (132, 12)] (hw [(111, -1), (112, -1), (113, -1), (132, 12)] (up (up (up G 132 this 1 0) 132 this 4 0) 132 this 12 0) G4) Gh27) 132 this 12 (of6 - 1)) G9) this z10 hS (by first | decide | omega) (by first | decide | omega)) ?_
            rintro _ _ _ ⟨rfl, ⟨G12, rfl⟩, rfl, -⟩
            refine r_ex hX hP 2 (pc' := 27) (st' := []) (lo' := [(0, (2, this)), (1, (0, paper)), (2, (0, shares)), (3, (0, since)), (4, (0, now)), (5, (0, has)), (6, (0, later)), (7, (0, (l7_h27 + 1))), (8, (0, z10))]) rfl ?_
            refine r_pick hX [0, 1, 2, 3, 4, 5, 6, 7] (lo' := [(0, (2, this)), (1, (0, paper)), (2, (0, shares)), (3, (0, since)), (4, (0, now)), (5, (0, has)), (6, (0, later)), (7, (0, (l7_h27 + 1)))]) rfl ?_
            refine r_eqG (X := X) (hw_sub (hw_sub (hw_up (hw_base _ _ _) rfl) rfl) rfl) ?_
            exact ih27 (l7_h27 + 1) _ (by first | decide | omega) (by first | decide | omega) (by first | decide | omega)
  refine r_eqG (X := X) (hw_refl [(111, -1), (112, -1), (113, -1), (132, 1), (132, 4), (132, 12)] _) ?_
  exact loop27 ((4096 - 0) + 1 : Int).toNat 0 _ (by first | decide | omega) (by first | decide | omega) (by first | decide | omega)
set_option maxRecDepth 100000 in
set_option maxHeartbeats 4000000 in
theorem c_X7_keep (E : En) (S : Sg) (G : Gh) (this : Int) (hS : S this = 132) : Calls E mX7_keep [(2, this)] S G 0 0 0 (fun r S' G' => S = S' ∧ (∃ G1, hw [(132, 2), (132, 3)] G G1 = G') ∧ r = none ∧ True) := by
  refine calls_by [(0, (2, this))] rfl rfl (Nat.le_of_ble_eq_true rfl) (fun X hX => ?_)
  have hP := hPX7_keep
  refine r_ex hX hP 2 (pc' := 2) (st' := [(2, this), (2, this)]) (lo' := [(0, (2, this))]) rfl ?_
  refine r_getI hX hP rfl fl_X7_51_132 hS (fun wf1 wf1e wf1a wf1b => ?_)
  refine r_putIK hX hP rfl fp_X7_80_132 hS (by first | decide | omega) (by first | decide | omega) (fun h2 => ?_)
  refine r_ex hX hP 2 (pc' := 10) (st' := [(2, this), (2, this)]) (lo' := [(0, (2, this))]) rfl ?_
  refine r_getI hX hP rfl fl_X7_54_132 hS (fun bf3 bf3e bf3a bf3b => ?_)
  refine r_putIK hX hP rfl fp_X7_83_132 hS (by first | decide | omega) (by first | decide | omega) (fun h4 => ?_)
  exact r_retV hX hP rfl rfl (by first | decide | omega) (by first | decide | omega) ⟨rfl, ⟨_, (hw_up (hw_up (hw_refl _ _) rfl) rfl).symm⟩, rfl, trivial⟩
set_option maxRecDepth 100000 in
set_option maxHeartbeats 4000000 in
theorem c_X7_inSet (E : En) (S : Sg) (G : Gh) (this : Int) (k : Int) (hS : S this = 132) (k_a : (-2147483648) ≤ k) (k_b : k ≤ 2147483647) : Calls E mX7_inSet [(2, this), (0, k)] S G 0 0 0 (fun r S' G' => S = S' ∧ G = G' ∧ ∃ z : Int, r = some (0, z) ∧ (-1) ≤ z ∧ z ≤ 11) := by
  refine calls_by [(0, (2, this)), (1, (0, k))] rfl rfl (Nat.le_of_ble_eq_true rfl) (fun X hX => ?_)
  have hP := hPX7_inSet
  refine r_ex hX hP 4 (pc' := 4) (st' := []) (lo' := [(0, (2, this)), (1, (0, k)), (2, (0, 0)), (3, (0, 0))]) rfl ?_
  have loop4 : ∀ (nF : Nat) (l2_h4 l3_h4 : Int), (-2147483648) ≤ l2_h4 → l2_h4 ≤ 2147483647 → 0 ≤ l3_h4 → l3_h4 ≤ 12 → 12 - l3_h4 < (nF : Int) → X 0 0 4 [] [(0, (2, this)), (1, (0, k)), (2, (0, l2_h4)), (3, (0, l3_h4))] S G := by
    intro nF
    induction nF with
    | zero => intro l2_h4 l3_h4 yh4_0 yh4_1 yh4_2 yh4_3 ym4; exfalso; omega
    | succ nF ih4 =>
      intro l2_h4 l3_h4 yh4_0 yh4_1 yh4_2 yh4_3 ym4
      refine r_ex hX hP 2 (pc' := 6) (st' := [(2, this), (0, l3_h4)]) (lo' := [(0, (2, this)), (1, (0, k)), (2, (0, l2_h4)), (3, (0, l3_h4))]) rfl ?_
      refine r_getI hX hP rfl fl_X7_47_132 hS (fun cf1 cf1e cf1a cf1b => ?_)
      refine r_ic_ge hX hP rfl (tgt := 40) rfl (by first | decide | omega) (by first | decide | omega) (by first | decide | omega) (by first | decide | omega) (fun c2 => ?_) (fun c2 => ?_)
      · skip
        refine r_ex hX hP 1 (pc' := 41) (st' := [(0, (-1))]) (lo' := [(0, (2, this)), (1, (0, k)), (2, (0, l2_h4)), (3, (0, l3_h4))]) rfl ?_
        exact r_retI hX hP rfl rfl (by first | decide | omega) (by first | decide | omega) ⟨rfl, rfl, (-1), rfl, (by first | decide | omega)⟩
      · skip
        refine r_ex hX hP 1 (pc' := 13) (st' := [(2, this)]) (lo' := [(0, (2, this)), (1, (0, k)), (2, (0, l2_h4)), (3, (0, l3_h4))]) rfl ?_
        refine r_getI hX hP rfl fl_X7_83_132 hS (fun kf3 kf3e kf3a kf3b => ?_)
        refine r_ex hX hP 1 (pc' := 17) (st' := [(0, l3_h4), (0, kf3)]) (lo' := [(0, (2, this)), (1, (0, k)), (2, (0, l2_h4)), (3, (0, l3_h4))]) rfl ?_
        refine r_ishr hX hP rfl (fun b4 b4a b4b b4e => ?_)
        refine r_ex hX hP 1 (pc' := 19) (st' := [(0, 1), (0, b4)]) (lo' := [(0, (2, this)), (1, (0, k)), (2, (0, l2_h4)), (3, (0, l3_h4))]) rfl ?_
        refine r_iand hX hP rfl (fun b5 b5a b5b b5e => ?_)
        have b5d := iand_bd b5a b5b b5e (by first | decide | omega) (by first | decide | omega)
        refine r_ex hX hP 1 (pc' := 21) (st' := [(0, 1), (0, b5)]) (lo' := [(0, (2, this)), (1, (0, k)), (2, (0, l2_h4)), (3, (0, l3_h4))]) rfl ?_
        refine r_ic_ne hX hP rfl (tgt := 34) rfl (by first | decide | omega) (by first | decide | omega) (by first | decide | omega) (by first | decide | omega) (fun c6 => ?_) (fun c6 => ?_)
        · skip
          refine r_ex hX hP 2 (pc' := 4) (st' := []) (lo' := [(0, (2, this)), (1, (0, k)), (2, (0, l2_h4)), (3, (0, (l3_h4 + 1)))]) rfl ?_
          exact ih4 l2_h4 (l3_h4 + 1) (by first | decide | omega) (by first | decide | omega) (by first | decide | omega) (by first | decide | omega) (by first | decide | omega)
        · skip
          refine r_ex hX hP 2 (pc' := 26) (st' := [(0, k), (0, l2_h4)]) (lo' := [(0, (2, this)), (1, (0, k)), (2, (0, l2_h4)), (3, (0, l3_h4))]) rfl ?_
          refine r_ic_ne hX hP rfl (tgt := 31) rfl (by first | decide | omega) (by first | decide | omega) (by first | decide | omega) (by first | decide | omega) (fun c7 => ?_) (fun c7 => ?_)
          · skip
            refine r_ex hX hP 1 (pc' := 34) (st' := []) (lo' := [(0, (2, this)), (1, (0, k)), (2, (0, (l2_h4 + 1))), (3, (0, l3_h4))]) rfl ?_
            refine r_hvloc hX (lo1 := [(0, (2, this)), (1, (0, k))]) (lo2 := [(3, (0, l3_h4))]) (i := 2) (x := (l2_h4 + 1)) (fun w8 w8a w8b w8e => ?_)
            refine r_ex hX hP 2 (pc' := 4) (st' := []) (lo' := [(0, (2, this)), (1, (0, k)), (2, (0, w8)), (3, (0, (l3_h4 + 1)))]) rfl ?_
            exact ih4 w8 (l3_h4 + 1) (by first | decide | omega) (by first | decide | omega) (by first | decide | omega) (by first | decide | omega) (by first | decide | omega)
          · skip
            refine r_ex hX hP 1 (pc' := 30) (st' := [(0, l3_h4)]) (lo' := [(0, (2, this)), (1, (0, k)), (2, (0, l2_h4)), (3, (0, l3_h4))]) rfl ?_
            exact r_retI hX hP rfl rfl (by first | decide | omega) (by first | decide | omega) ⟨rfl, rfl, l3_h4, rfl, (by first | decide | omega)⟩
  exact loop4 ((12 - 0) + 1 : Int).toNat 0 0 (by first | decide | omega) (by first | decide | omega) (by first | decide | omega) (by first | decide | omega) (by first | decide | omega)
