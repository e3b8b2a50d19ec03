theorem co_X11_hasOption : Co mX11_hasOption 1 := ⟨(tbg sg6 208 rfl rfl), (tbg sg1 1 rfl rfl), by decide, by decide, by decide +kernel, by decide⟩
theorem cv_X11_348_128 : Cv RX11 348 mX11_hasOption 128 1 := ⟨co_X11_hasOption, (tbg sg6 205 rfl rfl), (tbg sg6 207 rfl rfl), 11, 20, fs_128, RX11, TX11, rfl, by decide, rfl, (tbm 71 (by decide +kernel) rfl)⟩
theorem cv_X11_196_158 : Cv RX11 196 mJx4a65c_get_915e3 158 1 := ⟨co_Jx4a65c_get_915e3, (tbg sg5 5 rfl rfl), (tbg sg5 6 rfl rfl), 0, 3, fs_158, RJx4a65c, TJx4a65c, rfl, by decide, rfl, (tbg sg5 7 rfl rfl)⟩
theorem ck_141_X1 : Ck 141 "ShareLife$Entry" := ⟨2, 9, fs_141, RX1, TX1, rfl, by decide, rfl, Or.inl rfl⟩
theorem fl_X11_283_141 : Fl RX11 283 141 3 (0, 0, 40000) := ⟨2, 9, fs_141, RX1, TX1, rfl, rfl, by decide, rfl, by decide, rfl, cf_X1, (tbg sg3 31 rfl rfl)⟩
theorem co_X9_firstGive : Co mX9_firstGive 0 := ⟨(tbg sg6 237 rfl rfl), (tbg sg1 17 rfl rfl), by decide, by decide, by decide +kernel, by decide⟩
theorem cv_X11_385_136 : Cv RX11 385 mX9_firstGive 136 0 := ⟨co_X9_firstGive, (tbg sg6 234 rfl rfl), (tbg sg6 235 rfl rfl), 10, 16, fs_136, RX9, TX9, rfl, by decide, rfl, (tbg sg6 236 rfl rfl)⟩
theorem fl_X11_292_137 : Fl RX11 292 137 2 (0, 0, 19) := ⟨3, 7, fs_137, RX2, TX2, rfl, rfl, by decide, rfl, by decide, rfl, cf_X2, (tbg sg4 209 rfl rfl)⟩
theorem fl_X11_65_128 : Fl RX11 65 128 15 (2, 134, 0) := ⟨11, 20, fs_128, RX11, TX11, rfl, rfl, by decide, rfl, by decide, rfl, cf_X11, (tbg sg2 163 rfl rfl)⟩
theorem co_X9_addUp : Co mX9_addUp 2 := ⟨(tbg sg7 14 rfl rfl), (tbg sg1 17 rfl rfl), by decide, by decide, by decide +kernel, by decide⟩
theorem cv_X11_401_136 : Cv RX11 401 mX9_addUp 136 2 := ⟨co_X9_addUp, (tbg sg7 11 rfl rfl), (tbg sg7 12 rfl rfl), 10, 16, fs_136, RX9, TX9, rfl, by decide, rfl, (tbg sg7 13 rfl rfl)⟩
theorem fl_X11_380_134 : Fl RX11 380 134 2 (0, 0, 1) := ⟨5, 6, fs_134, RX4, TX4, rfl, rfl, by decide, rfl, by decide, rfl, cf_X4, (tbg sg2 7 rfl rfl)⟩
theorem fl_X11_62_128 : Fl RX11 62 128 14 (2, 134, 0) := ⟨11, 20, fs_128, RX11, TX11, rfl, rfl, by decide, rfl, by decide, rfl, cf_X11, (tbg sg2 162 rfl rfl)⟩
theorem fl_X11_361_134 : Fl RX11 361 134 0 (1, (-9223372036854775808), 9223372036854775807) := ⟨5, 6, fs_134, RX4, TX4, rfl, rfl, by decide, rfl, by decide, rfl, cf_X4, (tbg sg2 3 rfl rfl)⟩
theorem fl_X11_367_134 : Fl RX11 367 134 1 (1, (-9223372036854775808), 9223372036854775807) := ⟨5, 6, fs_134, RX4, TX4, rfl, rfl, by decide, rfl, by decide, rfl, cf_X4, (tbg sg2 5 rfl rfl)⟩
theorem co_X4_times : Co mX4_times 2 := ⟨(tbg sg7 5 rfl rfl), (tbg sg1 7 rfl rfl), by decide, by decide, by decide +kernel, by decide⟩
theorem cv_X11_397_134 : Cv RX11 397 mX4_times 134 2 := ⟨co_X4_times, (tbg sg7 2 rfl rfl), (tbg sg7 3 rfl rfl), 5, 6, fs_134, RX4, TX4, rfl, by decide, rfl, (tbg sg7 4 rfl rfl)⟩
theorem fl_X11_58_128 : Fl RX11 58 128 13 (2, 134, 0) := ⟨11, 20, fs_128, RX11, TX11, rfl, rfl, by decide, rfl, by decide, rfl, cf_X11, (tbg sg2 161 rfl rfl)⟩
theorem co_X4_isLeft : Co mX4_isLeft 0 := ⟨(tbg sg7 24 rfl rfl), (tbg sg1 7 rfl rfl), by decide, by decide, by decide +kernel, by decide⟩
theorem cv_X11_405_134 : Cv RX11 405 mX4_isLeft 134 0 := ⟨co_X4_isLeft, (tbg sg7 21 rfl rfl), (tbg sg7 22 rfl rfl), 5, 6, fs_134, RX4, TX4, rfl, by decide, rfl, (tbg sg7 23 rfl rfl)⟩
theorem fp_X11_380_134 : Fp RX11 380 134 2 (0, 0, 1) := ⟨fl_X11_380_134, 5, 6, fs_134, RX4, TX4, .boolean, rfl, rfl, rfl, by decide +kernel, fun E S x h => zfit h⟩
theorem co_X9_takesAll : Co mX9_takesAll 0 := ⟨(tbg sg7 1 rfl rfl), (tbg sg1 17 rfl rfl), by decide, by decide, by decide +kernel, by decide⟩
theorem cv_X11_388_136 : Cv RX11 388 mX9_takesAll 136 0 := ⟨co_X9_takesAll, (tbg sg6 238 rfl rfl), (tbg sg6 239 rfl rfl), 10, 16, fs_136, RX9, TX9, rfl, by decide, rfl, (tbg sg7 0 rfl rfl)⟩
theorem fl_X11_358_128 : Fl RX11 358 128 2 (0, (-2147483648), 2147483647) := ⟨11, 20, fs_128, RX11, TX11, rfl, rfl, by decide, rfl, by decide, rfl, cf_X11, (tbg sg2 150 rfl rfl)⟩
theorem fp_X11_358_128 : Fp RX11 358 128 2 (0, (-2147483648), 2147483647) := ⟨fl_X11_358_128, 11, 20, fs_128, RX11, TX11, .int, rfl, rfl, rfl, by decide +kernel, fun E S x h => ⟨rfl, rfl⟩⟩
theorem cv_X11_370_134 : Cv RX11 370 mX4_put 134 1 := ⟨co_X4_put, (tbg sg6 217 rfl rfl), (tbg sg6 218 rfl rfl), 5, 6, fs_134, RX4, TX4, rfl, by decide, rfl, (tbg sg6 219 rfl rfl)⟩
theorem fl_X11_391_136 : Fl RX11 391 136 4 (2, 119, 0) := ⟨10, 16, fs_136, RX9, TX9, rfl, rfl, by decide, rfl, by decide, rfl, cf_X9, (tbg sg3 192 rfl rfl)⟩
theorem fl_X11_394_136 : Fl RX11 394 136 6 (2, 119, 0) := ⟨10, 16, fs_136, RX9, TX9, rfl, rfl, by decide, rfl, by decide, rfl, cf_X9, (tbg sg3 201 rfl rfl)⟩
theorem co_X9_isPlain : Co mX9_isPlain 0 := ⟨(tbg sg6 229 rfl rfl), (tbg sg1 17 rfl rfl), by decide, by decide, by decide +kernel, by decide⟩
theorem cv_X11_381_136 : Cv RX11 381 mX9_isPlain 136 0 := ⟨co_X9_isPlain, (tbg sg6 226 rfl rfl), (tbg sg6 227 rfl rfl), 10, 16, fs_136, RX9, TX9, rfl, by decide, rfl, (tbg sg6 228 rfl rfl)⟩
theorem fl_X11_289_141 : Fl RX11 289 141 2 (0, 0, 19) := ⟨2, 9, fs_141, RX1, TX1, rfl, rfl, by decide, rfl, by decide, rfl, cf_X1, (tbg sg3 28 rfl rfl)⟩
theorem fl_X11_140_141 : Fl RX11 140 141 8 (0, 0, 2147483647) := ⟨2, 9, fs_141, RX1, TX1, rfl, rfl, by decide, rfl, by decide, rfl, cf_X1, (tbg sg3 45 rfl rfl)⟩
theorem fl_X11_313_141 : Fl RX11 313 141 4 (0, (-2147483648), 2147483647) := ⟨2, 9, fs_141, RX1, TX1, rfl, rfl, by decide, rfl, by decide, rfl, cf_X1, (tbg sg3 35 rfl rfl)⟩
theorem cu_X11_282_141 : Cu RX11 282 mX10_counts ⟨RX1, "counts", "(I)Z"⟩ 141 1 := ⟨co_X10_counts, rfl, 2, 9, fs_141, RX1, TX1, rfl, by decide, rfl, tbs [1375, 1376, 1377, 1203, 157] (by decide +kernel)⟩
theorem co_X11_nextEvent : Co mX11_nextEvent 2 := ⟨(tbg sg6 225 rfl rfl), (tbg sg1 1 rfl rfl), by decide, by decide, by decide +kernel, by decide⟩
theorem cv_X11_373_128 : Cv RX11 373 mX11_nextEvent 128 2 := ⟨co_X11_nextEvent, (tbg sg6 222 rfl rfl), (tbg sg6 224 rfl rfl), 11, 20, fs_128, RX11, TX11, rfl, by decide, rfl, (tbm 74 (by decide +kernel) rfl)⟩
theorem co_X11_adjust : Co mX11_adjust 1 := ⟨(tbg sg6 233 rfl rfl), (tbg sg1 1 rfl rfl), by decide, by decide, by decide +kernel, by decide⟩
theorem cv_X11_376_128 : Cv RX11 376 mX11_adjust 128 1 := ⟨co_X11_adjust, (tbg sg6 230 rfl rfl), (tbg sg6 232 rfl rfl), 11, 20, fs_128, RX11, TX11, rfl, by decide, rfl, (tbm 75 (by decide +kernel) rfl)⟩
theorem co_X11_isOptionDay : Co mX11_isOptionDay 2 := ⟨(tbg sg6 212 rfl rfl), (tbg sg1 1 rfl rfl), by decide, by decide, by decide +kernel, by decide⟩
theorem cv_X11_351_128 : Cv RX11 351 mX11_isOptionDay 128 2 := ⟨co_X11_isOptionDay, (tbg sg6 209 rfl rfl), (tbg sg6 211 rfl rfl), 11, 20, fs_128, RX11, TX11, rfl, by decide, rfl, (tbm 72 (by decide +kernel) rfl)⟩
theorem co_X11_follow : Co mX11_follow 2 := ⟨(tbg sg6 216 rfl rfl), (tbg sg1 1 rfl rfl), by decide, by decide, by decide +kernel, by decide⟩
theorem cv_X11_354_128 : Cv RX11 354 mX11_follow 128 2 := ⟨co_X11_follow, (tbg sg6 213 rfl rfl), (tbg sg6 215 rfl rfl), 11, 20, fs_128, RX11, TX11, rfl, by decide, rfl, (tbm 73 (by decide +kernel) rfl)⟩
theorem fp_X11_364_128 : Fp RX11 364 128 3 (1, (-9223372036854775808), 9223372036854775807) := ⟨fl_X11_364_128, 11, 20, fs_128, RX11, TX11, .long, rfl, rfl, rfl, by decide +kernel, fun E S x h => ⟨rfl, rfl⟩⟩
theorem fp_X11_9_128 : Fp RX11 9 128 4 (1, (-9223372036854775808), 9223372036854775807) := ⟨fl_X11_9_128, 11, 20, fs_128, RX11, TX11, .long, rfl, rfl, rfl, by decide +kernel, fun E S x h => ⟨rfl, rfl⟩⟩
theorem fl_X11_51_128 : Fl RX11 51 128 12 (2, 94, 0) := ⟨11, 20, fs_128, RX11, TX11, rfl, rfl, by decide, rfl, by decide, rfl, cf_X11, (tbg sg2 160 rfl rfl)⟩
theorem cv_X11_413_136 : Cv RX11 413 mX9_taken 136 1 := ⟨co_X9_taken, (tbg sg7 51 rfl rfl), (tbg sg5 206 rfl rfl), 10, 16, fs_136, RX9, TX9, rfl, by decide, rfl, (tbg sg5 207 rfl rfl)⟩
theorem co_X11_valueOf : Co mX11_valueOf 3 := ⟨(tbg sg7 50 rfl rfl), (tbg sg1 1 rfl rfl), by decide, by decide, by decide +kernel, by decide⟩
theorem cv_X11_409_128 : Cv RX11 409 mX11_valueOf 128 3 := ⟨co_X11_valueOf, (tbg sg7 47 rfl rfl), (tbg sg7 49 rfl rfl), 11, 20, fs_128, RX11, TX11, rfl, by decide, rfl, (tbm 76 (by decide +kernel) rfl)⟩
theorem fl_X11_48_128 : Fl RX11 48 128 11 (2, 159, 0) := ⟨11, 20, fs_128, RX11, TX11, rfl, rfl, by decide, rfl, by decide, rfl, cf_X11, (tbg sg2 159 rfl rfl)⟩
theorem cv_X11_125_159 : Cv RX11 125 mJx4a65c_size_8abf5 159 0 := ⟨co_Jx4a65c_size_8abf5, (tbg sg3 12 rfl rfl), (tbg sg3 13 rfl rfl), 0, 3, fs_159, RJx4a65c, TJx4a65c, rfl, by decide, rfl, (tbg sg3 14 rfl rfl)⟩
theorem cv_X11_196_159 : Cv RX11 196 mJx4a65c_get_915e3 159 1 := ⟨co_Jx4a65c_get_915e3, (tbg sg5 5 rfl rfl), (tbg sg5 6 rfl rfl), 0, 3, fs_159, RJx4a65c, TJx4a65c, rfl, by decide, rfl, (tbg sg5 7 rfl rfl)⟩
theorem co_X11_nameOf : Co mX11_nameOf 2 := ⟨(tbg sg7 67 rfl rfl), (tbg sg1 1 rfl rfl), by decide, by decide, by decide +kernel, by decide⟩
theorem cv_X11_417_128 : Cv RX11 417 mX11_nameOf 128 2 := ⟨co_X11_nameOf, (tbg sg7 64 rfl rfl), (tbg sg7 66 rfl rfl), 11, 20, fs_128, RX11, TX11, rfl, by decide, rfl, (tbm 77 (by decide +kernel) rfl)⟩
theorem fl_X11_78_128 : Fl RX11 78 128 18 (2, 132, 0) := ⟨11, 20, fs_128, RX11, TX11, rfl, rfl, by decide, rfl, by decide, rfl, cf_X11, (tbg sg2 166 rfl rfl)⟩
theorem fl_X11_420_132 : Fl RX11 420 132 0 (0, 0, 12) := ⟨8, 17, fs_132, RX7, TX7, rfl, rfl, by decide, rfl, by decide, rfl, cf_X7, (tbg sg2 92 rfl rfl)⟩
theorem co_X7_add : Co mX7_add 6 := ⟨(tbg sg7 79 rfl rfl), (tbg sg1 9 rfl rfl), by decide, by decide, by decide +kernel, by decide⟩
theorem cv_X11_421_132 : Cv RX11 421 mX7_add 132 6 := ⟨co_X7_add, (tbg sg7 76 rfl rfl), (tbg sg7 77 rfl rfl), 8, 17, fs_132, RX7, TX7, rfl, by decide, rfl, (tbg sg7 78 rfl rfl)⟩
theorem co_X7_solve : Co mX7_solve 6 := ⟨(tbg sg7 87 rfl rfl), (tbg sg1 9 rfl rfl), by decide, by decide, by decide +kernel, by decide⟩
theorem cv_X11_424_132 : Cv RX11 424 mX7_solve 132 6 := ⟨co_X7_solve, (tbg sg7 84 rfl rfl), (tbg sg7 85 rfl rfl), 8, 17, fs_132, RX7, TX7, rfl, by decide, rfl, (tbg sg7 86 rfl rfl)⟩
theorem fl_X11_428_132 : Fl RX11 428 132 1 (0, (-2147483648), 2147483647) := ⟨8, 17, fs_132, RX7, TX7, rfl, rfl, by decide, rfl, by decide, rfl, cf_X7, (tbg sg2 94 rfl rfl)⟩
theorem co_X7_keep : Co mX7_keep 0 := ⟨(tbg sg7 110 rfl rfl), (tbg sg1 9 rfl rfl), by decide, by decide, by decide +kernel, by decide⟩
theorem cv_X11_431_132 : Cv RX11 431 mX7_keep 132 0 := ⟨co_X7_keep, (tbg sg7 107 rfl rfl), (tbg sg7 108 rfl rfl), 8, 17, fs_132, RX7, TX7, rfl, by decide, rfl, (tbg sg7 109 rfl rfl)⟩
theorem fl_X11_434_132 : Fl RX11 434 132 3 (0, (-2147483648), 2147483647) := ⟨8, 17, fs_132, RX7, TX7, rfl, rfl, by decide, rfl, by decide, rfl, cf_X7, (tbg sg2 98 rfl rfl)⟩
theorem cs_X11_437 : Cs RX11 437 mJ6_bitCount_0f7a4 1 := ⟨co_J6_bitCount_0f7a4, (tbg sg7 111 rfl rfl), (tbg sg7 102 rfl rfl)⟩
theorem fl_X11_442_132 : Fl RX11 442 132 2 (0, (-2147483648), 2147483647) := ⟨8, 17, fs_132, RX7, TX7, rfl, rfl, by decide, rfl, by decide, rfl, cf_X7, (tbg sg2 96 rfl rfl)⟩
theorem co_X7_inSet : Co mX7_inSet 1 := ⟨(tbg sg7 123 rfl rfl), (tbg sg1 9 rfl rfl), by decide, by decide, by decide +kernel, by decide⟩
theorem cv_X11_445_132 : Cv RX11 445 mX7_inSet 132 1 := ⟨co_X7_inSet, (tbg sg7 120 rfl rfl), (tbg sg7 121 rfl rfl), 8, 17, fs_132, RX7, TX7, rfl, by decide, rfl, (tbg sg7 122 rfl rfl)⟩
set_option maxRecDepth 100000 in
set_option maxHeartbeats 4000000 in
theorem c_X11_isOptionDay (E : En) (S : Sg) (G : Gh) (this : Int) (option_ : Int) (day : Int) (hS : S this = 128) (option__a : (-2147483648) ≤ option_) (option__b : option_ ≤ 2147483647) (day_a : (-2147483648) ≤ day) (day_b : day ≤ 2147483647) (ci : CI E S G) : Calls E mX11_isOptionDay [(2, this), (0, option_), (0, day)] S G 3 0 0 (fun r S' G' => S = S' ∧ G = G' ∧ ∃ z : Int, r = some (0, z) ∧ 0 ≤ z ∧ z ≤ 1) := by
  refine calls_by [(0, (2, this)), (1, (0, option_)), (2, (0, day))] rfl rfl (Nat.le_of_ble_eq_true rfl) (fun X hX => ?_)
  have hP := hPX11_isOptionDay
  refine r_ex hX hP 1 (pc' := 1) (st' := [(0, day)]) (lo' := [(0, (2, this)), (1, (0, option_)), (2, (0, day))]) rfl ?_
  refine r_callS gd hX hP rfl cs_X11_86 (d' := 1) (mc' := 0) (ms' := 0) (as' := [(0, day)]) (st := []) (by first | decide | omega) (by first | decide | omega) (by first | decide | omega) rfl rfl (Nat.le_of_ble_eq_true rfl) (c_X11_isDay E S G day (by first | decide | omega) (by first | decide | omega)) ?_
  rintro _ _ _ ⟨rfl, rfl, z1, rfl, (⟨rfl, f2, f3⟩ | ⟨rfl, f4⟩)⟩
  · skip
    refine r_if_eq hX hP rfl (tgt := 37) rfl (by first | decide | omega) (by first | decide | omega) (fun c5 => ?_) (fun c5 => ?_)
    · skip
      exfalso; omega
    · skip
      refine r_ex hX hP 2 (pc' := 9) (st' := [(0, option_), (2, this)]) (lo' := [(0, (2, this)), (1, (0, option_)), (2, (0, day))]) rfl ?_
      refine r_peekR hX (tl_128 10 rfl (by decide)) hS (fun opp6 opp6e opp6s => ?_)
      refine r_peekI hX (tl_158 2 rfl (by decide)) opp6s (fun sip7 sip7e sip7a sip7b => ?_)
      refine r_callV gd hX hP rfl cv_X11_348_128 hS (d' := 1) (mc' := 0) (ms' := 0) (as' := [(0, option_)]) (st := []) (by first | decide | omega) (by first | decide | omega) (by first | decide | omega) rfl rfl (Nat.le_of_ble_eq_true rfl) (c_X11_hasOption E S G this option_ hS opp6 opp6e opp6s sip7 sip7e (by first | decide | omega) (by first | decide | omega)) ?_
      rintro _ _ _ ⟨rfl, rfl, z8, rfl, (⟨rfl, f9, f10⟩ | rfl)⟩
      · skip
        refine r_if_eq hX hP rfl (tgt := 37) rfl (by first | decide | omega) (by first | decide | omega) (fun c11 => ?_) (fun c11 => ?_)
        · skip
          exfalso; omega
        · skip
          refine r_ex hX hP 2 (pc' := 17) (st' := [(2, this), (0, day)]) (lo' := [(0, (2, this)), (1, (0, option_)), (2, (0, day))]) rfl ?_
          refine r_getKR hX hP rfl fl_X11_45_128 hS (x := opp6) opp6e ?_
          refine r_ex hX hP 1 (pc' := 21) (st' := [(0, option_), (2, opp6), (0, day)]) (lo' := [(0, (2, this)), (1, (0, option_)), (2, (0, day))]) rfl ?_
          refine r_callV gd hX hP rfl cv_X11_196_158 opp6s (d' := 2) (mc' := 0) (ms' := 0) (as' := [(0, option_)]) (st := [(0, day)]) (by first | decide | omega) (by first | decide | omega) (by first | decide | omega) rfl rfl (Nat.le_of_ble_eq_true rfl) (c_get_Lop E S G opp6 option_ opp6s sip7 sip7e (by first | decide | omega) (by first | decide | omega) (by first | decide | omega) ci) ?_
          rintro _ _ _ ⟨rfl, rfl, z12, rfl, z12s⟩
          refine r_cast hX hP rfl (tbg sg3 16 rfl rfl) ck_141_X1 z12s ?_
          refine r_getI hX hP rfl fl_X11_283_141 z12s (fun df13 df13e df13a df13b => ?_)
          refine r_ic_lt hX hP rfl (tgt := 37) rfl (by first | decide | omega) (by first | decide | omega) (by first | decide | omega) (by first | decide | omega) (fun c14 => ?_) (fun c14 => ?_)
          · skip
            refine r_ex hX hP 1 (pc' := 38) (st' := [(0, 0)]) (lo' := [(0, (2, this)), (1, (0, option_)), (2, (0, day))]) rfl ?_
            exact r_retZ hX hP rfl rfl (by first | decide | omega) (by first | decide | omega) (by first | decide | omega) (by first | decide | omega) ⟨rfl, rfl, 0, rfl, (by first | decide | omega)⟩
          · skip
            refine r_ex hX hP 2 (pc' := 38) (st' := [(0, 1)]) (lo' := [(0, (2, this)), (1, (0, option_)), (2, (0, day))]) rfl ?_
            exact r_retZ hX hP rfl rfl (by first | decide | omega) (by first | decide | omega) (by first | decide | omega) (by first | decide | omega) ⟨rfl, rfl, 1, rfl, (by first | decide | omega)⟩
      · skip
        refine r_if_eq hX hP rfl (tgt := 37) rfl (by first | decide | omega) (by first | decide | omega) (fun c15 => ?_) (fun c15 => ?_)
        · skip
          refine r_ex hX hP 1 (pc' := 38) (st' := [(0, 0)]) (lo' := [(0, (2, this)), (1, (0, option_)), (2, (0, day))]) rfl ?_
          exact r_retZ hX hP rfl rfl (by first | decide | omega) (by first | decide | omega) (by first | decide | omega) (by first | decide | omega) ⟨rfl, rfl, 0, rfl, (by first | decide | omega)⟩
        · skip
          exfalso; omega
  · skip
    refine r_if_eq hX hP rfl (tgt := 37) rfl (by first | decide | omega) (by first | decide | omega) (fun c16 => ?_) (fun c16 => ?_)
    · skip
      refine r_ex hX hP 1 (pc' := 38) (st' := [(0, 0)]) (lo' := [(0, (2, this)), (1, (0, option_)), (2, (0, day))]) rfl ?_
      exact r_retZ hX hP rfl rfl (by first | decide | omega) (by first | decide | omega) (by first | decide | omega) (by first | decide | omega) ⟨rfl, rfl, 0, rfl, (by first | decide | omega)⟩
    · skip
      exfalso; omega
set_option maxRecDepth 100000 in
set_option maxHeartbeats 4000000 in
theorem c_X11_adjust (E : En) (S : Sg) (G : Gh) (this : Int) (happened : Int) (hS : S this = 128) (happened_s : S happened = 137) : Calls E mX11_adjust [(2, this), (2, happened)] S G 6 0 0 (fun r S' G' => S = S' ∧ (∃ G1, hw [(99, -1), (128, 2), (134, 0), (134, 1), (134, 2)] G G1 = G') ∧ ∃ z : Int, r = some (0, z) ∧ 0 ≤ z ∧ z ≤ 1) := by
  refine calls_by [(0, (2, this)), (1, (2, happened))] rfl rfl (Nat.le_of_ble_eq_true rfl) (fun X hX => ?_)
  have hP := hPX11_adjust
  refine r_ex hX hP 1 (pc' := 1) (st' := [(2, happened)]) (lo' := [(0, (2, this)), (1, (2, happened))]) rfl ?_
  refine r_getR hX hP rfl fl_X11_200_137 happened_s (fun tf1 tf1e tf1s => ?_)
  refine r_ex hX hP 2 (pc' := 6) (st' := [(2, tf1)]) (lo' := [(0, (2, this)), (1, (2, happened)), (2, (2, tf1))]) rfl ?_
  refine r_callV gd hX hP rfl cv_X11_385_136 tf1s (d' := 0) (mc' := 0) (ms' := 0) (as' := []) (st := []) (by first | decide | omega) (by first | decide | omega) (by first | decide | omega) rfl rfl (Nat.le_of_ble_eq_true rfl) (c_X9_firstGive E S G tf1  tf1s) ?_
  rintro _ _ _ ⟨rfl, rfl, z2, rfl, z2a, z2b⟩
  refine r_ex hX hP 3 (pc' := 12) (st' := [(0, (-1)), (0, z2)]) (lo' := [(0, (2, this)), (1, (2, happened)), (2, (2, tf1)), (3, (0, z2))]) rfl ?_
  refine r_ic_eq hX hP rfl (tgt := 64) rfl (by first | decide | omega) (by first | decide | omega) (by first | decide | omega) (by first | decide | omega) (fun c3 => ?_) (fun c3 => ?_)
  · skip
    refine r_ex hX hP 2 (pc' := 66) (st' := [(2, happened), (2, tf1)]) (lo' := [(0, (2, this)), (1, (2, happened)), (2, (2, tf1)), (3, (0, z2))]) rfl ?_
    refine r_getI hX hP rfl fl_X11_292_137 happened_s (fun pf4 pf4e pf4a pf4b => ?_)
    refine r_ex hX hP 1 (pc' := 70) (st' := [(2, this), (0, pf4), (2, tf1)]) (lo' := [(0, (2, this)), (1, (2, happened)), (2, (2, tf1)), (3, (0, z2))]) rfl ?_
    refine r_getR hX hP rfl fl_X11_65_128 hS (fun ff5 ff5e ff5s => ?_)
    refine r_callV gd hX hP rfl cv_X11_401_136 tf1s (d' := 5) (mc' := 0) (ms' := 0) (as' := [(0, pf4), (2, ff5)]) (st := []) (by first | decide | omega) (by first | decide | omega) (by first | decide | omega) rfl rfl (Nat.le_of_ble_eq_true rfl) (c_X9_addUp E S G tf1 pf4 ff5 tf1s ff5s (by first | decide | omega) (by first | decide | omega)) ?_
    rintro _ _ _ ⟨rfl, ⟨G6, rfl⟩, rfl, -⟩
    refine r_ex hX hP 1 (pc' := 77) (st' := [(2, this)]) (lo' := [(0, (2, this)), (1, (2, happened)), (2, (2, tf1)), (3, (0, z2))]) rfl ?_
    refine r_getKR hX hP rfl fl_X11_65_128 hS (x := ff5) ff5e ?_
    refine r_getI hX hP rfl fl_X11_380_134 ff5s (fun of7 of7e of7a of7b => ?_)
    refine r_if_eq hX hP rfl (tgt := 97) rfl (by first | decide | omega) (by first | decide | omega) (fun c8 => ?_) (fun c8 => ?_)
    · skip
      refine r_ex hX hP 1 (pc' := 98) (st' := [(2, this)]) (lo' := [(0, (2, this)), (1, (2, happened)), (2, (2, tf1)), (3, (0, z2))]) rfl ?_
      refine r_getR hX hP rfl fl_X11_62_128 hS (fun nf9 nf9e nf9s => ?_)
      refine r_ex hX hP 1 (pc' := 102) (st' := [(2, this), (2, nf9)]) (lo' := [(0, (2, this)), (1, (2, happened)), (2, (2, tf1)), (3, (0, z2))]) rfl ?_
      refine r_getKR hX hP rfl fl_X11_65_128 hS (x := ff5) ff5e ?_
      refine r_getL hX hP rfl fl_X11_361_134 ff5s (fun af10 af10e af10a af10b => ?_)
      refine r_ex hX hP 1 (pc' := 109) (st' := [(2, this), (1, af10), (2, nf9)]) (lo' := [(0, (2, this)), (1, (2, happened)), (2, (2, tf1)), (3, (0, z2))]) rfl ?_
      refine r_getKR hX hP rfl fl_X11_65_128 hS (x := ff5) ff5e ?_
      refine r_getL hX hP rfl fl_X11_367_134 ff5s (fun bf11 bf11e bf11a bf11b => ?_)
      refine r_callV gd hX hP rfl cv_X11_397_134 nf9s (d' := 4) (mc' := 0) (ms' := 0) (as' := [(1, af10), (1, bf11)]) (st := []) (by first | decide | omega) (by first | decide | omega) (by first | decide | omega) rfl rfl (Nat.le_of_ble_eq_true rfl) (c_X4_times E S (hw [(99, -1), (134, 0), (134, 1), (134, 2)] G G6) nf9 af10 bf11 nf9s (by first | decide | omega) (by first | decide | omega) (by first | decide | omega) (by first | decide | omega)) ?_
      rintro _ _ _ ⟨rfl, ⟨G12, rfl⟩, rfl, -⟩
      refine r_ex hX hP 1 (pc' := 119) (st' := [(2, this)]) (lo' := [(0, (2, this)), (1, (2, happened)), (2, (2, tf1)), (3, (0, z2))]) rfl ?_
      refine r_getR hX hP rfl fl_X11_58_128 hS (fun sf13 sf13e sf13s => ?_)
      refine r_ex hX hP 1 (pc' := 123) (st' := [(2, this), (2, sf13)]) (lo' := [(0, (2, this)), (1, (2, happened)), (2, (2, tf1)), (3, (0, z2))]) rfl ?_
      refine r_getKR hX hP rfl fl_X11_65_128 hS (x := ff5) ff5e ?_
      refine r_getL hX hP rfl fl_X11_367_134 ff5s (fun bf14 bf14e bf14a bf14b => ?_)
      refine r_ex hX hP 1 (pc' := 130) (st' := [(2, this), (1, bf14), (2, sf13)]) (lo' := [(0, (2, this)), (1, (2, happened)), (2, (2, tf1)), (3, (0, z2))]) rfl ?_
      refine r_getKR hX hP rfl fl_X11_65_128 hS (x := ff5) ff5e ?_
      refine r_getL hX hP rfl fl_X11_361_134 ff5s (fun af15 af15e af15a af15b => ?_)
      refine r_callV gd hX hP rfl cv_X11_397_134 sf13s (d' := 4) (mc' := 0) (ms' := 0) (as' := [(1, bf14), (1, af15)]) (st := []) (by first | decide | omega) (by first | decide | omega) (by first | decide | omega) rfl rfl (Nat.le_of_ble_eq_true rfl) (c_X4_times E S (hw [(134, 0), (134, 1), (134, 2)] (hw [(99, -1), (134, 0), (134, 1), (134, 2)] G G6) G12) sf13 bf14 af15 sf13s (by first | decide | omega) (by first | decide | omega) (by first | decide | omega) (by first | decide | omega)) ?_
      rintro _ _ _ ⟨rfl, ⟨G16, rfl⟩, rfl, -⟩
      refine r_ex hX hP 1 (pc' := 140) (st' := [(2, this)]) (lo' := [(0, (2, this)), (1, (2, happened)), (2, (2, tf1)), (3, (0, z2))]) rfl ?_
      refine r_getKR hX hP rfl fl_X11_65_128 hS (x := ff5) ff5e ?_
      refine r_callV gd hX hP rfl cv_X11_405_134 ff5s (d' := 1) (mc' := 0) (ms' := 0) (as' := []) (st := []) (by first | decide | omega) (by first | decide | omega) (by first | decide | omega) rfl rfl (Nat.le_of_ble_eq_true rfl) (c_X4_isLeft E S (hw [(134, 0), (134, 1), (134, 2)] (hw [(134, 0), (134, 1), (134, 2)] (hw [(99, -1), (134, 0), (134, 1), (134, 2)] G G6) G12) G16) ff5  ff5s) ?_
      rintro _ _ _ ⟨rfl, rfl, z17, rfl, z17a, z17b⟩
      exact r_retZ hX hP rfl rfl (by first | decide | omega) (by first | decide | omega) (by first | decide | omega) (by first | decide | omega) ⟨rfl, ⟨_, (hw_sub (hw_sub (hw_sub (hw_refl _ _) rfl) rfl) rfl).symm⟩, z17, rfl, (by first | decide | omega)⟩
    · skip
      refine r_ex hX hP 1 (pc' := 87) (st' := [(2, this)]) (lo' := [(0, (2, this)), (1, (2, happened)), (2, (2, tf1)), (3, (0, z2))]) rfl ?_
      refine r_getR hX hP rfl fl_X11_62_128 hS (fun nf18 nf18e nf18s => ?_)
      refine r_ex hX hP 1 (pc' := 91) (st' := [(0, 1), (2, nf18)]) (lo' := [(0, (2, this)), (1, (2, happened)), (2, (2, tf1)), (3, (0, z2))]) rfl ?_
      refine r_putIK hX hP rfl fp_X11_380_134 nf18s (by first | decide | omega) (by first | decide | omega) (fun h19 => ?_)
      refine r_ex hX hP 2 (pc' := 140) (st' := [(2, this)]) (lo' := [(0, (2, this)), (1, (2, happened)), (2, (2, tf1)), (3, (0, z2))]) rfl ?_
      refine r_getKR hX hP rfl fl_X11_65_128 hS (x := ff5) ff5e ?_
      refine r_callV gd hX hP rfl cv_X11_405_134 ff5s (d' := 1) (mc' := 0) (ms' := 0) (as' := []) (st := []) (by first | decide | omega) (by first | decide | omega) (by first | decide | omega) rfl rfl (Nat.le_of_ble_eq_true rfl) (c_X4_isLeft E S (up (hw [(99, -1), (134, 0), (134, 1), (134, 2)] G G6) 134 nf18 2 1) ff5  ff5s) ?_
      rintro _ _ _ ⟨rfl, rfl, z20, rfl, z20a, z20b⟩
      exact r_retZ hX hP rfl rfl (by first | decide | omega) (by first | decide | omega) (by first | decide | omega) (by first | decide | omega) ⟨rfl, ⟨_, (hw_up (hw_sub (hw_refl _ _) rfl) rfl).symm⟩, z20, rfl, (by first | decide | omega)⟩
  · skip
    refine r_ex hX hP 1 (pc' := 16) (st' := [(2, tf1)]) (lo' := [(0, (2, this)), (1, (2, happened)), (2, (2, tf1)), (3, (0, z2))]) rfl ?_
    refine r_callV gd hX hP rfl cv_X11_388_136 tf1s (d' := 0) (mc' := 0) (ms' := 0) (as' := []) (st := []) (by first | decide | omega) (by first | decide | omega) (by first | decide | omega) rfl rfl (Nat.le_of_ble_eq_true rfl) (c_X9_takesAll E S G tf1  tf1s) ?_
    rintro _ _ _ ⟨rfl, rfl, z21, rfl, z21a, z21b⟩
    refine r_if_eq hX hP rfl (tgt := 64) rfl (by first | decide | omega) (by first | decide | omega) (fun c22 => ?_) (fun c22 => ?_)
    · skip
      refine r_ex hX hP 2 (pc' := 66) (st' := [(2, happened), (2, tf1)]) (lo' := [(0, (2, this)), (1, (2, happened)), (2, (2, tf1)), (3, (0, z2))]) rfl ?_
      refine r_getI hX hP rfl fl_X11_292_137 happened_s (fun pf23 pf23e pf23a pf23b => ?_)
      refine r_ex hX hP 1 (pc' := 70) (st' := [(2, this), (0, pf23), (2, tf1)]) (lo' := [(0, (2, this)), (1, (2, happened)), (2, (2, tf1)), (3, (0, z2))]) rfl ?_
      refine r_getR hX hP rfl fl_X11_65_128 hS (fun ff24 ff24e ff24s => ?_)
      refine r_callV gd hX hP rfl cv_X11_401_136 tf1s (d' := 5) (mc' := 0) (ms' := 0) (as' := [(0, pf23), (2, ff24)]) (st := []) (by first | decide | omega) (by first | decide | omega) (by first | decide | omega) rfl rfl (Nat.le_of_ble_eq_true rfl) (c_X9_addUp E S G tf1 pf23 ff24 tf1s ff24s (by first | decide | omega) (by first | decide | omega)) ?_
      rintro _ _ _ ⟨rfl, ⟨G25, rfl⟩, rfl, -⟩
      refine r_ex hX hP 1 (pc' := 77) (st' := [(2, this)]) (lo' := [(0, (2, this)), (1, (2, happened)), (2, (2, tf1)), (3, (0, z2))]) rfl ?_
      refine r_getKR hX hP rfl fl_X11_65_128 hS (x := ff24) ff24e ?_
      refine r_getI hX hP rfl fl_X11_380_134 ff24s (fun of26 of26e of26a of26b => ?_)
      refine r_if_eq hX hP rfl (tgt := 97) rfl (by first | decide | omega) (by first | decide | omega) (fun c27 => ?_) (fun c27 => ?_)
      · skip
        refine r_ex hX hP 1 (pc' := 98) (st' := [(2, this)]) (lo' := [(0, (2, this)), (1, (2, happened)), (2, (2, tf1)), (3, (0, z2))]) rfl ?_
        refine r_getR hX hP rfl fl_X11_62_128 hS (fun nf28 nf28e nf28s => ?_)
        refine r_ex hX hP 1 (pc' := 102) (st' := [(2, this), (2, nf28)]) (lo' := [(0, (2, this)), (1, (2, happened)), (2, (2, tf1)), (3, (0, z2))]) rfl ?_
        refine r_getKR hX hP rfl fl_X11_65_128 hS (x := ff24) ff24e ?_
        refine r_getL hX hP rfl fl_X11_361_134 ff24s (fun af29 af29e af29a af29b => ?_)
        refine r_ex hX hP 1 (pc' := 109) (st' := [(2, this), (1, af29), (2, nf28)]) (lo' := [(0, (2, this)), (1, (2, happened)), (2, (2, tf1)), (3, (0, z2))]) rfl ?_
        refine r_getKR hX hP rfl fl_X11_65_128 hS (x := ff24) ff24e ?_
        refine r_getL hX hP rfl fl_X11_367_134 ff24s (fun bf30 bf30e bf30a bf30b => ?_)
        refine r_callV gd hX hP rfl cv_X11_397_134 nf28s (d' := 4) (mc' := 0) (ms' := 0) (as' := [(1, af29), (1, bf30)]) (st := []) (by first | decide | omega) (by first | decide | omega) (by first | decide | omega) rfl rfl (Nat.le_of_ble_eq_true rfl) (c_X4_times E S (hw [(99, -1), (134, 0), (134, 1), (134, 2)] G G25) nf28 af29 bf30 nf28s (by first | decide | omega) (by first | decide | omega) (by first | decide | omega) (by first | decide | omega)) ?_
        rintro _ _ _ ⟨rfl, ⟨G31, rfl⟩, rfl, -⟩
        refine r_ex hX hP 1 (pc' := 119) (st' := [(2, this)]) (lo' := [(0, (2, this)), (1, (2, happened)), (2, (2, tf1)), (3, (0, z2))]) rfl ?_
        refine r_getR hX hP rfl fl_X11_58_128 hS (fun sf32 sf32e sf32s => ?_)
        refine r_ex hX hP 1 (pc' := 123) (st' := [(2, this), (2, sf32)]) (lo' := [(0, (2, this)), (1, (2, happened)), (2, (2, tf1)), (3, (0, z2))]) rfl ?_
        refine r_getKR hX hP rfl fl_X11_65_128 hS (x := ff24) ff24e ?_
        refine r_getL hX hP rfl fl_X11_367_134 ff24s (fun bf33 bf33e bf33a bf33b => ?_)
        refine r_ex hX hP 1 (pc' := 130) (st' := [(2, this), (1, bf33), (2, sf32)]) (lo' := [(0, (2, this)), (1, (2, happened)), (2, (2, tf1)), (3, (0, z2))]) rfl ?_
        refine r_getKR hX hP rfl fl_X11_65_128 hS (x := ff24) ff24e ?_
        refine r_getL hX hP rfl fl_X11_361_134 ff24s (fun af34 af34e af34a af34b => ?_)
        refine r_callV gd hX hP rfl cv_X11_397_134 sf32s (d' := 4) (mc' := 0) (ms' := 0) (as' := [(1, bf33), (1, af34)]) (st := []) (by first | decide | omega) (by first | decide | omega) (by first | decide | omega) rfl rfl (Nat.le_of_ble_eq_true rfl) (c_X4_times E S (hw [(134, 0), (134, 1), (134, 2)] (hw [(99, -1), (134, 0), (134, 1), (134, 2)] G G25) G31) sf32 bf33 af34 sf32s (by first | decide | omega) (by first | decide | omega) (by first | decide | omega) (by first | decide | omega)) ?_
        rintro _ _ _ ⟨rfl, ⟨G35, rfl⟩, rfl, -⟩
        refine r_ex hX hP 1 (pc' := 140) (st' := [(2, this)]) (lo' := [(0, (2, this)), (1, (2, happened)), (2, (2, tf1)), (3, (0, z2))]) rfl ?_
        refine r_getKR hX hP rfl fl_X11_65_128 hS (x := ff24) ff24e ?_
        refine r_callV gd hX hP rfl cv_X11_405_134 ff24s (d' := 1) (mc' := 0) (ms' := 0) (as' := []) (st := []) (by first | decide | omega) (by first | decide | omega) (by first | decide | omega) rfl rfl (Nat.le_of_ble_eq_true rfl) (c_X4_isLeft E S (hw [(134, 0), (134, 1), (134, 2)] (hw [(134, 0), (134, 1), (134, 2)] (hw [(99, -1), (134, 0), (134, 1), (134, 2)] G G25) G31) G35) ff24  ff24s) ?_
        rintro _ _ _ ⟨rfl, rfl, z36, rfl, z36a, z36b⟩
        exact r_retZ hX hP rfl rfl (by first | decide | omega) (by first | decide | omega) (by first | decide | omega) (by first | decide | omega) ⟨rfl, ⟨_, (hw_sub (hw_sub (hw_sub (hw_refl _ _) rfl) rfl) rfl).symm⟩, z36, rfl, (by first | decide | omega)⟩
      · skip
        refine r_ex hX hP 1 (pc' := 87) (st' := [(2, this)]) (lo' := [(0, (2, this)), (1, (2, happened)), (2, (2, tf1)), (3, (0, z2))]) rfl ?_
        refine r_getR hX hP rfl fl_X11_62_128 hS (fun nf37 nf37e nf37s => ?_)
        refine r_ex hX hP 1 (pc' := 91) (st' := [(0, 1), (2, nf37)]) (lo' := [(0, (2, this)), (1, (2, happened)), (2, (2, tf1)), (3, (0, z2))]) rfl ?_
        refine r_putIK hX hP rfl fp_X11_380_134 nf37s (by first | decide | omega) (by first | decide | omega) (fun h38 => ?_)
        refine r_ex hX hP 2 (pc' := 140) (st' := [(2, this)]) (lo' := [(0, (2, this)), (1, (2, happened)), (2, (2, tf1)), (3, (0, z2))]) rfl ?_
        refine r_getKR hX hP rfl fl_X11_65_128 hS (x := ff24) ff24e ?_
        refine r_callV gd hX hP rfl cv_X11_405_134 ff24s (d' := 1) (mc' := 0) (ms' := 0) (as' := []) (st := []) (by first | decide | omega) (by first | decide | omega) (by first | decide | omega) rfl rfl (Nat.le_of_ble_eq_true rfl) (c_X4_isLeft E S (up (hw [(99, -1), (134, 0), (134, 1), (134, 2)] G G25) 134 nf37 2 1) ff24  ff24s) ?_
        rintro _ _ _ ⟨rfl, rfl, z39, rfl, z39a, z39b⟩
        exact r_retZ hX hP rfl rfl (by first | decide | omega) (by first | decide | omega) (by first | decide | omega) (by first | decide | omega) ⟨rfl, ⟨_, (hw_up (hw_sub (hw_refl _ _) rfl) rfl).symm⟩, z39, rfl, (by first | decide | omega)⟩
    · skip
      refine r_ex hX hP 2 (pc' := 24) (st' := [(2, tf1), (2, this)]) (lo' := [(0, (2, this)), (1, (2, happened)), (2, (2, tf1)), (3, (0, z2))]) rfl ?_
      refine r_getR hX hP rfl fl_X11_330_136 tf1s (fun qf40 qf40e qf40s => ?_)
      refine r_ex hX hP 1 (pc' := 28) (st' := [(0, z2), (2, qf40), (2, this)]) (lo' := [(0, (2, this)), (1, (2, happened)), (2, (2, tf1)), (3, (0, z2))]) rfl ?_
      refine r_iald hX hP rfl al_121 qf40s (by first | decide | omega) (by first | decide | omega) (fun x41 x41e x41a x41b => ?_)
      refine r_putIK hX hP rfl fp_X11_358_128 hS (by first | decide | omega) (by first | decide | omega) (fun h42 => ?_)
      refine r_ex hX hP 1 (pc' := 33) (st' := [(2, this)]) (lo' := [(0, (2, this)), (1, (2, happened)), (2, (2, tf1)), (3, (0, z2))]) rfl ?_
      refine r_getR hX hP rfl fl_X11_65_128 hS (fun ff43 ff43e ff43s => ?_)
      refine r_ex hX hP 1 (pc' := 37) (st' := [(1, 1), (2, ff43)]) (lo' := [(0, (2, this)), (1, (2, happened)), (2, (2, tf1)), (3, (0, z2))]) rfl ?_
      refine r_callV gd hX hP rfl cv_X11_370_134 ff43s (d' := 1) (mc' := 0) (ms' := 0) (as' := [(1, 1)]) (st := []) (by first | decide | omega) (by first | decide | omega) (by first | decide | omega) rfl rfl (Nat.le_of_ble_eq_true rfl) (c_X4_put E S (up G 128 this 2 x41) ff43 1 ff43s (by first | decide | omega) (by first | decide | omega)) ?_
      rintro _ _ _ ⟨rfl, ⟨G44, rfl⟩, rfl, -⟩
      refine r_ex hX hP 1 (pc' := 41) (st' := [(2, this)]) (lo' := [(0, (2, this)), (1, (2, happened)), (2, (2, tf1)), (3, (0, z2))]) rfl ?_
      refine r_getKR hX hP rfl fl_X11_65_128 hS (x := ff43) ff43e ?_
      refine r_ex hX hP 1 (pc' := 45) (st' := [(2, tf1), (2, ff43)]) (lo' := [(0, (2, this)), (1, (2, happened)), (2, (2, tf1)), (3, (0, z2))]) rfl ?_
      refine r_getR hX hP rfl fl_X11_391_136 tf1s (fun mf45 mf45e mf45s => ?_)
      refine r_ex hX hP 1 (pc' := 49) (st' := [(0, z2), (2, mf45), (2, ff43)]) (lo' := [(0, (2, this)), (1, (2, happened)), (2, (2, tf1)), (3, (0, z2))]) rfl ?_
      refine r_iald hX hP rfl al_119 mf45s (by first | decide | omega) (by first | decide | omega) (fun x46 x46e x46a x46b => ?_)
      refine r_i2l hX hP rfl (by first | decide | omega) (by first | decide | omega) ?_
      refine r_ex hX hP 1 (pc' := 52) (st' := [(2, tf1), (1, x46), (2, ff43)]) (lo' := [(0, (2, this)), (1, (2, happened)), (2, (2, tf1)), (3, (0, z2))]) rfl ?_
      refine r_getR hX hP rfl fl_X11_394_136 tf1s (fun nf47 nf47e nf47s => ?_)
      refine r_ex hX hP 1 (pc' := 56) (st' := [(0, z2), (2, nf47), (1, x46), (2, ff43)]) (lo' := [(0, (2, this)), (1, (2, happened)), (2, (2, tf1)), (3, (0, z2))]) rfl ?_
      refine r_iald hX hP rfl al_119 nf47s (by first | decide | omega) (by first | decide | omega) (fun x48 x48e x48a x48b => ?_)
      refine r_i2l hX hP rfl (by first | decide | omega) (by first | decide | omega) ?_
      refine r_callV gd hX hP rfl cv_X11_397_134 ff43s (d' := 4) (mc' := 0) (ms' := 0) (as' := [(1, x46), (1, x48)]) (st := []) (by first | decide | omega) (by first | decide | omega) (by first | decide | omega) rfl rfl (Nat.le_of_ble_eq_true rfl) (c_X4_times E S (hw [(99, -1), (134, 0), (134, 1), (134, 2)] (up G 128 this 2 x41) G44) ff43 x46 x48 ff43s (by first | decide | omega) (by first | decide | omega) (by first | decide | omega) (by first | decide | omega)) ?_
      rintro _ _ _ ⟨rfl, ⟨G49, rfl⟩, rfl, -⟩
      refine r_ex hX hP 2 (pc' := 77) (st' := [(2, this)]) (lo' := [(0, (2, this)), (1, (2, happened)), (2, (2, tf1)), (3, (0, z2))]) rfl ?_
      refine r_getKR hX hP rfl fl_X11_65_128 hS (x := ff43) ff43e ?_
      refine r_getI hX hP rfl fl_X11_380_134 ff43s (fun of50 of50e of50a of50b => ?_)
      refine r_if_eq hX hP rfl (tgt := 97) rfl (by first | decide | omega) (by first | decide | omega) (fun c51 => ?_) (fun c51 => ?_)
      · skip
        refine r_ex hX hP 1 (pc' := 98) (st' := [(2, this)]) (lo' := [(0, (2, this)), (1, (2, happened)), (2, (2, tf1)), (3, (0, z2))]) rfl ?_
        refine r_getR hX hP rfl fl_X11_62_128 hS (fun nf52 nf52e nf52s => ?_)
        refine r_ex hX hP 1 (pc' := 102) (st' := [(2, this), (2, nf52)]) (lo' := [(0, (2, this)), (1, (2, happened)), (2, (2, tf1)), (3, (0, z2))]) rfl ?_
        refine r_getKR hX hP rfl fl_X11_65_128 hS (x := ff43) ff43e ?_
        refine r_getL hX hP rfl fl_X11_361_134 ff43s (fun af53 af53e af53a af53b => ?_)
        refine r_ex hX hP 1 (pc' := 109) (st' := [(2, this), (1, af53), (2, nf52)]) (lo' := [(0, (2, this)), (1, (2, happened)), (2, (2, tf1)), (3, (0, z2))]) rfl ?_
        refine r_getKR hX hP rfl fl_X11_65_128 hS (x := ff43) ff43e ?_
        refine r_getL hX hP rfl fl_X11_367_134 ff43s (fun bf54 bf54e bf54a bf54b => ?_)
        refine r_callV gd hX hP rfl cv_X11_397_134 nf52s (d' := 4) (mc' := 0) (ms' := 0) (as' := [(1, af53), (1, bf54)]) (st := []) (by first | decide | omega) (by first | decide | omega) (by first | decide | omega) rfl rfl (Nat.le_of_ble_eq_true rfl) (c_X4_times E S (hw [(134, 0), (134, 1), (134, 2)] (hw [(99, -1), (134, 0), (134, 1), (134, 2)] (up G 128 this 2 x41) G44) G49) nf52 af53 bf54 nf52s (by first | decide | omega) (by first | decide | omega) (by first | decide | omega) (by first | decide | omega)) ?_
        rintro _ _ _ ⟨rfl, ⟨G55, rfl⟩, rfl, -⟩
        refine r_ex hX hP 1 (pc' := 119) (st' := [(2, this)]) (lo' := [(0, (2, this)), (1, (2, happened)), (2, (2, tf1)), (3, (0, z2))]) rfl ?_
        refine r_getR hX hP rfl fl_X11_58_128 hS (fun sf56 sf56e sf56s => ?_)
        refine r_ex hX hP 1 (pc' := 123) (st' := [(2, this), (2, sf56)]) (lo' := [(0, (2, this)), (1, (2, happened)), (2, (2, tf1)), (3, (0, z2))]) rfl ?_
        refine r_getKR hX hP rfl fl_X11_65_128 hS (x := ff43) ff43e ?_
        refine r_getL hX hP rfl fl_X11_367_134 ff43s (fun bf57 bf57e bf57a bf57b => ?_)
        refine r_ex hX hP 1 (pc' := 130) (st' := [(2, this), (1, bf57), (2, sf56)]) (lo' := [(0, (2, this)), (1, (2, happened)), (2, (2, tf1)), (3, (0, z2))]) rfl ?_
        refine r_getKR hX hP rfl fl_X11_65_128 hS (x := ff43) ff43e ?_
        refine r_getL hX hP rfl fl_X11_361_134 ff43s (fun af58 af58e af58a af58b => ?_)
        refine r_callV gd hX hP rfl cv_X11_397_134 sf56s (d' := 4) (mc' := 0) (ms' := 0) (as' := [(1, bf57), (1, af58)]) (st := []) (by first | decide | omega) (by first | decide | omega) (by first | decide | omega) rfl rfl (Nat.le_of_ble_eq_true rfl) (c_X4_times E S (hw [(134, 0), (134, 1), (134, 2)] (hw [(134, 0), (134, 1), (134, 2)] (hw [(99, -1), (134, 0), (134, 1), (134, 2)] (up G 128 this 2 x41) G44) G49) G55) sf56 bf57 af58 sf56s (by first | decide | omega) (by first | decide | omega) (by first | decide | omega) (by first | decide | omega)) ?_
        rintro _ _ _ ⟨rfl, ⟨G59, rfl⟩, rfl, -⟩
        refine r_ex hX hP 1 (pc' := 140) (st' := [(2, this)]) (lo' := [(0, (2, this)), (1, (2, happened)), (2, (2, tf1)), (3, (0, z2))]) rfl ?_
        refine r_getKR hX hP rfl fl_X11_65_128 hS (x := ff43) ff43e ?_
        refine r_callV gd hX hP rfl cv_X11_405_134 ff43s (d' := 1) (mc' := 0) (ms' := 0) (as' := []) (st := []) (by first | decide | omega) (by first | decide | omega) (by first | decide | omega) rfl rfl (Nat.le_of_ble_eq_true rfl) (c_X4_isLeft E S (hw [(134, 0), (134, 1), (134, 2)] (hw [(134, 0), (134, 1), (134, 2)] (hw [(134, 0), (134, 1), (134, 2)] (hw [(99, -1), (134, 0), (134, 1), (134, 2)] (up G 128 this 2 x41) G44) G49) G55) G59) ff43  ff43s) ?_
        rintro _ _ _ ⟨rfl, rfl, z60, rfl, z60a, z60b⟩
        exact r_retZ hX hP rfl rfl (by first | decide | omega) (by first | decide | omega) (by first | decide | omega) (by first | decide | omega) ⟨rfl, ⟨_, (hw_sub (hw_sub (hw_sub (hw_sub (hw_up (hw_refl _ _) rfl) rfl) rfl) rfl) rfl).symm⟩, z60, rfl, (by first | decide | omega)⟩
      · skip
        refine r_ex hX hP 1 (pc' := 87) (st' := [(2, this)]) (lo' := [(0, (2, this)), (1, (2, happened)), (2, (2, tf1)), (3, (0, z2))]) rfl ?_
        refine r_getR hX hP rfl fl_X11_62_128 hS (fun nf61 nf61e nf61s => ?_)
        refine r_ex hX hP 1 (pc' := 91) (st' := [(0, 1), (2, nf61)]) (lo' := [(0, (2, this)), (1, (2, happened)), (2, (2, tf1)), (3, (0, z2))]) rfl ?_
        refine r_putIK hX hP rfl fp_X11_380_134 nf61s (by first | decide | omega) (by first | decide | omega) (fun h62 => ?_)
        refine r_ex hX hP 2 (pc' := 140) (st' := [(2, this)]) (lo' := [(0, (2, this)), (1, (2, happened)), (2, (2, tf1)), (3, (0, z2))]) rfl ?_
        refine r_getKR hX hP rfl fl_X11_65_128 hS (x := ff43) ff43e ?_
        refine r_callV gd hX hP rfl cv_X11_405_134 ff43s (d' := 1) (mc' := 0) (ms' := 0) (as' := []) (st := []) (by first | decide | omega) (by first | decide | omega) (by first | decide | omega) rfl rfl (Nat.le_of_ble_eq_true rfl) (c_X4_isLeft E S (up (hw [(134, 0), (134, 1), (134, 2)] (hw [(99, -1), (134, 0), (134, 1), (134, 2)] (up G 128 this 2 x41) G44) G49) 134 nf61 2 1) ff43  ff43s) ?_
        rintro _ _ _ ⟨rfl, rfl, z63, rfl, z63a, z63b⟩
        exact r_retZ hX hP rfl rfl (by first | decide | omega) (by first | decide | omega) (by first | decide | omega) (by first | decide | omega) ⟨rfl, ⟨_, (hw_up (hw_sub (hw_sub (hw_up (hw_refl _ _) rfl) rfl) rfl) rfl).symm⟩, z63, rfl, (by first | decide | omega)⟩
set_option maxRecDepth 100000 in
set_option maxHeartbeats 4000000 in
theorem c_X11_nextEvent (E : En) (S : Sg) (G : Gh) (this : Int) (behind : Int) (day : Int) (hS : S this = 128) (evl : Int) (evl_e : evl = G 128 this 8) (evl_s : S evl = 156) (evn : Int) (evn_e : evn = G 156 evl 2) (behind_a : (-2147483648) ≤ behind) (behind_b : behind ≤ 2147483647) (day_a : (-2147483648) ≤ day) (day_b : day ≤ 2147483647) (ci : CI E S G) : Calls E mX11_nextEvent [(2, this), (0, behind), (0, day)] S G 3 0 0 (fun r S' G' => S = S' ∧ G = G' ∧ ∃ z : Int, r = some (0, z) ∧ ((z = (-1)) ∨ (0 ≤ z ∧ z ≤ 2560015 ∧ z % 64 < evn))) := by
  refine calls_by [(0, (2, this)), (1, (0, behind)), (2, (0, day))] rfl rfl (Nat.le_of_ble_eq_true rfl) (fun X hX => ?_)
  have hP := hPX11_nextEvent
  refine r_peekI hX (tl_156 2 rfl (by decide)) evl_s (fun evn_o evn_oe evn_oa evn_ob => ?_)
  obtain rfl : evn = evn_o := evn_e.trans evn_oe.symm
  refine r_ex hX hP 4 (pc' := 5) (st' := []) (lo' := [(0, (2, this)), (1, (0, behind)), (2, (0, day)), (3, (0, (-1))), (4, (0, 0))]) rfl ?_
  have loop5 : ∀ (nF : Nat) (l3_h5 l4_h5 : Int), (-1) ≤ l3_h5 → l3_h5 ≤ 2560015 → 0 ≤ l4_h5 → l4_h5 ≤ 60 → (l3_h5 = -1 ∨ l3_h5 % 64 < evn) → 60 - l4_h5 < (nF : Int) → X 0 0 5 [] [(0, (2, this)), (1, (0, behind)), (2, (0, day)), (3, (0, l3_h5)), (4, (0, l4_h5))] S G := by
    intro nF
    induction nF with
    | zero => intro l3_h5 l4_h5 yh5_0 yh5_1 yh5_2 yh5_3 yh5_4 ym5; exfalso; omega
    | succ nF ih5 =>
      intro l3_h5 l4_h5 yh5_0 yh5_1 yh5_2 yh5_3 yh5_4 ym5
      refine r_ex hX hP 2 (pc' := 8) (st' := [(2, this), (0, l4_h5)]) (lo' := [(0, (2, this)), (1, (0, behind)), (2, (0, day)), (3, (0, l3_h5)), (4, (0, l4_h5))]) rfl ?_
      refine r_getKR hX hP rfl fl_X11_37_128 hS (x := evl) evl_e ?_
      refine r_callV gd hX hP rfl cv_X11_125_156 evl_s (d' := 0) (mc' := 0) (ms' := 0) (as' := []) (st := [(0, l4_h5)]) (by first | decide | omega) (by first | decide | omega) (by first | decide | omega) rfl rfl (Nat.le_of_ble_eq_true rfl) (c_size_Lev E S G evl  evl_s evn evn_e) ?_
      rintro _ _ _ ⟨rfl, rfl, z1, rfl, z1a, z1b, f2⟩
      refine r_ic_ge hX hP rfl (tgt := 129) rfl (by first | decide | omega) (by first | decide | omega) (by first | decide | omega) (by first | decide | omega) (fun c3 => ?_) (fun c3 => ?_)
      · skip
        refine r_ex hX hP 1 (pc' := 130) (st' := [(0, l3_h5)]) (lo' := [(0, (2, this)), (1, (0, behind)), (2, (0, day)), (3, (0, l3_h5)), (4, (0, l4_h5))]) rfl ?_
        exact r_retI hX hP rfl rfl (by first | decide | omega) (by first | decide | omega) ⟨rfl, rfl, l3_h5, rfl, (by first | decide | omega)⟩
      · skip
        refine r_ex hX hP 1 (pc' := 18) (st' := [(2, this)]) (lo' := [(0, (2, this)), (1, (0, behind)), (2, (0, day)), (3, (0, l3_h5)), (4, (0, l4_h5))]) rfl ?_
        refine r_getKR hX hP rfl fl_X11_37_128 hS (x := evl) evl_e ?_
        refine r_ex hX hP 1 (pc' := 23) (st' := [(0, l4_h5), (2, evl)]) (lo' := [(0, (2, this)), (1, (0, behind)), (2, (0, day)), (3, (0, l3_h5)), (4, (0, l4_h5))]) rfl ?_
        refine r_callV gd hX hP rfl cv_X11_196_156 evl_s (d' := 2) (mc' := 0) (ms' := 0) (as' := [(0, l4_h5)]) (st := []) (by first | decide | omega) (by first | decide | omega) (by first | decide | omega) rfl rfl (Nat.le_of_ble_eq_true rfl) (c_get_Lev E S G evl l4_h5 evl_s evn evn_e (by first | decide | omega) (by first | decide | omega) (by first | decide | omega) ci) ?_
        rintro _ _ _ ⟨rfl, rfl, z4, rfl, z4s⟩
        refine r_cast hX hP rfl (tbg sg4 200 rfl rfl) ck_137_X2 z4s ?_
        refine r_ex hX hP 2 (pc' := 33) (st' := [(2, z4)]) (lo' := [(0, (2, this)), (1, (0, behind)), (2, (0, day)), (3, (0, l3_h5)), (4, (0, l4_h5)), (5, (2, z4))]) rfl ?_
        refine r_getI hX hP rfl fl_X11_181_137 z4s (fun rf5 rf5e rf5a rf5b => ?_)
        refine r_ex hX hP 7 (pc' := 47) (st' := [(0, behind), (0, ((rf5 * 64) + l4_h5))]) (lo' := [(0, (2, this)), (1, (0, behind)), (2, (0, day)), (3, (0, l3_h5)), (4, (0, l4_h5)), (5, (2, z4)), (6, (0, ((rf5 * 64) + l4_h5)))]) rfl ?_
        refine r_ic_le hX hP rfl (tgt := 74) rfl (by first | decide | omega) (by first | decide | omega) (by first | decide | omega) (by first | decide | omega) (fun c6 => ?_) (fun c6 => ?_)
        · skip
          refine r_ex hX hP 3 (pc' := 79) (st' := [(0, 0)]) (lo' := [(0, (2, this)), (1, (0, behind)), (2, (0, day)), (3, (0, l3_h5)), (4, (0, l4_h5)), (5, (2, z4)), (6, (0, ((rf5 * 64) + l4_h5))), (7, (0, 0))]) rfl ?_
          refine r_if_eq hX hP rfl (tgt := 123) rfl (by first | decide | omega) (by first | decide | omega) (fun c7 => ?_) (fun c7 => ?_)
          · skip
            refine r_ex hX hP 2 (pc' := 5) (st' := []) (lo' := [(0, (2, this)), (1, (0, behind)), (2, (0, day)), (3, (0, l3_h5)), (4, (0, (l4_h5 + 1))), (5, (2, z4)), (6, (0, ((rf5 * 64) + l4_h5))), (7, (0, 0))]) rfl ?_
            refine r_pick hX [0, 1, 2, 3, 4] (lo' := [(0, (2, this)), (1, (0, behind)), (2, (0, day)), (3, (0, l3_h5)), (4, (0, (l4_h5 + 1)))]) rfl ?_
            exact ih5 l3_h5 (l4_h5 + 1) (by first | decide | omega) (by first | decide | omega) (by first | decide | omega) (by first | decide | omega) (by first | decide | omega) (by first | decide | omega)
          · skip
            exfalso; omega
        · skip
          refine r_ex hX hP 1 (pc' := 52) (st' := [(2, z4)]) (lo' := [(0, (2, this)), (1, (0, behind)), (2, (0, day)), (3, (0, l3_h5)), (4, (0, l4_h5)), (5, (2, z4)), (6, (0, ((rf5 * 64) + l4_h5)))]) rfl ?_
          refine r_getKI hX hP rfl fl_X11_181_137 z4s (x := rf5) rf5e ?_
          refine r_ex hX hP 1 (pc' := 56) (st' := [(0, day), (0, rf5)]) (lo' := [(0, (2, this)), (1, (0, behind)), (2, (0, day)), (3, (0, l3_h5)), (4, (0, l4_h5)), (5, (2, z4)), (6, (0, ((rf5 * 64) + l4_h5)))]) rfl ?_
          refine r_ic_gt hX hP rfl (tgt := 74) rfl (by first | decide | omega) (by first | decide | omega) (by first | decide | omega) (by first | decide | omega) (fun c8 => ?_) (fun c8 => ?_)
          · skip
            refine r_ex hX hP 3 (pc' := 79) (st' := [(0, 0)]) (lo' := [(0, (2, this)), (1, (0, behind)), (2, (0, day)), (3, (0, l3_h5)), (4, (0, l4_h5)), (5, (2, z4)), (6, (0, ((rf5 * 64) + l4_h5))), (7, (0, 0))]) rfl ?_
            refine r_if_eq hX hP rfl (tgt := 123) rfl (by first | decide | omega) (by first | decide | omega) (fun c9 => ?_) (fun c9 => ?_)
            · skip
              refine r_ex hX hP 2 (pc' := 5) (st' := []) (lo' := [(0, (2, this)), (1, (0, behind)), (2, (0, day)), (3, (0, l3_h5)), (4, (0, (l4_h5 + 1))), (5, (2, z4)), (6, (0, ((rf5 * 64) + l4_h5))), (7, (0, 0))]) rfl ?_
              refine r_pick hX [0, 1, 2, 3, 4] (lo' := [(0, (2, this)), (1, (0, behind)), (2, (0, day)), (3, (0, l3_h5)), (4, (0, (l4_h5 + 1)))]) rfl ?_
              exact ih5 l3_h5 (l4_h5 + 1) (by first | decide | omega) (by first | decide | omega) (by first | decide | omega) (by first | decide | omega) (by first | decide | omega) (by first | decide | omega)
            · skip
              exfalso; omega
          · skip
            refine r_ex hX hP 2 (pc' := 61) (st' := [(0, (-1)), (0, l3_h5)]) (lo' := [(0, (2, this)), (1, (0, behind)), (2, (0, day)), (3, (0, l3_h5)), (4, (0, l4_h5)), (5, (2, z4)), (6, (0, ((rf5 * 64) + l4_h5)))]) rfl ?_
            refine r_ic_eq hX hP rfl (tgt := 70) rfl (by first | decide | omega) (by first | decide | omega) (by first | decide | omega) (by first | decide | omega) (fun c10 => ?_) (fun c10 => ?_)
            · skip
              refine r_ex hX hP 4 (pc' := 79) (st' := [(0, 1)]) (lo' := [(0, (2, this)), (1, (0, behind)), (2, (0, day)), (3, (0, l3_h5)), (4, (0, l4_h5)), (5, (2, z4)), (6, (0, ((rf5 * 64) + l4_h5))), (7, (0, 1))]) rfl ?_
              refine r_if_eq hX hP rfl (tgt := 123) rfl (by first | decide | omega) (by first | decide | omega) (fun c11 => ?_) (fun c11 => ?_)
              · skip
                exfalso; omega
              · skip
                refine r_ex hX hP 1 (pc' := 84) (st' := [(2, z4)]) (lo' := [(0, (2, this)), (1, (0, behind)), (2, (0, day)), (3, (0, l3_h5)), (4, (0, l4_h5)), (5, (2, z4)), (6, (0, ((rf5 * 64) + l4_h5))), (7, (0, 1))]) rfl ?_
                refine r_getI hX hP rfl fl_X11_292_137 z4s (fun pf12 pf12e pf12a pf12b => ?_)
                refine r_ex hX hP 1 (pc' := 88) (st' := [(2, this), (0, pf12)]) (lo' := [(0, (2, this)), (1, (0, behind)), (2, (0, day)), (3, (0, l3_h5)), (4, (0, l4_h5)), (5, (2, z4)), (6, (0, ((rf5 * 64) + l4_h5))), (7, (0, 1))]) rfl ?_
                refine r_getI hX hP rfl fl_X11_358_128 hS (fun of13 of13e of13a of13b => ?_)
                refine r_ic_ne hX hP rfl (tgt := 123) rfl (by first | decide | omega) (by first | decide | omega) (by first | decide | omega) (by first | decide | omega) (fun c14 => ?_) (fun c14 => ?_)
                · skip
                  refine r_ex hX hP 2 (pc' := 5) (st' := []) (lo' := [(0, (2, this)), (1, (0, behind)), (2, (0, day)), (3, (0, l3_h5)), (4, (0, (l4_h5 + 1))), (5, (2, z4)), (6, (0, ((rf5 * 64) + l4_h5))), (7, (0, 1))]) rfl ?_
                  refine r_pick hX [0, 1, 2, 3, 4] (lo' := [(0, (2, this)), (1, (0, behind)), (2, (0, day)), (3, (0, l3_h5)), (4, (0, (l4_h5 + 1)))]) rfl ?_
                  exact ih5 l3_h5 (l4_h5 + 1) (by first | decide | omega) (by first | decide | omega) (by first | decide | omega) (by first | decide | omega) (by first | decide | omega) (by first | decide | omega)
                · skip
                  refine r_ex hX hP 1 (pc' := 96) (st' := [(2, z4)]) (lo' := [(0, (2, this)), (1, (0, behind)), (2, (0, day)), (3, (0, l3_h5)), (4, (0, l4_h5)), (5, (2, z4)), (6, (0, ((rf5 * 64) + l4_h5))), (7, (0, 1))]) rfl ?_
                  refine r_getR hX hP rfl fl_X11_200_137 z4s (fun tf15 tf15e tf15s => ?_)
                  refine r_callV gd hX hP rfl cv_X11_381_136 tf15s (d' := 0) (mc' := 0) (ms' := 0) (as' := []) (st := []) (by first | decide | omega) (by first | decide | omega) (by first | decide | omega) rfl rfl (Nat.le_of_ble_eq_true rfl) (c_X9_isPlain E S G tf15  tf15s) ?_
                  rintro _ _ _ ⟨rfl, rfl, z16, rfl, z16a, z16b⟩
                  refine r_if_eq hX hP rfl (tgt := 123) rfl (by first | decide | omega) (by first | decide | omega) (fun c17 => ?_) (fun c17 => ?_)
                  · skip
                    refine r_ex hX hP 2 (pc' := 5) (st' := []) (lo' := [(0, (2, this)), (1, (0, behind)), (2, (0, day)), (3, (0, l3_h5)), (4, (0, (l4_h5 + 1))), (5, (2, z4)), (6, (0, ((rf5 * 64) + l4_h5))), (7, (0, 1))]) rfl ?_
                    refine r_pick hX [0, 1, 2, 3, 4] (lo' := [(0, (2, this)), (1, (0, behind)), (2, (0, day)), (3, (0, l3_h5)), (4, (0, (l4_h5 + 1)))]) rfl ?_
                    exact ih5 l3_h5 (l4_h5 + 1) (by first | decide | omega) (by first | decide | omega) (by first | decide | omega) (by first | decide | omega) (by first | decide | omega) (by first | decide | omega)
                  · skip
                    refine r_ex hX hP 2 (pc' := 108) (st' := [(2, this), (2, z4)]) (lo' := [(0, (2, this)), (1, (0, behind)), (2, (0, day)), (3, (0, l3_h5)), (4, (0, l4_h5)), (5, (2, z4)), (6, (0, ((rf5 * 64) + l4_h5))), (7, (0, 1))]) rfl ?_
                    refine r_getR hX hP rfl fl_X11_16_128 hS (fun rf18 rf18e rf18s => ?_)
                    refine r_getI hX hP rfl fl_X11_93_129 rf18s (fun af19 af19e af19a af19b => ?_)
                    refine r_callU gd hX hP rfl cu_X11_264_137 z4s (d' := 0) (mc' := 0) (ms' := 0) (as' := [(0, af19)]) (st := []) (by first | decide | omega) (by first | decide | omega) (by first | decide | omega) rfl rfl (Nat.le_of_ble_eq_true rfl) (c_counts_Evt E S G z4 af19 z4s (by first | decide | omega) (by first | decide | omega)) ?_
                    rintro _ _ _ ⟨rfl, rfl, z20, rfl, z20a, z20b⟩
                    refine r_if_eq hX hP rfl (tgt := 123) rfl (by first | decide | omega) (by first | decide | omega) (fun c21 => ?_) (fun c21 => ?_)
                    · skip
                      refine r_ex hX hP 2 (pc' := 5) (st' := []) (lo' := [(0, (2, this)), (1, (0, behind)), (2, (0, day)), (3, (0, l3_h5)), (4, (0, (l4_h5 + 1))), (5, (2, z4)), (6, (0, ((rf5 * 64) + l4_h5))), (7, (0, 1))]) rfl ?_
                      refine r_pick hX [0, 1, 2, 3, 4] (lo' := [(0, (2, this)), (1, (0, behind)), (2, (0, day)), (3, (0, l3_h5)), (4, (0, (l4_h5 + 1)))]) rfl ?_
                      exact ih5 l3_h5 (l4_h5 + 1) (by first | decide | omega) (by first | decide | omega) (by first | decide | omega) (by first | decide | omega) (by first | decide | omega) (by first | decide | omega)
                    · skip
                      refine r_ex hX hP 4 (pc' := 5) (st' := []) (lo' := [(0, (2, this)), (1, (0, behind)), (2, (0, day)), (3, (0, ((rf5 * 64) + l4_h5))), (4, (0, (l4_h5 + 1))), (5, (2, z4)), (6, (0, ((rf5 * 64) + l4_h5))), (7, (0, 1))]) rfl ?_
                      refine r_pick hX [0, 1, 2, 3, 4] (lo' := [(0, (2, this)), (1, (0, behind)), (2, (0, day)), (3, (0, ((rf5 * 64) + l4_h5))), (4, (0, (l4_h5 + 1)))]) rfl ?_
                      exact ih5 ((rf5 * 64) + l4_h5) (l4_h5 + 1) (by first | decide | omega) (by first | decide | omega) (by first | decide | omega) (by first | decide | omega) (by first | decide | omega) (by first | decide | omega)
            · skip
              refine r_ex hX hP 2 (pc' := 67) (st' := [(0, l3_h5), (0, ((rf5 * 64) + l4_h5))]) (lo' := [(0, (2, this)), (1, (0, behind)), (2, (0, day)), (3, (0, l3_h5)), (4, (0, l4_h5)), (5, (2, z4)), (6, (0, ((rf5 * 64) + l4_h5)))]) rfl ?_
              refine r_ic_ge hX hP rfl (tgt := 74) rfl (by first | decide | omega) (by first | decide | omega) (by first | decide | omega) (by first | decide | omega) (fun c22 => ?_) (fun c22 => ?_)
              · skip
                refine r_ex hX hP 3 (pc' := 79) (st' := [(0, 0)]) (lo' := [(0, (2, this)), (1, (0, behind)), (2, (0, day)), (3, (0, l3_h5)), (4, (0, l4_h5)), (5, (2, z4)), (6, (0, ((rf5 * 64) + l4_h5))), (7, (0, 0))]) rfl ?_
                refine r_if_eq hX hP rfl (tgt := 123) rfl (by first | decide | omega) (by first | decide | omega) (fun c23 => ?_) (fun c23 => ?_)
                · skip
                  refine r_ex hX hP 2 (pc' := 5) (st' := []) (lo' := [(0, (2, this)), (1, (0, behind)), (2, (0, day)), (3, (0, l3_h5)), (4, (0, (l4_h5 + 1))), (5, (2, z4)), (6, (0, ((rf5 * 64) + l4_h5))), (7, (0, 0))]) rfl ?_
                  refine r_pick hX [0, 1, 2, 3, 4] (lo' := [(0, (2, this)), (1, (0, behind)), (2, (0, day)), (3, (0, l3_h5)), (4, (0, (l4_h5 + 1)))]) rfl ?_
                  exact ih5 l3_h5 (l4_h5 + 1) (by first | decide | omega) (by first | decide | omega) (by first | decide | omega) (by first | decide | omega) (by first | decide | omega) (by first | decide | omega)
                · skip
                  exfalso; omega
              · skip
                refine r_ex hX hP 4 (pc' := 79) (st' := [(0, 1)]) (lo' := [(0, (2, this)), (1, (0, behind)), (2, (0, day)), (3, (0, l3_h5)), (4, (0, l4_h5)), (5, (2, z4)), (6, (0, ((rf5 * 64) + l4_h5))), (7, (0, 1))]) rfl ?_
                refine r_if_eq hX hP rfl (tgt := 123) rfl (by first | decide | omega) (by first | decide | omega) (fun c24 => ?_) (fun c24 => ?_)
                · skip
                  exfalso; omega
                · skip
                  refine r_ex hX hP 1 (pc' := 84) (st' := [(2, z4)]) (lo' := [(0, (2, this)), (1, (0, behind)), (2, (0, day)), (3, (0, l3_h5)), (4, (0, l4_h5)), (5, (2, z4)), (6, (0, ((rf5 * 64) + l4_h5))), (7, (0, 1))]) rfl ?_
                  refine r_getI hX hP rfl fl_X11_292_137 z4s (fun pf25 pf25e pf25a pf25b => ?_)
                  refine r_ex hX hP 1 (pc' := 88) (st' := [(2, this), (0, pf25)]) (lo' := [(0, (2, this)), (1, (0, behind)), (2, (0, day)), (3, (0, l3_h5)), (4, (0, l4_h5)), (5, (2, z4)), (6, (0, ((rf5 * 64) + l4_h5))), (7, (0, 1))]) rfl ?_
                  refine r_getI hX hP rfl fl_X11_358_128 hS (fun of26 of26e of26a of26b => ?_)
                  refine r_ic_ne hX hP rfl (tgt := 123) rfl (by first | decide | omega) (by first | decide | omega) (by first | decide | omega) (by first | decide | omega) (fun c27 => ?_) (fun c27 => ?_)
                  · skip
                    refine r_ex hX hP 2 (pc' := 5) (st' := []) (lo' := [(0, (2, this)), (1, (0, behind)), (2, (0, day)), (3, (0, l3_h5)), (4, (0, (l4_h5 + 1))), (5, (2, z4)), (6, (0, ((rf5 * 64) + l4_h5))), (7, (0, 1))]) rfl ?_
                    refine r_pick hX [0, 1, 2, 3, 4] (lo' := [(0, (2, this)), (1, (0, behind)), (2, (0, day)), (3, (0, l3_h5)), (4, (0, (l4_h5 + 1)))]) rfl ?_
                    exact ih5 l3_h5 (l4_h5 + 1) (by first | decide | omega) (by first | decide | omega) (by first | decide | omega) (by first | decide | omega) (by first | decide | omega) (by first | decide | omega)
                  · skip
                    refine r_ex hX hP 1 (pc' := 96) (st' := [(2, z4)]) (lo' := [(0, (2, this)), (1, (0, behind)), (2, (0, day)), (3, (0, l3_h5)), (4, (0, l4_h5)), (5, (2, z4)), (6, (0, ((rf5 * 64) + l4_h5))), (7, (0, 1))]) rfl ?_
                    refine r_getR hX hP rfl fl_X11_200_137 z4s (fun tf28 tf28e tf28s => ?_)
                    refine r_callV gd hX hP rfl cv_X11_381_136 tf28s (d' := 0) (mc' := 0) (ms' := 0) (as' := []) (st := []) (by first | decide | omega) (by first | decide | omega) (by first | decide | omega) rfl rfl (Nat.le_of_ble_eq_true rfl) (c_X9_isPlain E S G tf28  tf28s) ?_
                    rintro _ _ _ ⟨rfl, rfl, z29, rfl, z29a, z29b⟩
                    refine r_if_eq hX hP rfl (tgt := 123) rfl (by first | decide | omega) (by first | decide | omega) (fun c30 => ?_) (fun c30 => ?_)
                    · skip
                      refine r_ex hX hP 2 (pc' := 5) (st' := []) (lo' := [(0, (2, this)), (1, (0, behind)), (2, (0, day)), (3, (0, l3_h5)), (4, (0, (l4_h5 + 1))), (5, (2, z4)), (6, (0, ((rf5 * 64) + l4_h5))), (7, (0, 1))]) rfl ?_
                      refine r_pick hX [0, 1, 2, 3, 4] (lo' := [(0, (2, this)), (1, (0, behind)), (2, (0, day)), (3, (0, l3_h5)), (4, (0, (l4_h5 + 1)))]) rfl ?_
                      exact ih5 l3_h5 (l4_h5 + 1) (by first | decide | omega) (by first | decide | omega) (by first | decide | omega) (by first | decide | omega) (by first | decide | omega) (by first | decide | omega)
                    · skip
                      refine r_ex hX hP 2 (pc' := 108) (st' := [(2, this), (2, z4)]) (lo' := [(0, (2, this)), (1, (0, behind)), (2, (0, day)), (3, (0, l3_h5)), (4, (0, l4_h5)), (5, (2, z4)), (6, (0, ((rf5 * 64) + l4_h5))), (7, (0, 1))]) rfl ?_
                      refine r_getR hX hP rfl fl_X11_16_128 hS (fun rf31 rf31e rf31s => ?_)
                      refine r_getI hX hP rfl fl_X11_93_129 rf31s (fun af32 af32e af32a af32b => ?_)
                      refine r_callU gd hX hP rfl cu_X11_264_137 z4s (d' := 0) (mc' := 0) (ms' := 0) (as' := [(0, af32)]) (st := []) (by first | decide | omega) (by first | decide | omega) (by first | decide | omega) rfl rfl (Nat.le_of_ble_eq_true rfl) (c_counts_Evt E S G z4 af32 z4s (by first | decide | omega) (by first | decide | omega)) ?_
                      rintro _ _ _ ⟨rfl, rfl, z33, rfl, z33a, z33b⟩
                      refine r_if_eq hX hP rfl (tgt := 123) rfl (by first | decide | omega) (by first | decide | omega) (fun c34 => ?_) (fun c34 => ?_)
                      · skip
                        refine r_ex hX hP 2 (pc' := 5) (st' := []) (lo' := [(0, (2, this)), (1, (0, behind)), (2, (0, day)), (3, (0, l3_h5)), (4, (0, (l4_h5 + 1))), (5, (2, z4)), (6, (0, ((rf5 * 64) + l4_h5))), (7, (0, 1))]) rfl ?_
                        refine r_pick hX [0, 1, 2, 3, 4] (lo' := [(0, (2, this)), (1, (0, behind)), (2, (0, day)), (3, (0, l3_h5)), (4, (0, (l4_h5 + 1)))]) rfl ?_
                        exact ih5 l3_h5 (l4_h5 + 1) (by first | decide | omega) (by first | decide | omega) (by first | decide | omega) (by first | decide | omega) (by first | decide | omega) (by first | decide | omega)
                      · skip
                        refine r_ex hX hP 4 (pc' := 5) (st' := []) (lo' := [(0, (2, this)), (1, (0, behind)), (2, (0, day)), (3, (0, ((rf5 * 64) + l4_h5))), (4, (0, (l4_h5 + 1))), (5, (2, z4)), (6, (0, ((rf5 * 64) + l4_h5))), (7, (0, 1))]) rfl ?_
                        refine r_pick hX [0, 1, 2, 3, 4] (lo' := [(0, (2, this)), (1, (0, behind)), (2, (0, day)), (3, (0, ((rf5 * 64) + l4_h5))), (4, (0, (l4_h5 + 1)))]) rfl ?_
                        exact ih5 ((rf5 * 64) + l4_h5) (l4_h5 + 1) (by first | decide | omega) (by first | decide | omega) (by first | decide | omega) (by first | decide | omega) (by first | decide | omega) (by first | decide | omega)
  exact loop5 ((60 - 0) + 1 : Int).toNat (-1) 0 (by first | decide | omega) (by first | decide | omega) (by first | decide | omega) (by first | decide | omega) (by first | decide | omega) (by first | decide | omega)
set_option maxRecDepth 100000 in
set_option maxHeartbeats 4000000 in
theorem c_X11_follow (E : En) (S : Sg) (G : Gh) (this : Int) (option_ : Int) (day : Int) (hS : S this = 128) (option__s : S option_ = 141) (day_a : (-2147483648) ≤ day) (day_b : day ≤ 2147483647) (ci : CI E S G) : Calls E mX11_follow [(2, this), (2, option_), (0, day)] S G 7 0 0 (fun r S' G' => S = S' ∧ (∃ G1, hw [(99, -1), (128, 2), (134, 0), (134, 1), (134, 2)] G G1 = G') ∧ ∃ z : Int, r = some (0, z) ∧ 0 ≤ z ∧ z ≤ 8) := by
  refine calls_by [(0, (2, this)), (1, (2, option_)), (2, (0, day))] rfl rfl (Nat.le_of_ble_eq_true rfl) (fun X hX => ?_)
  have hP := hPX11_follow
  refine r_ex hX hP 2 (pc' := 2) (st' := [(2, option_), (2, this)]) (lo' := [(0, (2, this)), (1, (2, option_)), (2, (0, day))]) rfl ?_
  refine r_getI hX hP rfl fl_X11_289_141 option__s (fun pf1 pf1e pf1a pf1b => ?_)
  refine r_putIK hX hP rfl fp_X11_358_128 hS (by first | decide | omega) (by first | decide | omega) (fun h2 => ?_)
  refine r_ex hX hP 1 (pc' := 9) (st' := [(2, this)]) (lo' := [(0, (2, this)), (1, (2, option_)), (2, (0, day))]) rfl ?_
  refine r_getR hX hP rfl fl_X11_58_128 hS (fun sf3 sf3e sf3s => ?_)
  refine r_ex hX hP 1 (pc' := 13) (st' := [(2, option_), (2, sf3)]) (lo' := [(0, (2, this)), (1, (2, option_)), (2, (0, day))]) rfl ?_
  refine r_getI hX hP rfl fl_X11_140_141 option__s (fun pf4 pf4e pf4a pf4b => ?_)
  refine r_i2l hX hP rfl (by first | decide | omega) (by first | decide | omega) ?_
  refine r_callV gd hX hP rfl cv_X11_370_134 sf3s (d' := 1) (mc' := 0) (ms' := 0) (as' := [(1, pf4)]) (st := []) (by first | decide | omega) (by first | decide | omega) (by first | decide | omega) rfl rfl (Nat.le_of_ble_eq_true rfl) (c_X4_put E S (up G 128 this 2 pf1) sf3 pf4 sf3s (by first | decide | omega) (by first | decide | omega)) ?_
  rintro _ _ _ ⟨rfl, ⟨G5, rfl⟩, rfl, -⟩
  refine r_ex hX hP 1 (pc' := 21) (st' := [(2, this)]) (lo' := [(0, (2, this)), (1, (2, option_)), (2, (0, day))]) rfl ?_
  refine r_getR hX hP rfl fl_X11_62_128 hS (fun nf6 nf6e nf6s => ?_)
  refine r_ex hX hP 1 (pc' := 25) (st' := [(2, option_), (2, nf6)]) (lo' := [(0, (2, this)), (1, (2, option_)), (2, (0, day))]) rfl ?_
  refine r_getI hX hP rfl fl_X11_313_141 option__s (fun nf7 nf7e nf7a nf7b => ?_)
  refine r_i2l hX hP rfl (by first | decide | omega) (by first | decide | omega) ?_
  refine r_callV gd hX hP rfl cv_X11_370_134 nf6s (d' := 1) (mc' := 0) (ms' := 0) (as' := [(1, nf7)]) (st := []) (by first | decide | omega) (by first | decide | omega) (by first | decide | omega) rfl rfl (Nat.le_of_ble_eq_true rfl) (c_X4_put E S (hw [(99, -1), (134, 0), (134, 1), (134, 2)] (up G 128 this 2 pf1) G5) nf6 nf7 nf6s (by first | decide | omega) (by first | decide | omega)) ?_
  rintro _ _ _ ⟨rfl, ⟨G8, rfl⟩, rfl, -⟩
  refine r_ex hX hP 1 (pc' := 33) (st' := [(2, option_)]) (lo' := [(0, (2, this)), (1, (2, option_)), (2, (0, day))]) rfl ?_
  refine r_getI hX hP rfl fl_X11_283_141 option__s (fun df9 df9e df9a df9b => ?_)
  refine r_ex hX hP 7 (pc' := 45) (st' := []) (lo' := [(0, (2, this)), (1, (2, option_)), (2, (0, day)), (3, (0, ((df9 * 64) - 1))), (4, (0, 0))]) rfl ?_
  have x102 : ∀ (l3_x102 l4_x102 : Int) (Gx102 : Gh), (-2147483648) ≤ l3_x102 → l3_x102 ≤ 2147483647 → 0 ≤ l4_x102 → l4_x102 ≤ 16 → X 0 0 102 [] [(0, (2, this)), (1, (2, option_)), (2, (0, day)), (3, (0, l3_x102)), (4, (0, l4_x102))] S (hw [(99, -1), (128, 2), (134, 0), (134, 1), (134, 2)] (hw [(99, -1), (134, 0), (134, 1), (134, 2)] (hw [(99, -1), (134, 0), (134, 1), (134, 2)] (up G 128 this 2 pf1) G5) G8) Gx102) := by
    intro l3_x102 l4_x102 Gx102 yx102_0 yx102_1 yx102_2 yx102_3
    refine r_ex hX hP 2 (pc' := 104) (st' := [(2, this), (2, option_)]) (lo' := [(0, (2, this)), (1, (2, option_)), (2, (0, day)), (3, (0, l3_x102)), (4, (0, l4_x102))]) rfl ?_
    refine r_getR hX hP rfl fl_X11_16_128 hS (fun rf10 rf10e rf10s => ?_)
    refine r_getI hX hP rfl fl_X11_93_129 rf10s (fun af11 af11e af11a af11b => ?_)
    refine r_callU gd hX hP rfl cu_X11_282_141 option__s (d' := 0) (mc' := 0) (ms' := 0) (as' := [(0, af11)]) (st := []) (by first | decide | omega) (by first | decide | omega) (by first | decide | omega) rfl rfl (Nat.le_of_ble_eq_true rfl) (c_counts_Ent E S (hw [(99, -1), (128, 2), (134, 0), (134, 1), (134, 2)] (hw [(99, -1), (134, 0), (134, 1), (134, 2)] (hw [(99, -1), (134, 0), (134, 1), (134, 2)] (up G 128 this 2 pf1) G5) G8) Gx102) option_ af11 option__s (by first | decide | omega) (by first | decide | omega)) ?_
    rintro _ _ _ ⟨rfl, rfl, z12, rfl, z12a, z12b⟩
    refine r_if_ne hX hP rfl (tgt := 119) rfl (by first | decide | omega) (by first | decide | omega) (fun c13 => ?_) (fun c13 => ?_)
    · skip
      refine r_ex hX hP 1 (pc' := 120) (st' := [(2, this)]) (lo' := [(0, (2, this)), (1, (2, option_)), (2, (0, day)), (3, (0, l3_x102)), (4, (0, l4_x102))]) rfl ?_
      refine r_getKR hX hP rfl fl_X11_62_128 hS (x := nf6) nf6e ?_
      refine r_getI hX hP rfl fl_X11_380_134 nf6s (fun of14 of14e of14a of14b => ?_)
      refine r_if_ne hX hP rfl (tgt := 139) rfl (by first | decide | omega) (by first | decide | omega) (fun c15 => ?_) (fun c15 => ?_)
      · skip
        refine r_ex hX hP 2 (pc' := 145) (st' := [(0, 8)]) (lo' := [(0, (2, this)), (1, (2, option_)), (2, (0, day)), (3, (0, l3_x102)), (4, (0, l4_x102))]) rfl ?_
        exact r_retI hX hP rfl rfl (by first | decide | omega) (by first | decide | omega) ⟨rfl, ⟨_, (hw_sub (hw_sub (hw_sub (hw_up (hw_refl _ _) rfl) rfl) rfl) rfl).symm⟩, 8, rfl, (by first | decide | omega)⟩
      · skip
        refine r_ex hX hP 1 (pc' := 130) (st' := [(2, this)]) (lo' := [(0, (2, this)), (1, (2, option_)), (2, (0, day)), (3, (0, l3_x102)), (4, (0, l4_x102))]) rfl ?_
        refine r_getKR hX hP rfl fl_X11_58_128 hS (x := sf3) sf3e ?_
        refine r_getI hX hP rfl fl_X11_380_134 sf3s (fun of16 of16e of16a of16b => ?_)
        refine r_if_eq hX hP rfl (tgt := 144) rfl (by first | decide | omega) (by first | decide | omega) (fun c17 => ?_) (fun c17 => ?_)
        · skip
          refine r_ex hX hP 1 (pc' := 145) (st' := [(0, 0)]) (lo' := [(0, (2, this)), (1, (2, option_)), (2, (0, day)), (3, (0, l3_x102)), (4, (0, l4_x102))]) rfl ?_
          exact r_retI hX hP rfl rfl (by first | decide | omega) (by first | decide | omega) ⟨rfl, ⟨_, (hw_sub (hw_sub (hw_sub (hw_up (hw_refl _ _) rfl) rfl) rfl) rfl).symm⟩, 0, rfl, (by first | decide | omega)⟩
        · skip
          refine r_ex hX hP 2 (pc' := 145) (st' := [(0, 8)]) (lo' := [(0, (2, this)), (1, (2, option_)), (2, (0, day)), (3, (0, l3_x102)), (4, (0, l4_x102))]) rfl ?_
          exact r_retI hX hP rfl rfl (by first | decide | omega) (by first | decide | omega) ⟨rfl, ⟨_, (hw_sub (hw_sub (hw_sub (hw_up (hw_refl _ _) rfl) rfl) rfl) rfl).symm⟩, 8, rfl, (by first | decide | omega)⟩
    · skip
      refine r_ex hX hP 1 (pc' := 118) (st' := [(0, 7)]) (lo' := [(0, (2, this)), (1, (2, option_)), (2, (0, day)), (3, (0, l3_x102)), (4, (0, l4_x102))]) rfl ?_
      exact r_retI hX hP rfl rfl (by first | decide | omega) (by first | decide | omega) ⟨rfl, ⟨_, (hw_sub (hw_sub (hw_sub (hw_up (hw_refl _ _) rfl) rfl) rfl) rfl).symm⟩, 7, rfl, (by first | decide | omega)⟩
  have loop45 : ∀ (nF : Nat) (l3_h45 l4_h45 : Int) (Gh45 : Gh), (-2147483648) ≤ l3_h45 → l3_h45 ≤ 2147483647 → 0 ≤ l4_h45 → l4_h45 ≤ 16 → 16 - l4_h45 < (nF : Int) → X 0 0 45 [] [(0, (2, this)), (1, (2, option_)), (2, (0, day)), (3, (0, l3_h45)), (4, (0, l4_h45))] S (hw [(99, -1), (128, 2), (134, 0), (134, 1), (134, 2)] (hw [(99, -1), (134, 0), (134, 1), (134, 2)] (hw [(99, -1), (134, 0), (134, 1), (134, 2)] (up G 128 this 2 pf1) G5) G8) Gh45) := by
    intro nF
    induction nF with
    | zero => intro l3_h45 l4_h45 Gh45 yh45_0 yh45_1 yh45_2 yh45_3 ym45; exfalso; omega
    | succ nF ih45 =>
      intro l3_h45 l4_h45 Gh45 yh45_0 yh45_1 yh45_2 yh45_3 ym45
      refine r_ex hX hP 2 (pc' := 49) (st' := [(0, 16), (0, l4_h45)]) (lo' := [(0, (2, this)), (1, (2, option_)), (2, (0, day)), (3, (0, l3_h45)), (4, (0, l4_h45))]) rfl ?_
      refine r_ic_ge hX hP rfl (tgt := 102) rfl (by first | decide | omega) (by first | decide | omega) (by first | decide | omega) (by first | decide | omega) (fun c18 => ?_) (fun c18 => ?_)
      · skip
        refine r_eqG (X := X) (hw_sub (hw_refl [(99, -1), (128, 2), (134, 0), (134, 1), (134, 2)] _) rfl) ?_
        exact x102 l3_h45 l4_h45 _ (by first | decide | omega) (by first | decide | omega) (by first | decide | omega) (by first | decide | omega)
      · skip
        refine r_ex hX hP 3 (pc' := 55) (st' := [(0, day), (0, l3_h45), (2, this)]) (lo' := [(0, (2, this)), (1, (2, option_)), (2, (0, day)), (3, (0, l3_h45)), (4, (0, l4_h45))]) rfl ?_
        refine r_peekR hX (tl_128 8 rfl (by decide)) hS (fun evp19 evp19e evp19s => ?_)
        refine r_peekI hX (tl_156 2 rfl (by decide)) evp19s (fun sip20 sip20e sip20a sip20b => ?_)
        have ci21 : CI E S (hw [(99, -1), (128, 2), (134, 0), (134, 1), (134, 2)] (hw [(99, -1), (134, 0), (134, 1), (134, 2)] (hw [(99, -1), (134, 0), (134, 1), (134, 2)] (up G 128 this 2 pf1) G5) G8) Gh45) := (ci_hw (ci_hw (ci_hw (ci_up ci rfl) rfl) rfl) rfl)
        refine r_callV gd hX hP rfl cv_X11_373_128 hS (d' := 3) (mc' := 0) (ms' := 0) (as' := [(0, l3_h45), (0, day)]) (st := []) (by first | decide | omega) (by first | decide | omega) (by first | decide | omega) rfl rfl (Nat.le_of_ble_eq_true rfl) (c_X11_nextEvent E S (hw [(99, -1), (128, 2), (134, 0), (134, 1), (134, 2)] (hw [(99, -1), (134, 0), (134, 1), (134, 2)] (hw [(99, -1), (134, 0), (134, 1), (134, 2)] (up G 128 this 2 pf1) G5) G8) Gh45) this l3_h45 day hS evp19 evp19e evp19s sip20 sip20e (by first | decide | omega) (by first | decide | omega) (by first | decide | omega) (by first | decide | omega) ci21) ?_
        rintro _ _ _ ⟨rfl, rfl, z22, rfl, (rfl | ⟨z22a, z22b, f23⟩)⟩
        · skip
          refine r_ex hX hP 3 (pc' := 63) (st' := [(0, (-1)), (0, (-1))]) (lo' := [(0, (2, this)), (1, (2, option_)), (2, (0, day)), (3, (0, l3_h45)), (4, (0, l4_h45)), (5, (0, (-1)))]) rfl ?_
          refine r_ic_ne hX hP rfl (tgt := 69) rfl (by first | decide | omega) (by first | decide | omega) (by first | decide | omega) (by first | decide | omega) (fun c24 => ?_) (fun c24 => ?_)
          · skip
            exfalso; omega
          · skip
            refine r_ex hX hP 1 (pc' := 102) (st' := []) (lo' := [(0, (2, this)), (1, (2, option_)), (2, (0, day)), (3, (0, l3_h45)), (4, (0, l4_h45)), (5, (0, (-1)))]) rfl ?_
            refine r_pick hX [0, 1, 2, 3, 4] (lo' := [(0, (2, this)), (1, (2, option_)), (2, (0, day)), (3, (0, l3_h45)), (4, (0, l4_h45))]) rfl ?_
            refine r_eqG (X := X) (hw_sub (hw_refl [(99, -1), (128, 2), (134, 0), (134, 1), (134, 2)] _) rfl) ?_
            exact x102 l3_h45 l4_h45 _ (by first | decide | omega) (by first | decide | omega) (by first | decide | omega) (by first | decide | omega)
        · skip
          refine r_ex hX hP 3 (pc' := 63) (st' := [(0, (-1)), (0, z22)]) (lo' := [(0, (2, this)), (1, (2, option_)), (2, (0, day)), (3, (0, l3_h45)), (4, (0, l4_h45)), (5, (0, z22))]) rfl ?_
          refine r_ic_ne hX hP rfl (tgt := 69) rfl (by first | decide | omega) (by first | decide | omega) (by first | decide | omega) (by first | decide | omega) (fun c25 => ?_) (fun c25 => ?_)
          · skip
            refine r_ex hX hP 4 (pc' := 74) (st' := [(2, this), (2, this)]) (lo' := [(0, (2, this)), (1, (2, option_)), (2, (0, day)), (3, (0, z22)), (4, (0, l4_h45)), (5, (0, z22))]) rfl ?_
            refine r_getKR hX hP rfl fl_X11_37_128 hS (x := evp19) evp19e ?_
            refine r_ex hX hP 2 (pc' := 81) (st' := [(0, 64), (0, z22), (2, evp19), (2, this)]) (lo' := [(0, (2, this)), (1, (2, option_)), (2, (0, day)), (3, (0, z22)), (4, (0, l4_h45)), (5, (0, z22))]) rfl ?_
            refine r_irem hX hP rfl (by first | decide | omega) (by first | decide | omega) (by first | decide | omega) (by first | decide | omega) (by first | decide | omega) ?_
            obtain ⟨q26, q26e⟩ : ∃ q : Int, q = (Int.tmod z22 64) := ⟨_, rfl⟩
            rw [← q26e]
            have q26b := tm_pos q26e (by first | decide | omega) (by first | decide | omega)
            have q26f := tm_em q26e (by first | decide | omega)
            refine r_callV gd hX hP rfl cv_X11_196_156 evp19s (d' := 2) (mc' := 0) (ms' := 0) (as' := [(0, q26)]) (st := [(2, this)]) (by first | decide | omega) (by first | decide | omega) (by first | decide | omega) rfl rfl (Nat.le_of_ble_eq_true rfl) (c_get_Lev E S (hw [(99, -1), (128, 2), (134, 0), (134, 1), (134, 2)] (hw [(99, -1), (134, 0), (134, 1), (134, 2)] (hw [(99, -1), (134, 0), (134, 1), (134, 2)] (up G 128 this 2 pf1) G5) G8) Gh45) evp19 q26 evp19s sip20 sip20e (by first | decide | omega) (by first | decide | omega) (by first | decide | omega) ci21) ?_
            rintro _ _ _ ⟨rfl, rfl, z27, rfl, z27s⟩
            refine r_cast hX hP rfl (tbg sg4 200 rfl rfl) ck_137_X2 z27s ?_
            refine r_callV gd hX hP rfl cv_X11_376_128 hS (d' := 6) (mc' := 0) (ms' := 0) (as' := [(2, z27)]) (st := []) (by first | decide | omega) (by first | decide | omega) (by first | decide | omega) rfl rfl (Nat.le_of_ble_eq_true rfl) (c_X11_adjust E S (hw [(99, -1), (128, 2), (134, 0), (134, 1), (134, 2)] (hw [(99, -1), (134, 0), (134, 1), (134, 2)] (hw [(99, -1), (134, 0), (134, 1), (134, 2)] (up G 128 this 2 pf1) G5) G8) Gh45) this z27 hS z27s) ?_
            rintro _ _ _ ⟨rfl, ⟨G28, rfl⟩, z29, rfl, z29a, z29b⟩
            refine r_if_ne hX hP rfl (tgt := 96) rfl (by first | decide | omega) (by first | decide | omega) (fun c30 => ?_) (fun c30 => ?_)
            · skip
              refine r_ex hX hP 2 (pc' := 45) (st' := []) (lo' := [(0, (2, this)), (1, (2, option_)), (2, (0, day)), (3, (0, z22)), (4, (0, (l4_h45 + 1))), (5, (0, z22))]) rfl ?_
              refine r_pick hX [0, 1, 2, 3, 4] (lo' := [(0, (2, this)), (1, (2, option_)), (2, (0, day)), (3, (0, z22)), (4, (0, (l4_h45 + 1)))]) rfl ?_
              refine r_eqG (X := X) (hw_sub (hw_base _ _ _) rfl) ?_
              exact ih45 z22 (l4_h45 + 1) _ (by first | decide | omega) (by first | decide | omega) (by first | decide | omega) (by first | decide | omega) (by first | decide | omega)
            · skip
              refine r_ex hX hP 1 (pc' := 95) (st' := [(0, 5)]) (lo' := [(0, (2, this)), (1, (2, option_)), (2, (0, day)), (3, (0, z22)), (4, (0, l4_h45)), (5, (0, z22))]) rfl ?_
              exact r_retI hX hP rfl rfl (by first | decide | omega) (by first | decide | omega) ⟨rfl, ⟨_, (hw_sub (hw_sub (hw_sub (hw_sub (hw_up (hw_refl _ _) rfl) rfl) rfl) rfl) rfl).symm⟩, 5, rfl, (by first | decide | omega)⟩
          · skip
            exfalso; omega
  refine r_eqG (X := X) (hw_refl [(99, -1), (128, 2), (134, 0), (134, 1), (134, 2)] _) ?_
  exact loop45 ((16 - 0) + 1 : Int).toNat ((df9 * 64) - 1) 0 _ (by first | decide | omega) (by first | decide | omega) (by first | decide | omega) (by first | decide | omega) (by first | decide | omega)
set_option maxRecDepth 100000 in
set_option maxHeartbeats 4000000 in
theorem c_X11_optionOn (E : En) (S : Sg) (G : Gh) (this : Int) (option_ : Int) (day : Int) (hS : S this = 128) (option__a : (-2147483648) ≤ option_) (option__b : option_ ≤ 2147483647) (day_a : (-2147483648) ≤ day) (day_b : day ≤ 2147483647) (ci : CI E S G) : Calls E mX11_optionOn [(2, this), (0, option_), (0, day)] S G 8 0 0 (fun r S' G' => S = S' ∧ (∃ G1, hw [(99, -1), (128, 0), (128, 2), (134, 0), (134, 1), (134, 2)] G G1 = G') ∧ ∃ z : Int, r = some (0, z) ∧ (-2147483648) ≤ z ∧ z ≤ 2147483647) := by
  refine calls_by [(0, (2, this)), (1, (0, option_)), (2, (0, day))] rfl rfl (Nat.le_of_ble_eq_true rfl) (fun X hX => ?_)
  have hP := hPX11_optionOn
  refine r_ex hX hP 3 (pc' := 3) (st' := [(0, option_), (2, this), (2, this)]) (lo' := [(0, (2, this)), (1, (0, option_)), (2, (0, day))]) rfl ?_
  refine r_peekR hX (tl_128 10 rfl (by decide)) hS (fun opp1 opp1e opp1s => ?_)
  refine r_peekI hX (tl_158 2 rfl (by decide)) opp1s (fun sip2 sip2e sip2a sip2b => ?_)
  refine r_callV gd hX hP rfl cv_X11_348_128 hS (d' := 1) (mc' := 0) (ms' := 0) (as' := [(0, option_)]) (st := [(2, this)]) (by first | decide | omega) (by first | decide | omega) (by first | decide | omega) rfl rfl (Nat.le_of_ble_eq_true rfl) (c_X11_hasOption E S G this option_ hS opp1 opp1e opp1s sip2 sip2e (by first | decide | omega) (by first | decide | omega)) ?_
  rintro _ _ _ ⟨rfl, rfl, z3, rfl, (⟨rfl, f4, f5⟩ | rfl)⟩
  · skip
    refine r_if_ne hX hP rfl (tgt := 13) rfl (by first | decide | omega) (by first | decide | omega) (fun c6 => ?_) (fun c6 => ?_)
    · skip
      refine r_ex hX hP 4 (pc' := 17) (st' := [(0, day), (0, option_), (2, this), (0, 0), (2, this)]) (lo' := [(0, (2, this)), (1, (0, option_)), (2, (0, day))]) rfl ?_
      refine r_callV gd hX hP rfl cv_X11_351_128 hS (d' := 3) (mc' := 0) (ms' := 0) (as' := [(0, option_), (0, day)]) (st := [(0, 0), (2, this)]) (by first | decide | omega) (by first | decide | omega) (by first | decide | omega) rfl rfl (Nat.le_of_ble_eq_true rfl) (c_X11_isOptionDay E S G this option_ day hS (by first | decide | omega) (by first | decide | omega) (by first | decide | omega) (by first | decide | omega) ci) ?_
      rintro _ _ _ ⟨rfl, rfl, z7, rfl, z7a, z7b⟩
      refine r_if_ne hX hP rfl (tgt := 27) rfl (by first | decide | omega) (by first | decide | omega) (fun c8 => ?_) (fun c8 => ?_)
      · skip
        refine r_ex hX hP 3 (pc' := 30) (st' := [(0, 0), (0, 0), (0, 0), (0, 0), (2, this)]) (lo' := [(0, (2, this)), (1, (0, option_)), (2, (0, day))]) rfl ?_
        refine r_callS gd hX hP rfl cs_X11_112 (d' := 0) (mc' := 0) (ms' := 0) (as' := [(0, 0), (0, 0), (0, 0), (0, 0)]) (st := [(2, this)]) (by first | decide | omega) (by first | decide | omega) (by first | decide | omega) rfl rfl (Nat.le_of_ble_eq_true rfl) (c_X11_first E S G 0 0 0 0 (by first | decide | omega) (by first | decide | omega) (by first | decide | omega) (by first | decide | omega) (by first | decide | omega) (by first | decide | omega) (by first | decide | omega) (by first | decide | omega)) ?_
        rintro _ _ _ ⟨rfl, rfl, z9, rfl, (⟨rfl, f10⟩ | ⟨rfl, f11, f12⟩ | ⟨rfl, f13, f14, f15⟩ | ⟨rfl, f16, f17, f18, f19⟩ | ⟨rfl, f20, f21, f22, f23⟩)⟩
        · skip
          exfalso; omega
        · skip
          exfalso; omega
        · skip
          exfalso; omega
        · skip
          exfalso; omega
        · skip
          refine r_callV gd hX hP rfl cv_X11_90_128 hS (d' := 0) (mc' := 0) (ms' := 0) (as' := [(0, 0)]) (st := []) (by first | decide | omega) (by first | decide | omega) (by first | decide | omega) rfl rfl (Nat.le_of_ble_eq_true rfl) (c_X11_refused E S G this 0 hS (by first | decide | omega) (by first | decide | omega)) ?_
          rintro _ _ _ ⟨rfl, ⟨G24, rfl⟩, z25, rfl, (⟨rfl, f26⟩ | ⟨rfl, f27⟩)⟩
          · skip
            exfalso; omega
          · skip
            refine r_if_eq hX hP rfl (tgt := 41) rfl (by first | decide | omega) (by first | decide | omega) (fun c28 => ?_) (fun c28 => ?_)
            · skip
              refine r_ex hX hP 3 (pc' := 44) (st' := [(2, this), (2, this), (2, this)]) (lo' := [(0, (2, this)), (1, (0, option_)), (2, (0, day))]) rfl ?_
              refine r_getKR hX hP rfl fl_X11_45_128 hS (x := opp1) opp1e ?_
              refine r_ex hX hP 1 (pc' := 48) (st' := [(0, option_), (2, opp1), (2, this), (2, this)]) (lo' := [(0, (2, this)), (1, (0, option_)), (2, (0, day))]) rfl ?_
              have ci29 : CI E S (hw [(128, 0)] G G24) := (ci_hw ci rfl)
              refine r_callV gd hX hP rfl cv_X11_196_158 opp1s (d' := 2) (mc' := 0) (ms' := 0) (as' := [(0, option_)]) (st := [(2, this), (2, this)]) (by first | decide | omega) (by first | decide | omega) (by first | decide | omega) rfl rfl (Nat.le_of_ble_eq_true rfl) (c_get_Lop E S (hw [(128, 0)] G G24) opp1 option_ opp1s sip2 sip2e (by first | decide | omega) (by first | decide | omega) (by first | decide | omega) ci29) ?_
              rintro _ _ _ ⟨rfl, rfl, z30, rfl, z30s⟩
              refine r_cast hX hP rfl (tbg sg3 16 rfl rfl) ck_141_X1 z30s ?_
              refine r_ex hX hP 1 (pc' := 55) (st' := [(0, day), (2, z30), (2, this), (2, this)]) (lo' := [(0, (2, this)), (1, (0, option_)), (2, (0, day))]) rfl ?_
              refine r_callV gd hX hP rfl cv_X11_354_128 hS (d' := 7) (mc' := 0) (ms' := 0) (as' := [(2, z30), (0, day)]) (st := [(2, this)]) (by first | decide | omega) (by first | decide | omega) (by first | decide | omega) rfl rfl (Nat.le_of_ble_eq_true rfl) (c_X11_follow E S (hw [(128, 0)] G G24) this z30 day hS z30s (by first | decide | omega) (by first | decide | omega) ci29) ?_
              rintro _ _ _ ⟨rfl, ⟨G31, rfl⟩, z32, rfl, z32a, z32b⟩
              refine r_callV gd hX hP rfl cv_X11_90_128 hS (d' := 0) (mc' := 0) (ms' := 0) (as' := [(0, z32)]) (st := []) (by first | decide | omega) (by first | decide | omega) (by first | decide | omega) rfl rfl (Nat.le_of_ble_eq_true rfl) (c_X11_refused E S (hw [(99, -1), (128, 2), (134, 0), (134, 1), (134, 2)] (hw [(128, 0)] G G24) G31) this z32 hS (by first | decide | omega) (by first | decide | omega)) ?_
              rintro _ _ _ ⟨rfl, ⟨G33, rfl⟩, z34, rfl, (⟨rfl, f35⟩ | ⟨rfl, f36⟩)⟩
              · skip
                refine r_if_eq hX hP rfl (tgt := 66) rfl (by first | decide | omega) (by first | decide | omega) (fun c37 => ?_) (fun c37 => ?_)
                · skip
                  exfalso; omega
                · skip
                  refine r_ex hX hP 1 (pc' := 65) (st' := [(0, (-1))]) (lo' := [(0, (2, this)), (1, (0, option_)), (2, (0, day))]) rfl ?_
                  exact r_retI hX hP rfl rfl (by first | decide | omega) (by first | decide | omega) ⟨rfl, ⟨_, (hw_sub (hw_sub (hw_sub (hw_refl _ _) rfl) rfl) rfl).symm⟩, (-1), rfl, (by first | decide | omega)⟩
              · skip
                refine r_if_eq hX hP rfl (tgt := 66) rfl (by first | decide | omega) (by first | decide | omega) (fun c38 => ?_) (fun c38 => ?_)
                · skip
                  refine r_ex hX hP 1 (pc' := 67) (st' := [(2, this)]) (lo' := [(0, (2, this)), (1, (0, option_)), (2, (0, day))]) rfl ?_
                  refine r_getI hX hP rfl fl_X11_358_128 hS (fun of39 of39e of39a of39b => ?_)
                  exact r_retI hX hP rfl rfl (by first | decide | omega) (by first | decide | omega) ⟨rfl, ⟨_, (hw_sub (hw_sub (hw_sub (hw_refl _ _) rfl) rfl) rfl).symm⟩, of39, rfl, (by first | decide | omega)⟩
                · skip
                  exfalso; omega
            · skip
              exfalso; omega
      · skip
        refine r_ex hX hP 4 (pc' := 30) (st' := [(0, 0), (0, 0), (0, 1), (0, 0), (2, this)]) (lo' := [(0, (2, this)), (1, (0, option_)), (2, (0, day))]) rfl ?_
        refine r_callS gd hX hP rfl cs_X11_112 (d' := 0) (mc' := 0) (ms' := 0) (as' := [(0, 0), (0, 1), (0, 0), (0, 0)]) (st := [(2, this)]) (by first | decide | omega) (by first | decide | omega) (by first | decide | omega) rfl rfl (Nat.le_of_ble_eq_true rfl) (c_X11_first E S G 0 1 0 0 (by first | decide | omega) (by first | decide | omega) (by first | decide | omega) (by first | decide | omega) (by first | decide | omega) (by first | decide | omega) (by first | decide | omega) (by first | decide | omega)) ?_
        rintro _ _ _ ⟨rfl, rfl, z40, rfl, (⟨rfl, f41⟩ | ⟨rfl, f42, f43⟩ | ⟨rfl, f44, f45, f46⟩ | ⟨rfl, f47, f48, f49, f50⟩ | ⟨rfl, f51, f52, f53, f54⟩)⟩
        · skip
          exfalso; omega
        · skip
          refine r_callV gd hX hP rfl cv_X11_90_128 hS (d' := 0) (mc' := 0) (ms' := 0) (as' := [(0, 2)]) (st := []) (by first | decide | omega) (by first | decide | omega) (by first | decide | omega) rfl rfl (Nat.le_of_ble_eq_true rfl) (c_X11_refused E S G this 2 hS (by first | decide | omega) (by first | decide | omega)) ?_
          rintro _ _ _ ⟨rfl, ⟨G55, rfl⟩, z56, rfl, (⟨rfl, f57⟩ | ⟨rfl, f58⟩)⟩
          · skip
            refine r_if_eq hX hP rfl (tgt := 41) rfl (by first | decide | omega) (by first | decide | omega) (fun c59 => ?_) (fun c59 => ?_)
            · skip
              exfalso; omega
            · skip
              refine r_ex hX hP 1 (pc' := 40) (st' := [(0, (-1))]) (lo' := [(0, (2, this)), (1, (0, option_)), (2, (0, day))]) rfl ?_
              exact r_retI hX hP rfl rfl (by first | decide | omega) (by first | decide | omega) ⟨rfl, ⟨_, (hw_sub (hw_refl _ _) rfl).symm⟩, (-1), rfl, (by first | decide | omega)⟩
          · skip
            exfalso; omega
        · skip
          exfalso; omega
        · skip
          exfalso; omega
        · skip
          exfalso; omega
    · skip
      exfalso; omega
  · skip
    refine r_if_ne hX hP rfl (tgt := 13) rfl (by first | decide | omega) (by first | decide | omega) (fun c60 => ?_) (fun c60 => ?_)
    · skip
      exfalso; omega
    · skip
      refine r_ex hX hP 5 (pc' := 17) (st' := [(0, day), (0, option_), (2, this), (0, 1), (2, this)]) (lo' := [(0, (2, this)), (1, (0, option_)), (2, (0, day))]) rfl ?_
      refine r_callV gd hX hP rfl cv_X11_351_128 hS (d' := 3) (mc' := 0) (ms' := 0) (as' := [(0, option_), (0, day)]) (st := [(0, 1), (2, this)]) (by first | decide | omega) (by first | decide | omega) (by first | decide | omega) rfl rfl (Nat.le_of_ble_eq_true rfl) (c_X11_isOptionDay E S G this option_ day hS (by first | decide | omega) (by first | decide | omega) (by first | decide | omega) (by first | decide | omega) ci) ?_
      rintro _ _ _ ⟨rfl, rfl, z61, rfl, z61a, z61b⟩
      refine r_if_ne hX hP rfl (tgt := 27) rfl (by first | decide | omega) (by first | decide | omega) (fun c62 => ?_) (fun c62 => ?_)
      · skip
        refine r_ex hX hP 3 (pc' := 30) (st' := [(0, 0), (0, 0), (0, 0), (0, 1), (2, this)]) (lo' := [(0, (2, this)), (1, (0, option_)), (2, (0, day))]) rfl ?_
        refine r_callS gd hX hP rfl cs_X11_112 (d' := 0) (mc' := 0) (ms' := 0) (as' := [(0, 1), (0, 0), (0, 0), (0, 0)]) (st := [(2, this)]) (by first | decide | omega) (by first | decide | omega) (by first | decide | omega) rfl rfl (Nat.le_of_ble_eq_true rfl) (c_X11_first E S G 1 0 0 0 (by first | decide | omega) (by first | decide | omega) (by first | decide | omega) (by first | decide | omega) (by first | decide | omega) (by first | decide | omega) (by first | decide | omega) (by first | decide | omega)) ?_
        rintro _ _ _ ⟨rfl, rfl, z63, rfl, (⟨rfl, f64⟩ | ⟨rfl, f65, f66⟩ | ⟨rfl, f67, f68, f69⟩ | ⟨rfl, f70, f71, f72, f73⟩ | ⟨rfl, f74, f75, f76, f77⟩)⟩
        · skip
          refine r_callV gd hX hP rfl cv_X11_90_128 hS (d' := 0) (mc' := 0) (ms' := 0) (as' := [(0, 1)]) (st := []) (by first | decide | omega) (by first | decide | omega) (by first | decide | omega) rfl rfl (Nat.le_of_ble_eq_true rfl) (c_X11_refused E S G this 1 hS (by first | decide | omega) (by first | decide | omega)) ?_
          rintro _ _ _ ⟨rfl, ⟨G78, rfl⟩, z79, rfl, (⟨rfl, f80⟩ | ⟨rfl, f81⟩)⟩
          · skip
            refine r_if_eq hX hP rfl (tgt := 41) rfl (by first | decide | omega) (by first | decide | omega) (fun c82 => ?_) (fun c82 => ?_)
            · skip
              exfalso; omega
            · skip
              refine r_ex hX hP 1 (pc' := 40) (st' := [(0, (-1))]) (lo' := [(0, (2, this)), (1, (0, option_)), (2, (0, day))]) rfl ?_
              exact r_retI hX hP rfl rfl (by first | decide | omega) (by first | decide | omega) ⟨rfl, ⟨_, (hw_sub (hw_refl _ _) rfl).symm⟩, (-1), rfl, (by first | decide | omega)⟩
          · skip
            exfalso; omega
        · skip
          exfalso; omega
        · skip
          exfalso; omega
        · skip
          exfalso; omega
        · skip
          exfalso; omega
      · skip
        refine r_ex hX hP 4 (pc' := 30) (st' := [(0, 0), (0, 0), (0, 1), (0, 1), (2, this)]) (lo' := [(0, (2, this)), (1, (0, option_)), (2, (0, day))]) rfl ?_
        refine r_callS gd hX hP rfl cs_X11_112 (d' := 0) (mc' := 0) (ms' := 0) (as' := [(0, 1), (0, 1), (0, 0), (0, 0)]) (st := [(2, this)]) (by first | decide | omega) (by first | decide | omega) (by first | decide | omega) rfl rfl (Nat.le_of_ble_eq_true rfl) (c_X11_first E S G 1 1 0 0 (by first | decide | omega) (by first | decide | omega) (by first | decide | omega) (by first | decide | omega) (by first | decide | omega) (by first | decide | omega) (by first | decide | omega) (by first | decide | omega)) ?_
        rintro _ _ _ ⟨rfl, rfl, z83, rfl, (⟨rfl, f84⟩ | ⟨rfl, f85, f86⟩ | ⟨rfl, f87, f88, f89⟩ | ⟨rfl, f90, f91, f92, f93⟩ | ⟨rfl, f94, f95, f96, f97⟩)⟩
        · skip
          refine r_callV gd hX hP rfl cv_X11_90_128 hS (d' := 0) (mc' := 0) (ms' := 0) (as' := [(0, 1)]) (st := []) (by first | decide | omega) (by first | decide | omega) (by first | decide | omega) rfl rfl (Nat.le_of_ble_eq_true rfl) (c_X11_refused E S G this 1 hS (by first | decide | omega) (by first | decide | omega)) ?_
          rintro _ _ _ ⟨rfl, ⟨G98, rfl⟩, z99, rfl, (⟨rfl, f100⟩ | ⟨rfl, f101⟩)⟩
          · skip
            refine r_if_eq hX hP rfl (tgt := 41) rfl (by first | decide | omega) (by first | decide | omega) (fun c102 => ?_) (fun c102 => ?_)
            · skip
              exfalso; omega
            · skip
              refine r_ex hX hP 1 (pc' := 40) (st' := [(0, (-1))]) (lo' := [(0, (2, this)), (1, (0, option_)), (2, (0, day))]) rfl ?_
              exact r_retI hX hP rfl rfl (by first | decide | omega) (by first | decide | omega) ⟨rfl, ⟨_, (hw_sub (hw_refl _ _) rfl).symm⟩, (-1), rfl, (by first | decide | omega)⟩
          · skip
            exfalso; omega
        · skip
          exfalso; omega
        · skip
          exfalso; omega
        · skip
          exfalso; omega
        · skip
          exfalso; omega
set_option maxRecDepth 100000 in
set_option maxHeartbeats 4000000 in
theorem c_X11_term (E : En) (S : Sg) (G : Gh) (this : Int) (option_ : Int) (what : Int) (day : Int) (hS : S this = 128) (option__a : (-2147483648) ≤ option_) (option__b : option_ ≤ 2147483647) (what_a : (-2147483648) ≤ what) (what_b : what ≤ 2147483647) (day_a : (-2147483648) ≤ day) (day_b : day ≤ 2147483647) (ci : CI E S G) : Calls E mX11_term [(2, this), (0, option_), (0, what), (0, day)] S G 8 0 0 (fun r S' G' => S = S' ∧ (∃ G1, hw [(99, -1), (128, 0), (128, 2), (128, 3), (128, 4), (134, 0), (134, 1), (134, 2)] G G1 = G') ∧ ∃ z : Int, r = some (0, z) ∧ 0 ≤ z ∧ z ≤ 1) := by
  refine calls_by [(0, (2, this)), (1, (0, option_)), (2, (0, what)), (3, (0, day))] rfl rfl (Nat.le_of_ble_eq_true rfl) (fun X hX => ?_)
  have hP := hPX11_term
  refine r_ex hX hP 3 (pc' := 3) (st' := [(0, 1), (0, 0), (0, what)]) (lo' := [(0, (2, this)), (1, (0, option_)), (2, (0, what)), (3, (0, day))]) rfl ?_
  refine r_callS gd hX hP rfl cs_X11_103 (d' := 0) (mc' := 0) (ms' := 0) (as' := [(0, what), (0, 0), (0, 1)]) (st := []) (by first | decide | omega) (by first | decide | omega) (by first | decide | omega) rfl rfl (Nat.le_of_ble_eq_true rfl) (c_X11_within E S G what 0 1 (by first | decide | omega) (by first | decide | omega) (by first | decide | omega) (by first | decide | omega) (by first | decide | omega) (by first | decide | omega)) ?_
  rintro _ _ _ ⟨rfl, rfl, z1, rfl, (⟨rfl, f2, f3⟩ | ⟨rfl, f4⟩)⟩
  · skip
    refine r_if_eq hX hP rfl (tgt := 18) rfl (by first | decide | omega) (by first | decide | omega) (fun c5 => ?_) (fun c5 => ?_)
    · skip
      exfalso; omega
    · skip
      refine r_ex hX hP 3 (pc' := 12) (st' := [(0, day), (0, option_), (2, this)]) (lo' := [(0, (2, this)), (1, (0, option_)), (2, (0, what)), (3, (0, day))]) rfl ?_
      refine r_callV gd hX hP rfl cv_X11_351_128 hS (d' := 3) (mc' := 0) (ms' := 0) (as' := [(0, option_), (0, day)]) (st := []) (by first | decide | omega) (by first | decide | omega) (by first | decide | omega) rfl rfl (Nat.le_of_ble_eq_true rfl) (c_X11_isOptionDay E S G this option_ day hS (by first | decide | omega) (by first | decide | omega) (by first | decide | omega) (by first | decide | omega) ci) ?_
      rintro _ _ _ ⟨rfl, rfl, z6, rfl, z6a, z6b⟩
      refine r_if_ne hX hP rfl (tgt := 22) rfl (by first | decide | omega) (by first | decide | omega) (fun c7 => ?_) (fun c7 => ?_)
      · skip
        refine r_ex hX hP 5 (pc' := 28) (st' := [(0, option_), (2, this), (2, this)]) (lo' := [(0, (2, this)), (1, (0, option_)), (2, (0, what)), (3, (0, day)), (4, (0, 0))]) rfl ?_
        refine r_peekR hX (tl_128 10 rfl (by decide)) hS (fun opp8 opp8e opp8s => ?_)
        refine r_peekI hX (tl_158 2 rfl (by decide)) opp8s (fun sip9 sip9e sip9a sip9b => ?_)
        refine r_callV gd hX hP rfl cv_X11_348_128 hS (d' := 1) (mc' := 0) (ms' := 0) (as' := [(0, option_)]) (st := [(2, this)]) (by first | decide | omega) (by first | decide | omega) (by first | decide | omega) rfl rfl (Nat.le_of_ble_eq_true rfl) (c_X11_hasOption E S G this option_ hS opp8 opp8e opp8s sip9 sip9e (by first | decide | omega) (by first | decide | omega)) ?_
        rintro _ _ _ ⟨rfl, rfl, z10, rfl, (⟨rfl, f11, f12⟩ | rfl)⟩
        · skip
          refine r_if_ne hX hP rfl (tgt := 38) rfl (by first | decide | omega) (by first | decide | omega) (fun c13 => ?_) (fun c13 => ?_)
          · skip
            refine r_ex hX hP 4 (pc' := 43) (st' := [(0, 0), (0, 0), (0, 0), (0, 0), (2, this)]) (lo' := [(0, (2, this)), (1, (0, option_)), (2, (0, what)), (3, (0, day)), (4, (0, 0))]) rfl ?_
            refine r_callS gd hX hP rfl cs_X11_112 (d' := 0) (mc' := 0) (ms' := 0) (as' := [(0, 0), (0, 0), (0, 0), (0, 0)]) (st := [(2, this)]) (by first | decide | omega) (by first | decide | omega) (by first | decide | omega) rfl rfl (Nat.le_of_ble_eq_true rfl) (c_X11_first E S G 0 0 0 0 (by first | decide | omega) (by first | decide | omega) (by first | decide | omega) (by first | decide | omega) (by first | decide | omega) (by first | decide | omega) (by first | decide | omega) (by first | decide | omega)) ?_
            rintro _ _ _ ⟨rfl, rfl, z14, rfl, (⟨rfl, f15⟩ | ⟨rfl, f16, f17⟩ | ⟨rfl, f18, f19, f20⟩ | ⟨rfl, f21, f22, f23, f24⟩ | ⟨rfl, f25, f26, f27, f28⟩)⟩
            · skip
              exfalso; omega
            · skip
              exfalso; omega
            · skip
              exfalso; omega
            · skip
              exfalso; omega
            · skip
              refine r_callV gd hX hP rfl cv_X11_90_128 hS (d' := 0) (mc' := 0) (ms' := 0) (as' := [(0, 0)]) (st := []) (by first | decide | omega) (by first | decide | omega) (by first | decide | omega) rfl rfl (Nat.le_of_ble_eq_true rfl) (c_X11_refused E S G this 0 hS (by first | decide | omega) (by first | decide | omega)) ?_
              rintro _ _ _ ⟨rfl, ⟨G29, rfl⟩, z30, rfl, (⟨rfl, f31⟩ | ⟨rfl, f32⟩)⟩
              · skip
                exfalso; omega
              · skip
                refine r_if_eq hX hP rfl (tgt := 54) rfl (by first | decide | omega) (by first | decide | omega) (fun c33 => ?_) (fun c33 => ?_)
                · skip
                  refine r_ex hX hP 3 (pc' := 57) (st' := [(2, this), (2, this), (2, this)]) (lo' := [(0, (2, this)), (1, (0, option_)), (2, (0, what)), (3, (0, day)), (4, (0, 0))]) rfl ?_
                  refine r_getKR hX hP rfl fl_X11_45_128 hS (x := opp8) opp8e ?_
                  refine r_ex hX hP 1 (pc' := 61) (st' := [(0, option_), (2, opp8), (2, this), (2, this)]) (lo' := [(0, (2, this)), (1, (0, option_)), (2, (0, what)), (3, (0, day)), (4, (0, 0))]) rfl ?_
                  have ci34 : CI E S (hw [(128, 0)] G G29) := (ci_hw ci rfl)
                  refine r_callV gd hX hP rfl cv_X11_196_158 opp8s (d' := 2) (mc' := 0) (ms' := 0) (as' := [(0, option_)]) (st := [(2, this), (2, this)]) (by first | decide | omega) (by first | decide | omega) (by first | decide | omega) rfl rfl (Nat.le_of_ble_eq_true rfl) (c_get_Lop E S (hw [(128, 0)] G G29) opp8 option_ opp8s sip9 sip9e (by first | decide | omega) (by first | decide | omega) (by first | decide | omega) ci34) ?_
                  rintro _ _ _ ⟨rfl, rfl, z35, rfl, z35s⟩
                  refine r_cast hX hP rfl (tbg sg3 16 rfl rfl) ck_141_X1 z35s ?_
                  refine r_ex hX hP 1 (pc' := 68) (st' := [(0, day), (2, z35), (2, this), (2, this)]) (lo' := [(0, (2, this)), (1, (0, option_)), (2, (0, what)), (3, (0, day)), (4, (0, 0))]) rfl ?_
                  refine r_callV gd hX hP rfl cv_X11_354_128 hS (d' := 7) (mc' := 0) (ms' := 0) (as' := [(2, z35), (0, day)]) (st := [(2, this)]) (by first | decide | omega) (by first | decide | omega) (by first | decide | omega) rfl rfl (Nat.le_of_ble_eq_true rfl) (c_X11_follow E S (hw [(128, 0)] G G29) this z35 day hS z35s (by first | decide | omega) (by first | decide | omega) ci34) ?_
                  rintro _ _ _ ⟨rfl, ⟨G36, rfl⟩, z37, rfl, z37a, z37b⟩
                  refine r_callV gd hX hP rfl cv_X11_90_128 hS (d' := 0) (mc' := 0) (ms' := 0) (as' := [(0, z37)]) (st := []) (by first | decide | omega) (by first | decide | omega) (by first | decide | omega) rfl rfl (Nat.le_of_ble_eq_true rfl) (c_X11_refused E S (hw [(99, -1), (128, 2), (134, 0), (134, 1), (134, 2)] (hw [(128, 0)] G G29) G36) this z37 hS (by first | decide | omega) (by first | decide | omega)) ?_
                  rintro _ _ _ ⟨rfl, ⟨G38, rfl⟩, z39, rfl, (⟨rfl, f40⟩ | ⟨rfl, f41⟩)⟩
                  · skip
                    refine r_if_eq hX hP rfl (tgt := 79) rfl (by first | decide | omega) (by first | decide | omega) (fun c42 => ?_) (fun c42 => ?_)
                    · skip
                      exfalso; omega
                    · skip
                      refine r_ex hX hP 1 (pc' := 78) (st' := [(0, 0)]) (lo' := [(0, (2, this)), (1, (0, option_)), (2, (0, what)), (3, (0, day)), (4, (0, 0))]) rfl ?_
                      exact r_retZ hX hP rfl rfl (by first | decide | omega) (by first | decide | omega) (by first | decide | omega) (by first | decide | omega) ⟨rfl, ⟨_, (hw_sub (hw_sub (hw_sub (hw_refl _ _) rfl) rfl) rfl).symm⟩, 0, rfl, (by first | decide | omega)⟩
                  · skip
                    refine r_if_eq hX hP rfl (tgt := 79) rfl (by first | decide | omega) (by first | decide | omega) (fun c43 => ?_) (fun c43 => ?_)
                    · skip
                      refine r_ex hX hP 1 (pc' := 80) (st' := [(0, what)]) (lo' := [(0, (2, this)), (1, (0, option_)), (2, (0, what)), (3, (0, day)), (4, (0, 0))]) rfl ?_
                      refine r_if_ne hX hP rfl (tgt := 90) rfl (by first | decide | omega) (by first | decide | omega) (fun c44 => ?_) (fun c44 => ?_)
                      · skip
                        refine r_ex hX hP 1 (pc' := 91) (st' := [(2, this)]) (lo' := [(0, (2, this)), (1, (0, option_)), (2, (0, what)), (3, (0, day)), (4, (0, 0))]) rfl ?_
                        refine r_getR hX hP rfl fl_X11_62_128 hS (fun nf45 nf45e nf45s => ?_)
                        refine r_ex hX hP 3 (pc' := 99) (st' := [(2, nf45), (2, this)]) (lo' := [(0, (2, this)), (1, (0, option_)), (2, (0, what)), (3, (0, day)), (4, (0, 0)), (5, (2, nf45))]) rfl ?_
                        refine r_getL hX hP rfl fl_X11_361_134 nf45s (fun af46 af46e af46a af46b => ?_)
                        refine r_putLK hX hP rfl fp_X11_364_128 hS (by first | decide | omega) (by first | decide | omega) (fun h47 => ?_)
                        refine r_ex hX hP 2 (pc' := 108) (st' := [(2, nf45), (2, this)]) (lo' := [(0, (2, this)), (1, (0, option_)), (2, (0, what)), (3, (0, day)), (4, (0, 0)), (5, (2, nf45))]) rfl ?_
                        refine r_getL hX hP rfl fl_X11_367_134 nf45s (fun bf48 bf48e bf48a bf48b => ?_)
                        refine r_putLK hX hP rfl fp_X11_9_128 hS (by first | decide | omega) (by first | decide | omega) (fun h49 => ?_)
                        refine r_ex hX hP 1 (pc' := 115) (st' := [(0, 1)]) (lo' := [(0, (2, this)), (1, (0, option_)), (2, (0, what)), (3, (0, day)), (4, (0, 0)), (5, (2, nf45))]) rfl ?_
                        exact r_retZ hX hP rfl rfl (by first | decide | omega) (by first | decide | omega) (by first | decide | omega) (by first | decide | omega) ⟨rfl, ⟨_, (hw_up (hw_up (hw_sub (hw_sub (hw_sub (hw_refl _ _) rfl) rfl) rfl) rfl) rfl).symm⟩, 1, rfl, (by first | decide | omega)⟩
                      · skip
                        refine r_ex hX hP 1 (pc' := 84) (st' := [(2, this)]) (lo' := [(0, (2, this)), (1, (0, option_)), (2, (0, what)), (3, (0, day)), (4, (0, 0))]) rfl ?_
                        refine r_getR hX hP rfl fl_X11_58_128 hS (fun sf50 sf50e sf50s => ?_)
                        refine r_ex hX hP 4 (pc' := 99) (st' := [(2, sf50), (2, this)]) (lo' := [(0, (2, this)), (1, (0, option_)), (2, (0, what)), (3, (0, day)), (4, (0, 0)), (5, (2, sf50))]) rfl ?_
                        refine r_getL hX hP rfl fl_X11_361_134 sf50s (fun af51 af51e af51a af51b => ?_)
                        refine r_putLK hX hP rfl fp_X11_364_128 hS (by first | decide | omega) (by first | decide | omega) (fun h52 => ?_)
                        refine r_ex hX hP 2 (pc' := 108) (st' := [(2, sf50), (2, this)]) (lo' := [(0, (2, this)), (1, (0, option_)), (2, (0, what)), (3, (0, day)), (4, (0, 0)), (5, (2, sf50))]) rfl ?_
                        refine r_getL hX hP rfl fl_X11_367_134 sf50s (fun bf53 bf53e bf53a bf53b => ?_)
                        refine r_putLK hX hP rfl fp_X11_9_128 hS (by first | decide | omega) (by first | decide | omega) (fun h54 => ?_)
                        refine r_ex hX hP 1 (pc' := 115) (st' := [(0, 1)]) (lo' := [(0, (2, this)), (1, (0, option_)), (2, (0, what)), (3, (0, day)), (4, (0, 0)), (5, (2, sf50))]) rfl ?_
                        exact r_retZ hX hP rfl rfl (by first | decide | omega) (by first | decide | omega) (by first | decide | omega) (by first | decide | omega) ⟨rfl, ⟨_, (hw_up (hw_up (hw_sub (hw_sub (hw_sub (hw_refl _ _) rfl) rfl) rfl) rfl) rfl).symm⟩, 1, rfl, (by first | decide | omega)⟩
                    · skip
                      exfalso; omega
                · skip
                  exfalso; omega
          · skip
            exfalso; omega
        · skip
          refine r_if_ne hX hP rfl (tgt := 38) rfl (by first | decide | omega) (by first | decide | omega) (fun c55 => ?_) (fun c55 => ?_)
          · skip
            exfalso; omega
          · skip
            refine r_ex hX hP 5 (pc' := 43) (st' := [(0, 0), (0, 0), (0, 0), (0, 1), (2, this)]) (lo' := [(0, (2, this)), (1, (0, option_)), (2, (0, what)), (3, (0, day)), (4, (0, 0))]) rfl ?_
            refine r_callS gd hX hP rfl cs_X11_112 (d' := 0) (mc' := 0) (ms' := 0) (as' := [(0, 1), (0, 0), (0, 0), (0, 0)]) (st := [(2, this)]) (by first | decide | omega) (by first | decide | omega) (by first | decide | omega) rfl rfl (Nat.le_of_ble_eq_true rfl) (c_X11_first E S G 1 0 0 0 (by first | decide | omega) (by first | decide | omega) (by first | decide | omega) (by first | decide | omega) (by first | decide | omega) (by first | decide | omega) (by first | decide | omega) (by first | decide | omega)) ?_
            rintro _ _ _ ⟨rfl, rfl, z56, rfl, (⟨rfl, f57⟩ | ⟨rfl, f58, f59⟩ | ⟨rfl, f60, f61, f62⟩ | ⟨rfl, f63, f64, f65, f66⟩ | ⟨rfl, f67, f68, f69, f70⟩)⟩
            · skip
              refine r_callV gd hX hP rfl cv_X11_90_128 hS (d' := 0) (mc' := 0) (ms' := 0) (as' := [(0, 1)]) (st := []) (by first | decide | omega) (by first | decide | omega) (by first | decide | omega) rfl rfl (Nat.le_of_ble_eq_true rfl) (c_X11_refused E S G this 1 hS (by first | decide | omega) (by first | decide | omega)) ?_
              rintro _ _ _ ⟨rfl, ⟨G71, rfl⟩, z72, rfl, (⟨rfl, f73⟩ | ⟨rfl, f74⟩)⟩
              · skip
                refine r_if_eq hX hP rfl (tgt := 54) rfl (by first | decide | omega) (by first | decide | omega) (fun c75 => ?_) (fun c75 => ?_)
                · skip
                  exfalso; omega
                · skip
                  refine r_ex hX hP 1 (pc' := 53) (st' := [(0, 0)]) (lo' := [(0, (2, this)), (1, (0, option_)), (2, (0, what)), (3, (0, day)), (4, (0, 0))]) rfl ?_
                  exact r_retZ hX hP rfl rfl (by first | decide | omega) (by first | decide | omega) (by first | decide | omega) (by first | decide | omega) ⟨rfl, ⟨_, (hw_sub (hw_refl _ _) rfl).symm⟩, 0, rfl, (by first | decide | omega)⟩
              · skip
                exfalso; omega
            · skip
              exfalso; omega
            · skip
              exfalso; omega
            · skip
              exfalso; omega
            · skip
              exfalso; omega
      · skip
        refine r_ex hX hP 6 (pc' := 28) (st' := [(0, option_), (2, this), (2, this)]) (lo' := [(0, (2, this)), (1, (0, option_)), (2, (0, what)), (3, (0, day)), (4, (0, 1))]) rfl ?_
        refine r_peekR hX (tl_128 10 rfl (by decide)) hS (fun opp76 opp76e opp76s => ?_)
        refine r_peekI hX (tl_158 2 rfl (by decide)) opp76s (fun sip77 sip77e sip77a sip77b => ?_)
        refine r_callV gd hX hP rfl cv_X11_348_128 hS (d' := 1) (mc' := 0) (ms' := 0) (as' := [(0, option_)]) (st := [(2, this)]) (by first | decide | omega) (by first | decide | omega) (by first | decide | omega) rfl rfl (Nat.le_of_ble_eq_true rfl) (c_X11_hasOption E S G this option_ hS opp76 opp76e opp76s sip77 sip77e (by first | decide | omega) (by first | decide | omega)) ?_
        rintro _ _ _ ⟨rfl, rfl, z78, rfl, (⟨rfl, f79, f80⟩ | rfl)⟩
        · skip
          refine r_if_ne hX hP rfl (tgt := 38) rfl (by first | decide | omega) (by first | decide | omega) (fun c81 => ?_) (fun c81 => ?_)
          · skip
            refine r_ex hX hP 4 (pc' := 43) (st' := [(0, 0), (0, 0), (0, 1), (0, 0), (2, this)]) (lo' := [(0, (2, this)), (1, (0, option_)), (2, (0, what)), (3, (0, day)), (4, (0, 1))]) rfl ?_
            refine r_callS gd hX hP rfl cs_X11_112 (d' := 0) (mc' := 0) (ms' := 0) (as' := [(0, 0), (0, 1), (0, 0), (0, 0)]) (st := [(2, this)]) (by first | decide | omega) (by first | decide | omega) (by first | decide | omega) rfl rfl (Nat.le_of_ble_eq_true rfl) (c_X11_first E S G 0 1 0 0 (by first | decide | omega) (by first | decide | omega) (by first | decide | omega) (by first | decide | omega) (by first | decide | omega) (by first | decide | omega) (by first | decide | omega) (by first | decide | omega)) ?_
            rintro _ _ _ ⟨rfl, rfl, z82, rfl, (⟨rfl, f83⟩ | ⟨rfl, f84, f85⟩ | ⟨rfl, f86, f87, f88⟩ | ⟨rfl, f89, f90, f91, f92⟩ | ⟨rfl, f93, f94, f95, f96⟩)⟩
            · skip
              exfalso; omega
            · skip
              refine r_callV gd hX hP rfl cv_X11_90_128 hS (d' := 0) (mc' := 0) (ms' := 0) (as' := [(0, 2)]) (st := []) (by first | decide | omega) (by first | decide | omega) (by first | decide | omega) rfl rfl (Nat.le_of_ble_eq_true rfl) (c_X11_refused E S G this 2 hS (by first | decide | omega) (by first | decide | omega)) ?_
              rintro _ _ _ ⟨rfl, ⟨G97, rfl⟩, z98, rfl, (⟨rfl, f99⟩ | ⟨rfl, f100⟩)⟩
              · skip
                refine r_if_eq hX hP rfl (tgt := 54) rfl (by first | decide | omega) (by first | decide | omega) (fun c101 => ?_) (fun c101 => ?_)
                · skip
                  exfalso; omega
                · skip
                  refine r_ex hX hP 1 (pc' := 53) (st' := [(0, 0)]) (lo' := [(0, (2, this)), (1, (0, option_)), (2, (0, what)), (3, (0, day)), (4, (0, 1))]) rfl ?_
                  exact r_retZ hX hP rfl rfl (by first | decide | omega) (by first | decide | omega) (by first | decide | omega) (by first | decide | omega) ⟨rfl, ⟨_, (hw_sub (hw_refl _ _) rfl).symm⟩, 0, rfl, (by first | decide | omega)⟩
              · skip
                exfalso; omega
            · skip
              exfalso; omega
            · skip
              exfalso; omega
            · skip
              exfalso; omega
          · skip
            exfalso; omega
        · skip
          refine r_if_ne hX hP rfl (tgt := 38) rfl (by first | decide | omega) (by first | decide | omega) (fun c102 => ?_) (fun c102 => ?_)
          · skip
            exfalso; omega
          · skip
            refine r_ex hX hP 5 (pc' := 43) (st' := [(0, 0), (0, 0), (0, 1), (0, 1), (2, this)]) (lo' := [(0, (2, this)), (1, (0, option_)), (2, (0, what)), (3, (0, day)), (4, (0, 1))]) rfl ?_
            refine r_callS gd hX hP rfl cs_X11_112 (d' := 0) (mc' := 0) (ms' := 0) (as' := [(0, 1), (0, 1), (0, 0), (0, 0)]) (st := [(2, this)]) (by first | decide | omega) (by first | decide | omega) (by first | decide | omega) rfl rfl (Nat.le_of_ble_eq_true rfl) (c_X11_first E S G 1 1 0 0 (by first | decide | omega) (by first | decide | omega) (by first | decide | omega) (by first | decide | omega) (by first | decide | omega) (by first | decide | omega) (by first | decide | omega) (by first | decide | omega)) ?_
            rintro _ _ _ ⟨rfl, rfl, z103, rfl, (⟨rfl, f104⟩ | ⟨rfl, f105, f106⟩ | ⟨rfl, f107, f108, f109⟩ | ⟨rfl, f110, f111, f112, f113⟩ | ⟨rfl, f114, f115, f116, f117⟩)⟩
            · skip
              refine r_callV gd hX hP rfl cv_X11_90_128 hS (d' := 0) (mc' := 0) (ms' := 0) (as' := [(0, 1)]) (st := []) (by first | decide | omega) (by first | decide | omega) (by first | decide | omega) rfl rfl (Nat.le_of_ble_eq_true rfl) (c_X11_refused E S G this 1 hS (by first | decide | omega) (by first | decide | omega)) ?_
              rintro _ _ _ ⟨rfl, ⟨G118, rfl⟩, z119, rfl, (⟨rfl, f120⟩ | ⟨rfl, f121⟩)⟩
              · skip
                refine r_if_eq hX hP rfl (tgt := 54) rfl (by first | decide | omega) (by first | decide | omega) (fun c122 => ?_) (fun c122 => ?_)
                · skip
                  exfalso; omega
                · skip
                  refine r_ex hX hP 1 (pc' := 53) (st' := [(0, 0)]) (lo' := [(0, (2, this)), (1, (0, option_)), (2, (0, what)), (3, (0, day)), (4, (0, 1))]) rfl ?_
                  exact r_retZ hX hP rfl rfl (by first | decide | omega) (by first | decide | omega) (by first | decide | omega) (by first | decide | omega) ⟨rfl, ⟨_, (hw_sub (hw_refl _ _) rfl).symm⟩, 0, rfl, (by first | decide | omega)⟩
              · skip
                exfalso; omega
            · skip
              exfalso; omega
            · skip
              exfalso; omega
            · skip
              exfalso; omega
            · skip
              exfalso; omega
  · skip
    refine r_if_eq hX hP rfl (tgt := 18) rfl (by first | decide | omega) (by first | decide | omega) (fun c123 => ?_) (fun c123 => ?_)
    · skip
      refine r_ex hX hP 6 (pc' := 28) (st' := [(0, option_), (2, this), (2, this)]) (lo' := [(0, (2, this)), (1, (0, option_)), (2, (0, what)), (3, (0, day)), (4, (0, 1))]) rfl ?_
      refine r_peekR hX (tl_128 10 rfl (by decide)) hS (fun opp124 opp124e opp124s => ?_)
      refine r_peekI hX (tl_158 2 rfl (by decide)) opp124s (fun sip125 sip125e sip125a sip125b => ?_)
      refine r_callV gd hX hP rfl cv_X11_348_128 hS (d' := 1) (mc' := 0) (ms' := 0) (as' := [(0, option_)]) (st := [(2, this)]) (by first | decide | omega) (by first | decide | omega) (by first | decide | omega) rfl rfl (Nat.le_of_ble_eq_true rfl) (c_X11_hasOption E S G this option_ hS opp124 opp124e opp124s sip125 sip125e (by first | decide | omega) (by first | decide | omega)) ?_
      rintro _ _ _ ⟨rfl, rfl, z126, rfl, (⟨rfl, f127, f128⟩ | rfl)⟩
      · skip
        refine r_if_ne hX hP rfl (tgt := 38) rfl (by first | decide | omega) (by first | decide | omega) (fun c129 => ?_) (fun c129 => ?_)
        · skip
          refine r_ex hX hP 4 (pc' := 43) (st' := [(0, 0), (0, 0), (0, 1), (0, 0), (2, this)]) (lo' := [(0, (2, this)), (1, (0, option_)), (2, (0, what)), (3, (0, day)), (4, (0, 1))]) rfl ?_
          refine r_callS gd hX hP rfl cs_X11_112 (d' := 0) (mc' := 0) (ms' := 0) (as' := [(0, 0), (0, 1), (0, 0), (0, 0)]) (st := [(2, this)]) (by first | decide | omega) (by first | decide | omega) (by first | decide | omega) rfl rfl (Nat.le_of_ble_eq_true rfl) (c_X11_first E S G 0 1 0 0 (by first | decide | omega) (by first | decide | omega) (by first | decide | omega) (by first | decide | omega) (by first | decide | omega) (by first | decide | omega) (by first | decide | omega) (by first | decide | omega)) ?_
          rintro _ _ _ ⟨rfl, rfl, z130, rfl, (⟨rfl, f131⟩ | ⟨rfl, f132, f133⟩ | ⟨rfl, f134, f135, f136⟩ | ⟨rfl, f137, f138, f139, f140⟩ | ⟨rfl, f141, f142, f143, f144⟩)⟩
          · skip
            exfalso; omega
          · skip
            refine r_callV gd hX hP rfl cv_X11_90_128 hS (d' := 0) (mc' := 0) (ms' := 0) (as' := [(0, 2)]) (st := []) (by first | decide | omega) (by first | decide | omega) (by first | decide | omega) rfl rfl (Nat.le_of_ble_eq_true rfl) (c_X11_refused E S G this 2 hS (by first | decide | omega) (by first | decide | omega)) ?_
            rintro _ _ _ ⟨rfl, ⟨G145, rfl⟩, z146, rfl, (⟨rfl, f147⟩ | ⟨rfl, f148⟩)⟩
            · skip
              refine r_if_eq hX hP rfl (tgt := 54) rfl (by first | decide | omega) (by first | decide | omega) (fun c149 => ?_) (fun c149 => ?_)
              · skip
                exfalso; omega
              · skip
                refine r_ex hX hP 1 (pc' := 53) (st' := [(0, 0)]) (lo' := [(0, (2, this)), (1, (0, option_)), (2, (0, what)), (3, (0, day)), (4, (0, 1))]) rfl ?_
                exact r_retZ hX hP rfl rfl (by first | decide | omega) (by first | decide | omega) (by first | decide | omega) (by first | decide | omega) ⟨rfl, ⟨_, (hw_sub (hw_refl _ _) rfl).symm⟩, 0, rfl, (by first | decide | omega)⟩
            · skip
              exfalso; omega
          · skip
            exfalso; omega
          · skip
            exfalso; omega
          · skip
            exfalso; omega
        · skip
          exfalso; omega
      · skip
        refine r_if_ne hX hP rfl (tgt := 38) rfl (by first | decide | omega) (by first | decide | omega) (fun c150 => ?_) (fun c150 => ?_)
        · skip
          exfalso; omega
        · skip
          refine r_ex hX hP 5 (pc' := 43) (st' := [(0, 0), (0, 0), (0, 1), (0, 1), (2, this)]) (lo' := [(0, (2, this)), (1, (0, option_)), (2, (0, what)), (3, (0, day)), (4, (0, 1))]) rfl ?_
          refine r_callS gd hX hP rfl cs_X11_112 (d' := 0) (mc' := 0) (ms' := 0) (as' := [(0, 1), (0, 1), (0, 0), (0, 0)]) (st := [(2, this)]) (by first | decide | omega) (by first | decide | omega) (by first | decide | omega) rfl rfl (Nat.le_of_ble_eq_true rfl) (c_X11_first E S G 1 1 0 0 (by first | decide | omega) (by first | decide | omega) (by first | decide | omega) (by first | decide | omega) (by first | decide | omega) (by first | decide | omega) (by first | decide | omega) (by first | decide | omega)) ?_
          rintro _ _ _ ⟨rfl, rfl, z151, rfl, (⟨rfl, f152⟩ | ⟨rfl, f153, f154⟩ | ⟨rfl, f155, f156, f157⟩ | ⟨rfl, f158, f159, f160, f161⟩ | ⟨rfl, f162, f163, f164, f165⟩)⟩
          · skip
            refine r_callV gd hX hP rfl cv_X11_90_128 hS (d' := 0) (mc' := 0) (ms' := 0) (as' := [(0, 1)]) (st := []) (by first | decide | omega) (by first | decide | omega) (by first | decide | omega) rfl rfl (Nat.le_of_ble_eq_true rfl) (c_X11_refused E S G this 1 hS (by first | decide | omega) (by first | decide | omega)) ?_
            rintro _ _ _ ⟨rfl, ⟨G166, rfl⟩, z167, rfl, (⟨rfl, f168⟩ | ⟨rfl, f169⟩)⟩
            · skip
              refine r_if_eq hX hP rfl (tgt := 54) rfl (by first | decide | omega) (by first | decide | omega) (fun c170 => ?_) (fun c170 => ?_)
              · skip
                exfalso; omega
              · skip
                refine r_ex hX hP 1 (pc' := 53) (st' := [(0, 0)]) (lo' := [(0, (2, this)), (1, (0, option_)), (2, (0, what)), (3, (0, day)), (4, (0, 1))]) rfl ?_
                exact r_retZ hX hP rfl rfl (by first | decide | omega) (by first | decide | omega) (by first | decide | omega) (by first | decide | omega) ⟨rfl, ⟨_, (hw_sub (hw_refl _ _) rfl).symm⟩, 0, rfl, (by first | decide | omega)⟩
            · skip
              exfalso; omega
          · skip
            exfalso; omega
          · skip
            exfalso; omega
          · skip
            exfalso; omega
          · skip
            exfalso; omega
    · skip
      exfalso; omega
set_option maxRecDepth 100000 in
set_option maxHeartbeats 4000000 in
theorem c_X11_rate (E : En) (S : Sg) (G : Gh) (this : Int) (paper : Int) (pennies : Int) (hS : S this = 128) (paper_a : (-2147483648) ≤ paper) (paper_b : paper ≤ 2147483647) (pennies_a : (-2147483648) ≤ pennies) (pennies_b : pennies ≤ 2147483647) : Calls E mX11_rate [(2, this), (0, paper), (0, pennies)] S G 2 0 0 (fun r S' G' => S = S' ∧ (∃ G1, hw [(94, -1), (128, 0)] G G1 = G') ∧ ∃ z : Int, r = some (0, z) ∧ 0 ≤ z ∧ z ≤ 1) := by
  refine calls_by [(0, (2, this)), (1, (0, paper)), (2, (0, pennies))] rfl rfl (Nat.le_of_ble_eq_true rfl) (fun X hX => ?_)
  have hP := hPX11_rate
  refine r_ex hX hP 2 (pc' := 2) (st' := [(0, paper), (2, this)]) (lo' := [(0, (2, this)), (1, (0, paper)), (2, (0, pennies))]) rfl ?_
  refine r_callS gd hX hP rfl cs_X11_120 (d' := 1) (mc' := 0) (ms' := 0) (as' := [(0, paper)]) (st := [(2, this)]) (by first | decide | omega) (by first | decide | omega) (by first | decide | omega) rfl rfl (Nat.le_of_ble_eq_true rfl) (c_X11_isPaper E S G paper (by first | decide | omega) (by first | decide | omega)) ?_
  rintro _ _ _ ⟨rfl, rfl, z1, rfl, (⟨rfl, f2, f3⟩ | rfl)⟩
  · skip
    refine r_if_ne hX hP rfl (tgt := 12) rfl (by first | decide | omega) (by first | decide | omega) (fun c4 => ?_) (fun c4 => ?_)
    · skip
      refine r_ex hX hP 3 (pc' := 15) (st' := [(0, 0), (0, pennies), (0, 0), (2, this)]) (lo' := [(0, (2, this)), (1, (0, paper)), (2, (0, pennies))]) rfl ?_
      refine r_ldcw hX hP rfl (v := 100000) (tbg sg7 42 rfl rfl) ?_
      refine r_callS gd hX hP rfl cs_X11_103 (d' := 0) (mc' := 0) (ms' := 0) (as' := [(0, pennies), (0, 0), (0, 100000)]) (st := [(0, 0), (2, this)]) (by first | decide | omega) (by first | decide | omega) (by first | decide | omega) rfl rfl (Nat.le_of_ble_eq_true rfl) (c_X11_within E S G pennies 0 100000 (by first | decide | omega) (by first | decide | omega) (by first | decide | omega) (by first | decide | omega) (by first | decide | omega) (by first | decide | omega)) ?_
      rintro _ _ _ ⟨rfl, rfl, z5, rfl, (⟨rfl, f6, f7⟩ | ⟨rfl, f8⟩)⟩
      · skip
        refine r_if_ne hX hP rfl (tgt := 28) rfl (by first | decide | omega) (by first | decide | omega) (fun c9 => ?_) (fun c9 => ?_)
        · skip
          refine r_ex hX hP 3 (pc' := 31) (st' := [(0, 0), (0, 0), (0, 0), (0, 0), (2, this)]) (lo' := [(0, (2, this)), (1, (0, paper)), (2, (0, pennies))]) rfl ?_
          refine r_callS gd hX hP rfl cs_X11_112 (d' := 0) (mc' := 0) (ms' := 0) (as' := [(0, 0), (0, 0), (0, 0), (0, 0)]) (st := [(2, this)]) (by first | decide | omega) (by first | decide | omega) (by first | decide | omega) rfl rfl (Nat.le_of_ble_eq_true rfl) (c_X11_first E S G 0 0 0 0 (by first | decide | omega) (by first | decide | omega) (by first | decide | omega) (by first | decide | omega) (by first | decide | omega) (by first | decide | omega) (by first | decide | omega) (by first | decide | omega)) ?_
          rintro _ _ _ ⟨rfl, rfl, z10, rfl, (⟨rfl, f11⟩ | ⟨rfl, f12, f13⟩ | ⟨rfl, f14, f15, f16⟩ | ⟨rfl, f17, f18, f19, f20⟩ | ⟨rfl, f21, f22, f23, f24⟩)⟩
          · skip
            exfalso; omega
          · skip
            exfalso; omega
          · skip
            exfalso; omega
          · skip
            exfalso; omega
          · skip
            refine r_callV gd hX hP rfl cv_X11_90_128 hS (d' := 0) (mc' := 0) (ms' := 0) (as' := [(0, 0)]) (st := []) (by first | decide | omega) (by first | decide | omega) (by first | decide | omega) rfl rfl (Nat.le_of_ble_eq_true rfl) (c_X11_refused E S G this 0 hS (by first | decide | omega) (by first | decide | omega)) ?_
            rintro _ _ _ ⟨rfl, ⟨G25, rfl⟩, z26, rfl, (⟨rfl, f27⟩ | ⟨rfl, f28⟩)⟩
            · skip
              exfalso; omega
            · skip
              refine r_if_eq hX hP rfl (tgt := 42) rfl (by first | decide | omega) (by first | decide | omega) (fun c29 => ?_) (fun c29 => ?_)
              · skip
                refine r_ex hX hP 1 (pc' := 43) (st' := [(2, this)]) (lo' := [(0, (2, this)), (1, (0, paper)), (2, (0, pennies))]) rfl ?_
                refine r_getR hX hP rfl fl_X11_51_128 hS (fun rf30 rf30e rf30s => ?_)
                refine r_ex hX hP 2 (pc' := 48) (st' := [(0, pennies), (0, paper), (2, rf30)]) (lo' := [(0, (2, this)), (1, (0, paper)), (2, (0, pennies))]) rfl ?_
                refine r_iastK hX hP rfl al_94 rf30s (by first | decide | omega) (by first | decide | omega) (by first | decide | omega) (by first | decide | omega) (fun h31 => ?_)
                refine r_ex hX hP 1 (pc' := 50) (st' := [(0, 1)]) (lo' := [(0, (2, this)), (1, (0, paper)), (2, (0, pennies))]) rfl ?_
                exact r_retZ hX hP rfl rfl (by first | decide | omega) (by first | decide | omega) (by first | decide | omega) (by first | decide | omega) ⟨rfl, ⟨_, (hw_up (hw_sub (hw_refl _ _) rfl) rfl).symm⟩, 1, rfl, (by first | decide | omega)⟩
              · skip
                exfalso; omega
        · skip
          exfalso; omega
      · skip
        refine r_if_ne hX hP rfl (tgt := 28) rfl (by first | decide | omega) (by first | decide | omega) (fun c32 => ?_) (fun c32 => ?_)
        · skip
          exfalso; omega
        · skip
          refine r_ex hX hP 4 (pc' := 31) (st' := [(0, 0), (0, 0), (0, 1), (0, 0), (2, this)]) (lo' := [(0, (2, this)), (1, (0, paper)), (2, (0, pennies))]) rfl ?_
          refine r_callS gd hX hP rfl cs_X11_112 (d' := 0) (mc' := 0) (ms' := 0) (as' := [(0, 0), (0, 1), (0, 0), (0, 0)]) (st := [(2, this)]) (by first | decide | omega) (by first | decide | omega) (by first | decide | omega) rfl rfl (Nat.le_of_ble_eq_true rfl) (c_X11_first E S G 0 1 0 0 (by first | decide | omega) (by first | decide | omega) (by first | decide | omega) (by first | decide | omega) (by first | decide | omega) (by first | decide | omega) (by first | decide | omega) (by first | decide | omega)) ?_
          rintro _ _ _ ⟨rfl, rfl, z33, rfl, (⟨rfl, f34⟩ | ⟨rfl, f35, f36⟩ | ⟨rfl, f37, f38, f39⟩ | ⟨rfl, f40, f41, f42, f43⟩ | ⟨rfl, f44, f45, f46, f47⟩)⟩
          · skip
            exfalso; omega
          · skip
            refine r_callV gd hX hP rfl cv_X11_90_128 hS (d' := 0) (mc' := 0) (ms' := 0) (as' := [(0, 2)]) (st := []) (by first | decide | omega) (by first | decide | omega) (by first | decide | omega) rfl rfl (Nat.le_of_ble_eq_true rfl) (c_X11_refused E S G this 2 hS (by first | decide | omega) (by first | decide | omega)) ?_
            rintro _ _ _ ⟨rfl, ⟨G48, rfl⟩, z49, rfl, (⟨rfl, f50⟩ | ⟨rfl, f51⟩)⟩
            · skip
              refine r_if_eq hX hP rfl (tgt := 42) rfl (by first | decide | omega) (by first | decide | omega) (fun c52 => ?_) (fun c52 => ?_)
              · skip
                exfalso; omega
              · skip
                refine r_ex hX hP 1 (pc' := 41) (st' := [(0, 0)]) (lo' := [(0, (2, this)), (1, (0, paper)), (2, (0, pennies))]) rfl ?_
                exact r_retZ hX hP rfl rfl (by first | decide | omega) (by first | decide | omega) (by first | decide | omega) (by first | decide | omega) ⟨rfl, ⟨_, (hw_sub (hw_refl _ _) rfl).symm⟩, 0, rfl, (by first | decide | omega)⟩
            · skip
              exfalso; omega
          · skip
            exfalso; omega
          · skip
            exfalso; omega
          · skip
            exfalso; omega
    · skip
      exfalso; omega
  · skip
    refine r_if_ne hX hP rfl (tgt := 12) rfl (by first | decide | omega) (by first | decide | omega) (fun c53 => ?_) (fun c53 => ?_)
    · skip
      exfalso; omega
    · skip
      refine r_ex hX hP 4 (pc' := 15) (st' := [(0, 0), (0, pennies), (0, 1), (2, this)]) (lo' := [(0, (2, this)), (1, (0, paper)), (2, (0, pennies))]) rfl ?_
      refine r_ldcw hX hP rfl (v := 100000) (tbg sg7 42 rfl rfl) ?_
      refine r_callS gd hX hP rfl cs_X11_103 (d' := 0) (mc' := 0) (ms' := 0) (as' := [(0, pennies), (0, 0), (0, 100000)]) (st := [(0, 1), (2, this)]) (by first | decide | omega) (by first | decide | omega) (by first | decide | omega) rfl rfl (Nat.le_of_ble_eq_true rfl) (c_X11_within E S G pennies 0 100000 (by first | decide | omega) (by first | decide | omega) (by first | decide | omega) (by first | decide | omega) (by first | decide | omega) (by first | decide | omega)) ?_
      rintro _ _ _ ⟨rfl, rfl, z54, rfl, (⟨rfl, f55, f56⟩ | ⟨rfl, f57⟩)⟩
      · skip
        refine r_if_ne hX hP rfl (tgt := 28) rfl (by first | decide | omega) (by first | decide | omega) (fun c58 => ?_) (fun c58 => ?_)
        · skip
          refine r_ex hX hP 3 (pc' := 31) (st' := [(0, 0), (0, 0), (0, 0), (0, 1), (2, this)]) (lo' := [(0, (2, this)), (1, (0, paper)), (2, (0, pennies))]) rfl ?_
          refine r_callS gd hX hP rfl cs_X11_112 (d' := 0) (mc' := 0) (ms' := 0) (as' := [(0, 1), (0, 0), (0, 0), (0, 0)]) (st := [(2, this)]) (by first | decide | omega) (by first | decide | omega) (by first | decide | omega) rfl rfl (Nat.le_of_ble_eq_true rfl) (c_X11_first E S G 1 0 0 0 (by first | decide | omega) (by first | decide | omega) (by first | decide | omega) (by first | decide | omega) (by first | decide | omega) (by first | decide | omega) (by first | decide | omega) (by first | decide | omega)) ?_
          rintro _ _ _ ⟨rfl, rfl, z59, rfl, (⟨rfl, f60⟩ | ⟨rfl, f61, f62⟩ | ⟨rfl, f63, f64, f65⟩ | ⟨rfl, f66, f67, f68, f69⟩ | ⟨rfl, f70, f71, f72, f73⟩)⟩
          · skip
            refine r_callV gd hX hP rfl cv_X11_90_128 hS (d' := 0) (mc' := 0) (ms' := 0) (as' := [(0, 1)]) (st := []) (by first | decide | omega) (by first | decide | omega) (by first | decide | omega) rfl rfl (Nat.le_of_ble_eq_true rfl) (c_X11_refused E S G this 1 hS (by first | decide | omega) (by first | decide | omega)) ?_
            rintro _ _ _ ⟨rfl, ⟨G74, rfl⟩, z75, rfl, (⟨rfl, f76⟩ | ⟨rfl, f77⟩)⟩
            · skip
              refine r_if_eq hX hP rfl (tgt := 42) rfl (by first | decide | omega) (by first | decide | omega) (fun c78 => ?_) (fun c78 => ?_)
              · skip
                exfalso; omega
              · skip
                refine r_ex hX hP 1 (pc' := 41) (st' := [(0, 0)]) (lo' := [(0, (2, this)), (1, (0, paper)), (2, (0, pennies))]) rfl ?_
                exact r_retZ hX hP rfl rfl (by first | decide | omega) (by first | decide | omega) (by first | decide | omega) (by first | decide | omega) ⟨rfl, ⟨_, (hw_sub (hw_refl _ _) rfl).symm⟩, 0, rfl, (by first | decide | omega)⟩
            · skip
              exfalso; omega
          · skip
            exfalso; omega
          · skip
            exfalso; omega
          · skip
            exfalso; omega
          · skip
            exfalso; omega
        · skip
          exfalso; omega
      · skip
        refine r_if_ne hX hP rfl (tgt := 28) rfl (by first | decide | omega) (by first | decide | omega) (fun c79 => ?_) (fun c79 => ?_)
        · skip
          exfalso; omega
        · skip
          refine r_ex hX hP 4 (pc' := 31) (st' := [(0, 0), (0, 0), (0, 1), (0, 1), (2, this)]) (lo' := [(0, (2, this)), (1, (0, paper)), (2, (0, pennies))]) rfl ?_
          refine r_callS gd hX hP rfl cs_X11_112 (d' := 0) (mc' := 0) (ms' := 0) (as' := [(0, 1), (0, 1), (0, 0), (0, 0)]) (st := [(2, this)]) (by first | decide | omega) (by first | decide | omega) (by first | decide | omega) rfl rfl (Nat.le_of_ble_eq_true rfl) (c_X11_first E S G 1 1 0 0 (by first | decide | omega) (by first | decide | omega) (by first | decide | omega) (by first | decide | omega) (by first | decide | omega) (by first | decide | omega) (by first | decide | omega) (by first | decide | omega)) ?_
          rintro _ _ _ ⟨rfl, rfl, z80, rfl, (⟨rfl, f81⟩ | ⟨rfl, f82, f83⟩ | ⟨rfl, f84, f85, f86⟩ | ⟨rfl, f87, f88, f89, f90⟩ | ⟨rfl, f91, f92, f93, f94⟩)⟩
          · skip
            refine r_callV gd hX hP rfl cv_X11_90_128 hS (d' := 0) (mc' := 0) (ms' := 0) (as' := [(0, 1)]) (st := []) (by first | decide | omega) (by first | decide | omega) (by first | decide | omega) rfl rfl (Nat.le_of_ble_eq_true rfl) (c_X11_refused E S G this 1 hS (by first | decide | omega) (by first | decide | omega)) ?_
            rintro _ _ _ ⟨rfl, ⟨G95, rfl⟩, z96, rfl, (⟨rfl, f97⟩ | ⟨rfl, f98⟩)⟩
            · skip
              refine r_if_eq hX hP rfl (tgt := 42) rfl (by first | decide | omega) (by first | decide | omega) (fun c99 => ?_) (fun c99 => ?_)
              · skip
                exfalso; omega
              · skip
                refine r_ex hX hP 1 (pc' := 41) (st' := [(0, 0)]) (lo' := [(0, (2, this)), (1, (0, paper)), (2, (0, pennies))]) rfl ?_
                exact r_retZ hX hP rfl rfl (by first | decide | omega) (by first | decide | omega) (by first | decide | omega) (by first | decide | omega) ⟨rfl, ⟨_, (hw_sub (hw_refl _ _) rfl).symm⟩, 0, rfl, (by first | decide | omega)⟩
            · skip
              exfalso; omega
          · skip
            exfalso; omega
          · skip
            exfalso; omega
          · skip
            exfalso; omega
          · skip
            exfalso; omega
set_option maxRecDepth 100000 in
set_option maxHeartbeats 4000000 in
theorem c_X11_valueOf (E : En) (S : Sg) (G : Gh) (this : Int) (happened : Int) (choice : Int) (shares : Int) (hS : S this = 128) (happened_s : S happened = 137) (choice_a : (-2147483648) ≤ choice) (choice_b : choice ≤ 2147483647) (shares_a : (-2147483648) ≤ shares) (shares_b : shares ≤ 2147483647) : Calls E mX11_valueOf [(2, this), (2, happened), (0, choice), (0, shares)] S G 4 0 0 (fun r S' G' => S = S' ∧ (∃ G1, hw [(119, -1), (125, -1), (126, -1), (127, -1)] G G1 = G') ∧ ∃ z : Int, r = some (1, z) ∧ (-9223372036854775808) ≤ z ∧ z ≤ 9223372036854775807) := by
  refine calls_by [(0, (2, this)), (1, (2, happened)), (2, (0, choice)), (3, (0, shares))] rfl rfl (Nat.le_of_ble_eq_true rfl) (fun X hX => ?_)
  have hP := hPX11_valueOf
  refine r_ex hX hP 1 (pc' := 1) (st' := [(2, happened)]) (lo' := [(0, (2, this)), (1, (2, happened)), (2, (0, choice)), (3, (0, shares))]) rfl ?_
  refine r_getR hX hP rfl fl_X11_200_137 happened_s (fun tf1 tf1e tf1s => ?_)
  refine r_ex hX hP 4 (pc' := 10) (st' := [(0, shares), (0, choice), (2, tf1)]) (lo' := [(0, (2, this)), (1, (2, happened)), (2, (0, choice)), (3, (0, shares)), (4, (2, tf1))]) rfl ?_
  refine r_callS gd hX hP rfl cs_X11_320 (d' := 3) (mc' := 0) (ms' := 0) (as' := [(2, tf1), (0, choice), (0, shares)]) (st := []) (by first | decide | omega) (by first | decide | omega) (by first | decide | omega) rfl rfl (Nat.le_of_ble_eq_true rfl) (c_X11_workFor E S G tf1 choice shares tf1s (by first | decide | omega) (by first | decide | omega) (by first | decide | omega) (by first | decide | omega)) ?_
  rintro _ _ _ ⟨rfl, ⟨G2, rfl⟩, rfl, -⟩
  refine r_ex hX hP 4 (pc' := 19) (st' := []) (lo' := [(0, (2, this)), (1, (2, happened)), (2, (0, choice)), (3, (0, shares)), (4, (2, tf1)), (5, (1, 0)), (7, (0, 0))]) rfl ?_
  have loop19 : ∀ (nF : Nat) (l5_h19 l7_h19 : Int), (-9223372036854775808) ≤ l5_h19 → l5_h19 ≤ 9223372036854775807 → 0 ≤ l7_h19 → l7_h19 ≤ 30 → 30 - l7_h19 < (nF : Int) → X 0 0 19 [] [(0, (2, this)), (1, (2, happened)), (2, (0, choice)), (3, (0, shares)), (4, (2, tf1)), (5, (1, l5_h19)), (7, (0, l7_h19))] S (hw [(119, -1), (125, -1), (126, -1), (127, -1)] G G2) := by
    intro nF
    induction nF with
    | zero => intro l5_h19 l7_h19 yh19_0 yh19_1 yh19_2 yh19_3 ym19; exfalso; omega
    | succ nF ih19 =>
      intro l5_h19 l7_h19 yh19_0 yh19_1 yh19_2 yh19_3 ym19
      refine r_ex hX hP 2 (pc' := 23) (st' := [(2, tf1), (0, l7_h19)]) (lo' := [(0, (2, this)), (1, (2, happened)), (2, (0, choice)), (3, (0, shares)), (4, (2, tf1)), (5, (1, l5_h19)), (7, (0, l7_h19))]) rfl ?_
      refine r_getI hX hP rfl fl_X11_324_136 tf1s (fun sf3 sf3e sf3a sf3b => ?_)
      refine r_ic_ge hX hP rfl (tgt := 101) rfl (by first | decide | omega) (by first | decide | omega) (by first | decide | omega) (by first | decide | omega) (fun c4 => ?_) (fun c4 => ?_)
      · skip
        refine r_ex hX hP 2 (pc' := 104) (st' := []) (lo' := [(0, (2, this)), (1, (2, happened)), (2, (0, choice)), (3, (0, shares)), (4, (2, tf1)), (5, (1, l5_h19)), (7, (0, 0))]) rfl ?_
        have loop104 : ∀ (nF : Nat) (l5_h104 l7_h104 : Int), (-9223372036854775808) ≤ l5_h104 → l5_h104 ≤ 9223372036854775807 → 0 ≤ l7_h104 → l7_h104 ≤ 4 → 4 - l7_h104 < (nF : Int) → X 0 0 104 [] [(0, (2, this)), (1, (2, happened)), (2, (0, choice)), (3, (0, shares)), (4, (2, tf1)), (5, (1, l5_h104)), (7, (0, l7_h104))] S (hw [(119, -1), (125, -1), (126, -1), (127, -1)] G G2) := by
          intro nF
          induction nF with
          | zero => intro l5_h104 l7_h104 yh104_0 yh104_1 yh104_2 yh104_3 ym104; exfalso; omega
          | succ nF ih104 =>
            intro l5_h104 l7_h104 yh104_0 yh104_1 yh104_2 yh104_3 ym104
            refine r_ex hX hP 2 (pc' := 107) (st' := [(0, 4), (0, l7_h104)]) (lo' := [(0, (2, this)), (1, (2, happened)), (2, (0, choice)), (3, (0, shares)), (4, (2, tf1)), (5, (1, l5_h104)), (7, (0, l7_h104))]) rfl ?_
            refine r_ic_ge hX hP rfl (tgt := 139) rfl (by first | decide | omega) (by first | decide | omega) (by first | decide | omega) (by first | decide | omega) (fun c5 => ?_) (fun c5 => ?_)
            · skip
              refine r_ex hX hP 1 (pc' := 141) (st' := [(1, l5_h104)]) (lo' := [(0, (2, this)), (1, (2, happened)), (2, (0, choice)), (3, (0, shares)), (4, (2, tf1)), (5, (1, l5_h104)), (7, (0, l7_h104))]) rfl ?_
              exact r_retL hX hP rfl rfl (by first | decide | omega) (by first | decide | omega) ⟨rfl, ⟨_, (hw_sub (hw_refl _ _) rfl).symm⟩, l5_h104, rfl, (by first | decide | omega)⟩
            · skip
              refine r_ex hX hP 3 (pc' := 116) (st' := [(0, l7_h104), (2, tf1), (1, l5_h104)]) (lo' := [(0, (2, this)), (1, (2, happened)), (2, (0, choice)), (3, (0, shares)), (4, (2, tf1)), (5, (1, l5_h104)), (7, (0, l7_h104))]) rfl ?_
              refine r_callV gd hX hP rfl cv_X11_413_136 tf1s (d' := 3) (mc' := 0) (ms' := 0) (as' := [(0, l7_h104)]) (st := [(1, l5_h104)]) (by first | decide | omega) (by first | decide | omega) (by first | decide | omega) rfl rfl (Nat.le_of_ble_eq_true rfl) (c_X9_taken E S (hw [(119, -1), (125, -1), (126, -1), (127, -1)] G G2) tf1 l7_h104 tf1s (by first | decide | omega) (by first | decide | omega)) ?_
              rintro _ _ _ ⟨rfl, rfl, z6, rfl, z6a, z6b⟩
              refine r_ex hX hP 1 (pc' := 120) (st' := [(2, this), (1, z6), (1, l5_h104)]) (lo' := [(0, (2, this)), (1, (2, happened)), (2, (0, choice)), (3, (0, shares)), (4, (2, tf1)), (5, (1, l5_h104)), (7, (0, l7_h104))]) rfl ?_
              refine r_getR hX hP rfl fl_X11_51_128 hS (fun rf7 rf7e rf7s => ?_)
              refine r_ex hX hP 1 (pc' := 124) (st' := [(2, happened), (2, rf7), (1, z6), (1, l5_h104)]) (lo' := [(0, (2, this)), (1, (2, happened)), (2, (0, choice)), (3, (0, shares)), (4, (2, tf1)), (5, (1, l5_h104)), (7, (0, l7_h104))]) rfl ?_
              refine r_getI hX hP rfl fl_X11_292_137 happened_s (fun pf8 pf8e pf8a pf8b => ?_)
              refine r_iald hX hP rfl al_94 rf7s (by first | decide | omega) (by first | decide | omega) (fun x9 x9e x9a x9b => ?_)
              refine r_i2l hX hP rfl (by first | decide | omega) (by first | decide | omega) ?_
              refine r_ex hX hP 1 (pc' := 130) (st' := [(1, (z6 * x9)), (1, l5_h104)]) (lo' := [(0, (2, this)), (1, (2, happened)), (2, (0, choice)), (3, (0, shares)), (4, (2, tf1)), (5, (1, l5_h104)), (7, (0, l7_h104))]) rfl ?_
              refine r_hvL hX (fun w10 w10a w10b w10e => ?_)
              refine r_ex hX hP 1 (pc' := 131) (st' := [(1, (l5_h104 - w10))]) (lo' := [(0, (2, this)), (1, (2, happened)), (2, (0, choice)), (3, (0, shares)), (4, (2, tf1)), (5, (1, l5_h104)), (7, (0, l7_h104))]) rfl ?_
              refine r_hvL hX (fun w11 w11a w11b w11e => ?_)
              refine r_ex hX hP 3 (pc' := 104) (st' := []) (lo' := [(0, (2, this)), (1, (2, happened)), (2, (0, choice)), (3, (0, shares)), (4, (2, tf1)), (5, (1, w11)), (7, (0, (l7_h104 + 1)))]) rfl ?_
              exact ih104 w11 (l7_h104 + 1) (by first | decide | omega) (by first | decide | omega) (by first | decide | omega) (by first | decide | omega) (by first | decide | omega)
        exact loop104 ((4 - 0) + 1 : Int).toNat l5_h19 0 (by first | decide | omega) (by first | decide | omega) (by first | decide | omega) (by first | decide | omega) (by first | decide | omega)
      · skip
        refine r_ex hX hP 2 (pc' := 33) (st' := [(2, tf1), (1, l5_h19)]) (lo' := [(0, (2, this)), (1, (2, happened)), (2, (0, choice)), (3, (0, shares)), (4, (2, tf1)), (5, (1, l5_h19)), (7, (0, l7_h19))]) rfl ?_
        refine r_getR hX hP rfl fl_X11_326_136 tf1s (fun pf12 pf12e pf12s => ?_)
        refine r_ex hX hP 1 (pc' := 38) (st' := [(0, l7_h19), (2, pf12), (1, l5_h19)]) (lo' := [(0, (2, this)), (1, (2, happened)), (2, (0, choice)), (3, (0, shares)), (4, (2, tf1)), (5, (1, l5_h19)), (7, (0, l7_h19))]) rfl ?_
        refine r_lald hX hP rfl al_127 pf12s (by first | decide | omega) (by first | decide | omega) (fun x13 x13e x13a x13b => ?_)
        refine r_ex hX hP 1 (pc' := 40) (st' := [(1, (l5_h19 + x13))]) (lo' := [(0, (2, this)), (1, (2, happened)), (2, (0, choice)), (3, (0, shares)), (4, (2, tf1)), (5, (1, l5_h19)), (7, (0, l7_h19))]) rfl ?_
        refine r_hvL hX (fun w14 w14a w14b w14e => ?_)
        refine r_ex hX hP 2 (pc' := 44) (st' := [(2, tf1)]) (lo' := [(0, (2, this)), (1, (2, happened)), (2, (0, choice)), (3, (0, shares)), (4, (2, tf1)), (5, (1, w14)), (7, (0, l7_h19))]) rfl ?_
        refine r_getR hX hP rfl fl_X11_327_136 tf1s (fun kf15 kf15e kf15s => ?_)
        refine r_ex hX hP 1 (pc' := 49) (st' := [(0, l7_h19), (2, kf15)]) (lo' := [(0, (2, this)), (1, (2, happened)), (2, (0, choice)), (3, (0, shares)), (4, (2, tf1)), (5, (1, w14)), (7, (0, l7_h19))]) rfl ?_
        refine r_iald hX hP rfl al_120 kf15s (by first | decide | omega) (by first | decide | omega) (fun x16 x16e x16a x16b => ?_)
        refine r_if_ne hX hP rfl (tgt := 95) rfl (by first | decide | omega) (by first | decide | omega) (fun c17 => ?_) (fun c17 => ?_)
        · skip
          refine r_ex hX hP 2 (pc' := 19) (st' := []) (lo' := [(0, (2, this)), (1, (2, happened)), (2, (0, choice)), (3, (0, shares)), (4, (2, tf1)), (5, (1, w14)), (7, (0, (l7_h19 + 1)))]) rfl ?_
          exact ih19 w14 (l7_h19 + 1) (by first | decide | omega) (by first | decide | omega) (by first | decide | omega) (by first | decide | omega) (by first | decide | omega)
        · skip
          refine r_ex hX hP 1 (pc' := 55) (st' := [(2, tf1)]) (lo' := [(0, (2, this)), (1, (2, happened)), (2, (0, choice)), (3, (0, shares)), (4, (2, tf1)), (5, (1, w14)), (7, (0, l7_h19))]) rfl ?_
          refine r_getR hX hP rfl fl_X11_330_136 tf1s (fun qf18 qf18e qf18s => ?_)
          refine r_ex hX hP 1 (pc' := 60) (st' := [(0, l7_h19), (2, qf18)]) (lo' := [(0, (2, this)), (1, (2, happened)), (2, (0, choice)), (3, (0, shares)), (4, (2, tf1)), (5, (1, w14)), (7, (0, l7_h19))]) rfl ?_
          refine r_iald hX hP rfl al_121 qf18s (by first | decide | omega) (by first | decide | omega) (fun x19 x19e x19a x19b => ?_)
          refine r_callS gd hX hP rfl cs_X11_120 (d' := 1) (mc' := 0) (ms' := 0) (as' := [(0, x19)]) (st := []) (by first | decide | omega) (by first | decide | omega) (by first | decide | omega) rfl rfl (Nat.le_of_ble_eq_true rfl) (c_X11_isPaper E S (hw [(119, -1), (125, -1), (126, -1), (127, -1)] G G2) x19 (by first | decide | omega) (by first | decide | omega)) ?_
          rintro _ _ _ ⟨rfl, rfl, z20, rfl, (⟨rfl, f21, f22⟩ | rfl)⟩
          · skip
            refine r_if_eq hX hP rfl (tgt := 95) rfl (by first | decide | omega) (by first | decide | omega) (fun c23 => ?_) (fun c23 => ?_)
            · skip
              exfalso; omega
            · skip
              refine r_ex hX hP 2 (pc' := 71) (st' := [(2, tf1), (1, w14)]) (lo' := [(0, (2, this)), (1, (2, happened)), (2, (0, choice)), (3, (0, shares)), (4, (2, tf1)), (5, (1, w14)), (7, (0, l7_h19))]) rfl ?_
              refine r_getR hX hP rfl fl_X11_333_136 tf1s (fun sf24 sf24e sf24s => ?_)
              refine r_ex hX hP 1 (pc' := 76) (st' := [(0, l7_h19), (2, sf24), (1, w14)]) (lo' := [(0, (2, this)), (1, (2, happened)), (2, (0, choice)), (3, (0, shares)), (4, (2, tf1)), (5, (1, w14)), (7, (0, l7_h19))]) rfl ?_
              refine r_lald hX hP rfl al_127 sf24s (by first | decide | omega) (by first | decide | omega) (fun x25 x25e x25a x25b => ?_)
              refine r_ex hX hP 1 (pc' := 78) (st' := [(2, this), (1, x25), (1, w14)]) (lo' := [(0, (2, this)), (1, (2, happened)), (2, (0, choice)), (3, (0, shares)), (4, (2, tf1)), (5, (1, w14)), (7, (0, l7_h19))]) rfl ?_
              refine r_getR hX hP rfl fl_X11_51_128 hS (fun rf26 rf26e rf26s => ?_)
              refine r_ex hX hP 1 (pc' := 83) (st' := [(2, tf1), (2, rf26), (1, x25), (1, w14)]) (lo' := [(0, (2, this)), (1, (2, happened)), (2, (0, choice)), (3, (0, shares)), (4, (2, tf1)), (5, (1, w14)), (7, (0, l7_h19))]) rfl ?_
              refine r_getKR hX hP rfl fl_X11_330_136 tf1s (x := qf18) qf18e ?_
              refine r_ex hX hP 1 (pc' := 88) (st' := [(0, l7_h19), (2, qf18), (2, rf26), (1, x25), (1, w14)]) (lo' := [(0, (2, this)), (1, (2, happened)), (2, (0, choice)), (3, (0, shares)), (4, (2, tf1)), (5, (1, w14)), (7, (0, l7_h19))]) rfl ?_
              refine r_ialdK hX hP rfl al_121 qf18s (by first | decide | omega) (by first | decide | omega) (x := x19) x19e ?_
              refine r_iald hX hP rfl al_94 rf26s (by first | decide | omega) (by first | decide | omega) (fun x27 x27e x27a x27b => ?_)
              refine r_i2l hX hP rfl (by first | decide | omega) (by first | decide | omega) ?_
              refine r_ex hX hP 1 (pc' := 92) (st' := [(1, (x25 * x27)), (1, w14)]) (lo' := [(0, (2, this)), (1, (2, happened)), (2, (0, choice)), (3, (0, shares)), (4, (2, tf1)), (5, (1, w14)), (7, (0, l7_h19))]) rfl ?_
              refine r_hvL hX (fun w28 w28a w28b w28e => ?_)
              refine r_ex hX hP 1 (pc' := 93) (st' := [(1, (w14 + w28))]) (lo' := [(0, (2, this)), (1, (2, happened)), (2, (0, choice)), (3, (0, shares)), (4, (2, tf1)), (5, (1, w14)), (7, (0, l7_h19))]) rfl ?_
              refine r_hvL hX (fun w29 w29a w29b w29e => ?_)
              refine r_ex hX hP 3 (pc' := 19) (st' := []) (lo' := [(0, (2, this)), (1, (2, happened)), (2, (0, choice)), (3, (0, shares)), (4, (2, tf1)), (5, (1, w29)), (7, (0, (l7_h19 + 1)))]) rfl ?_
              exact ih19 w29 (l7_h19 + 1) (by first | decide | omega) (by first | decide | omega) (by first | decide | omega) (by first | decide | omega) (by first | decide | omega)
          · skip
            refine r_if_eq hX hP rfl (tgt := 95) rfl (by first | decide | omega) (by first | decide | omega) (fun c30 => ?_) (fun c30 => ?_)
            · skip
              refine r_ex hX hP 2 (pc' := 19) (st' := []) (lo' := [(0, (2, this)), (1, (2, happened)), (2, (0, choice)), (3, (0, shares)), (4, (2, tf1)), (5, (1, w14)), (7, (0, (l7_h19 + 1)))]) rfl ?_
              exact ih19 w14 (l7_h19 + 1) (by first | decide | omega) (by first | decide | omega) (by first | decide | omega) (by first | decide | omega) (by first | decide | omega)
            · skip
              exfalso; omega
  exact loop19 ((30 - 0) + 1 : Int).toNat 0 0 (by first | decide | omega) (by first | decide | omega) (by first | decide | omega) (by first | decide | omega) (by first | decide | omega)
set_option maxRecDepth 100000 in
set_option maxHeartbeats 4000000 in
theorem c_X11_brings (E : En) (S : Sg) (G : Gh) (this : Int) (event : Int) (choice : Int) (shares : Int) (hS : S this = 128) (event_a : (-2147483648) ≤ event) (event_b : event ≤ 2147483647) (choice_a : (-2147483648) ≤ choice) (choice_b : choice ≤ 2147483647) (shares_a : (-2147483648) ≤ shares) (shares_b : shares ≤ 2147483647) (ci : CI E S G) : Calls E mX11_brings [(2, this), (0, event), (0, choice), (0, shares)] S G 5 0 0 (fun r S' G' => S = S' ∧ (∃ G1, hw [(119, -1), (125, -1), (126, -1), (127, -1), (128, 0)] G G1 = G') ∧ ∃ z : Int, r = some (1, z) ∧ (-9223372036854775808) ≤ z ∧ z ≤ 9223372036854775807) := by
  refine calls_by [(0, (2, this)), (1, (0, event)), (2, (0, choice)), (3, (0, shares))] rfl rfl (Nat.le_of_ble_eq_true rfl) (fun X hX => ?_)
  have hP := hPX11_brings
  refine r_ex hX hP 2 (pc' := 2) (st' := [(0, event), (2, this)]) (lo' := [(0, (2, this)), (1, (0, event)), (2, (0, choice)), (3, (0, shares))]) rfl ?_
  refine r_peekR hX (tl_128 8 rfl (by decide)) hS (fun evp1 evp1e evp1s => ?_)
  refine r_peekI hX (tl_156 2 rfl (by decide)) evp1s (fun sip2 sip2e sip2a sip2b => ?_)
  refine r_callV gd hX hP rfl cv_X11_193_128 hS (d' := 1) (mc' := 0) (ms' := 0) (as' := [(0, event)]) (st := []) (by first | decide | omega) (by first | decide | omega) (by first | decide | omega) rfl rfl (Nat.le_of_ble_eq_true rfl) (c_X11_hasEvent E S G this event hS evp1 evp1e evp1s sip2 sip2e (by first | decide | omega) (by first | decide | omega)) ?_
  rintro _ _ _ ⟨rfl, rfl, z3, rfl, (⟨rfl, f4, f5⟩ | rfl)⟩
  · skip
    refine r_if_eq hX hP rfl (tgt := 22) rfl (by first | decide | omega) (by first | decide | omega) (fun c6 => ?_) (fun c6 => ?_)
    · skip
      exfalso; omega
    · skip
      refine r_ex hX hP 2 (pc' := 10) (st' := [(0, (-1)), (0, choice)]) (lo' := [(0, (2, this)), (1, (0, event)), (2, (0, choice)), (3, (0, shares))]) rfl ?_
      refine r_ic_eq hX hP rfl (tgt := 26) rfl (by first | decide | omega) (by first | decide | omega) (by first | decide | omega) (by first | decide | omega) (fun c7 => ?_) (fun c7 => ?_)
      · skip
        refine r_ex hX hP 6 (pc' := 34) (st' := [(0, 1), (0, shares), (0, 0), (2, this)]) (lo' := [(0, (2, this)), (1, (0, event)), (2, (0, choice)), (3, (0, shares)), (4, (0, 0))]) rfl ?_
        refine r_ldc hX hP rfl (v := 1000000) (tbg sg3 10 rfl rfl) ?_
        refine r_callS gd hX hP rfl cs_X11_103 (d' := 0) (mc' := 0) (ms' := 0) (as' := [(0, shares), (0, 1), (0, 1000000)]) (st := [(0, 0), (2, this)]) (by first | decide | omega) (by first | decide | omega) (by first | decide | omega) rfl rfl (Nat.le_of_ble_eq_true rfl) (c_X11_within E S G shares 1 1000000 (by first | decide | omega) (by first | decide | omega) (by first | decide | omega) (by first | decide | omega) (by first | decide | omega) (by first | decide | omega)) ?_
        rintro _ _ _ ⟨rfl, rfl, z8, rfl, (⟨rfl, f9, f10⟩ | ⟨rfl, f11⟩)⟩
        · skip
          refine r_if_ne hX hP rfl (tgt := 46) rfl (by first | decide | omega) (by first | decide | omega) (fun c12 => ?_) (fun c12 => ?_)
          · skip
            refine r_ex hX hP 3 (pc' := 49) (st' := [(0, 0), (0, 0), (0, 0), (0, 0), (2, this)]) (lo' := [(0, (2, this)), (1, (0, event)), (2, (0, choice)), (3, (0, shares)), (4, (0, 0))]) rfl ?_
            refine r_callS gd hX hP rfl cs_X11_112 (d' := 0) (mc' := 0) (ms' := 0) (as' := [(0, 0), (0, 0), (0, 0), (0, 0)]) (st := [(2, this)]) (by first | decide | omega) (by first | decide | omega) (by first | decide | omega) rfl rfl (Nat.le_of_ble_eq_true rfl) (c_X11_first E S G 0 0 0 0 (by first | decide | omega) (by first | decide | omega) (by first | decide | omega) (by first | decide | omega) (by first | decide | omega) (by first | decide | omega) (by first | decide | omega) (by first | decide | omega)) ?_
            rintro _ _ _ ⟨rfl, rfl, z13, rfl, (⟨rfl, f14⟩ | ⟨rfl, f15, f16⟩ | ⟨rfl, f17, f18, f19⟩ | ⟨rfl, f20, f21, f22, f23⟩ | ⟨rfl, f24, f25, f26, f27⟩)⟩
            · skip
              exfalso; omega
            · skip
              exfalso; omega
            · skip
              exfalso; omega
            · skip
              exfalso; omega
            · skip
              refine r_callV gd hX hP rfl cv_X11_90_128 hS (d' := 0) (mc' := 0) (ms' := 0) (as' := [(0, 0)]) (st := []) (by first | decide | omega) (by first | decide | omega) (by first | decide | omega) rfl rfl (Nat.le_of_ble_eq_true rfl) (c_X11_refused E S G this 0 hS (by first | decide | omega) (by first | decide | omega)) ?_
              rintro _ _ _ ⟨rfl, ⟨G28, rfl⟩, z29, rfl, (⟨rfl, f30⟩ | ⟨rfl, f31⟩)⟩
              · skip
                exfalso; omega
              · skip
                refine r_if_eq hX hP rfl (tgt := 62) rfl (by first | decide | omega) (by first | decide | omega) (fun c32 => ?_) (fun c32 => ?_)
                · skip
                  refine r_ex hX hP 2 (pc' := 64) (st' := [(2, this), (2, this)]) (lo' := [(0, (2, this)), (1, (0, event)), (2, (0, choice)), (3, (0, shares)), (4, (0, 0))]) rfl ?_
                  refine r_getKR hX hP rfl fl_X11_37_128 hS (x := evp1) evp1e ?_
                  refine r_ex hX hP 1 (pc' := 68) (st' := [(0, event), (2, evp1), (2, this)]) (lo' := [(0, (2, this)), (1, (0, event)), (2, (0, choice)), (3, (0, shares)), (4, (0, 0))]) rfl ?_
                  have ci33 : CI E S (hw [(128, 0)] G G28) := (ci_hw ci rfl)
                  refine r_callV gd hX hP rfl cv_X11_196_156 evp1s (d' := 2) (mc' := 0) (ms' := 0) (as' := [(0, event)]) (st := [(2, this)]) (by first | decide | omega) (by first | decide | omega) (by first | decide | omega) rfl rfl (Nat.le_of_ble_eq_true rfl) (c_get_Lev E S (hw [(128, 0)] G G28) evp1 event evp1s sip2 sip2e (by first | decide | omega) (by first | decide | omega) (by first | decide | omega) ci33) ?_
                  rintro _ _ _ ⟨rfl, rfl, z34, rfl, z34s⟩
                  refine r_cast hX hP rfl (tbg sg4 200 rfl rfl) ck_137_X2 z34s ?_
                  refine r_ex hX hP 2 (pc' := 76) (st' := [(0, shares), (0, choice), (2, z34), (2, this)]) (lo' := [(0, (2, this)), (1, (0, event)), (2, (0, choice)), (3, (0, shares)), (4, (0, 0))]) rfl ?_
                  refine r_callV gd hX hP rfl cv_X11_409_128 hS (d' := 4) (mc' := 0) (ms' := 0) (as' := [(2, z34), (0, choice), (0, shares)]) (st := []) (by first | decide | omega) (by first | decide | omega) (by first | decide | omega) rfl rfl (Nat.le_of_ble_eq_true rfl) (c_X11_valueOf E S (hw [(128, 0)] G G28) this z34 choice shares hS z34s (by first | decide | omega) (by first | decide | omega) (by first | decide | omega) (by first | decide | omega)) ?_
                  rintro _ _ _ ⟨rfl, ⟨G35, rfl⟩, z36, rfl, z36a, z36b⟩
                  exact r_retL hX hP rfl rfl (by first | decide | omega) (by first | decide | omega) ⟨rfl, ⟨_, (hw_sub (hw_sub (hw_refl _ _) rfl) rfl).symm⟩, z36, rfl, (by first | decide | omega)⟩
                · skip
                  exfalso; omega
          · skip
            exfalso; omega
        · skip
          refine r_if_ne hX hP rfl (tgt := 46) rfl (by first | decide | omega) (by first | decide | omega) (fun c37 => ?_) (fun c37 => ?_)
          · skip
            exfalso; omega
          · skip
            refine r_ex hX hP 4 (pc' := 49) (st' := [(0, 0), (0, 0), (0, 1), (0, 0), (2, this)]) (lo' := [(0, (2, this)), (1, (0, event)), (2, (0, choice)), (3, (0, shares)), (4, (0, 0))]) rfl ?_
            refine r_callS gd hX hP rfl cs_X11_112 (d' := 0) (mc' := 0) (ms' := 0) (as' := [(0, 0), (0, 1), (0, 0), (0, 0)]) (st := [(2, this)]) (by first | decide | omega) (by first | decide | omega) (by first | decide | omega) rfl rfl (Nat.le_of_ble_eq_true rfl) (c_X11_first E S G 0 1 0 0 (by first | decide | omega) (by first | decide | omega) (by first | decide | omega) (by first | decide | omega) (by first | decide | omega) (by first | decide | omega) (by first | decide | omega) (by first | decide | omega)) ?_
            rintro _ _ _ ⟨rfl, rfl, z38, rfl, (⟨rfl, f39⟩ | ⟨rfl, f40, f41⟩ | ⟨rfl, f42, f43, f44⟩ | ⟨rfl, f45, f46, f47, f48⟩ | ⟨rfl, f49, f50, f51, f52⟩)⟩
            · skip
              exfalso; omega
            · skip
              refine r_callV gd hX hP rfl cv_X11_90_128 hS (d' := 0) (mc' := 0) (ms' := 0) (as' := [(0, 2)]) (st := []) (by first | decide | omega) (by first | decide | omega) (by first | decide | omega) rfl rfl (Nat.le_of_ble_eq_true rfl) (c_X11_refused E S G this 2 hS (by first | decide | omega) (by first | decide | omega)) ?_
              rintro _ _ _ ⟨rfl, ⟨G53, rfl⟩, z54, rfl, (⟨rfl, f55⟩ | ⟨rfl, f56⟩)⟩
              · skip
                refine r_if_eq hX hP rfl (tgt := 62) rfl (by first | decide | omega) (by first | decide | omega) (fun c57 => ?_) (fun c57 => ?_)
                · skip
                  exfalso; omega
                · skip
                  refine r_ldc2 hX hP rfl (v := (-1)) (tbg sg5 231 rfl rfl) ?_
                  exact r_retL hX hP rfl rfl (by first | decide | omega) (by first | decide | omega) ⟨rfl, ⟨_, (hw_sub (hw_refl _ _) rfl).symm⟩, (-1), rfl, (by first | decide | omega)⟩
              · skip
                exfalso; omega
            · skip
              exfalso; omega
            · skip
              exfalso; omega
            · skip
              exfalso; omega
      · skip
        refine r_ex hX hP 3 (pc' := 16) (st' := [(0, choice), (0, event), (2, this)]) (lo' := [(0, (2, this)), (1, (0, event)), (2, (0, choice)), (3, (0, shares))]) rfl ?_
        refine r_callV gd hX hP rfl cv_X11_209_128 hS (d' := 3) (mc' := 0) (ms' := 0) (as' := [(0, event), (0, choice)]) (st := []) (by first | decide | omega) (by first | decide | omega) (by first | decide | omega) rfl rfl (Nat.le_of_ble_eq_true rfl) (c_X11_hasChoice E S G this event choice hS evp1 evp1e evp1s sip2 sip2e (by first | decide | omega) (by first | decide | omega) (by first | decide | omega) (by first | decide | omega) ci) ?_
        rintro _ _ _ ⟨rfl, rfl, z58, rfl, (⟨rfl, f59, f60, f61, f62⟩ | rfl)⟩
        · skip
          refine r_if_ne hX hP rfl (tgt := 26) rfl (by first | decide | omega) (by first | decide | omega) (fun c63 => ?_) (fun c63 => ?_)
          · skip
            refine r_ex hX hP 6 (pc' := 34) (st' := [(0, 1), (0, shares), (0, 0), (2, this)]) (lo' := [(0, (2, this)), (1, (0, event)), (2, (0, choice)), (3, (0, shares)), (4, (0, 0))]) rfl ?_
            refine r_ldc hX hP rfl (v := 1000000) (tbg sg3 10 rfl rfl) ?_
            refine r_callS gd hX hP rfl cs_X11_103 (d' := 0) (mc' := 0) (ms' := 0) (as' := [(0, shares), (0, 1), (0, 1000000)]) (st := [(0, 0), (2, this)]) (by first | decide | omega) (by first | decide | omega) (by first | decide | omega) rfl rfl (Nat.le_of_ble_eq_true rfl) (c_X11_within E S G shares 1 1000000 (by first | decide | omega) (by first | decide | omega) (by first | decide | omega) (by first | decide | omega) (by first | decide | omega) (by first | decide | omega)) ?_
            rintro _ _ _ ⟨rfl, rfl, z64, rfl, (⟨rfl, f65, f66⟩ | ⟨rfl, f67⟩)⟩
            · skip
              refine r_if_ne hX hP rfl (tgt := 46) rfl (by first | decide | omega) (by first | decide | omega) (fun c68 => ?_) (fun c68 => ?_)
              · skip
                refine r_ex hX hP 3 (pc' := 49) (st' := [(0, 0), (0, 0), (0, 0), (0, 0), (2, this)]) (lo' := [(0, (2, this)), (1, (0, event)), (2, (0, choice)), (3, (0, shares)), (4, (0, 0))]) rfl ?_
                refine r_callS gd hX hP rfl cs_X11_112 (d' := 0) (mc' := 0) (ms' := 0) (as' := [(0, 0), (0, 0), (0, 0), (0, 0)]) (st := [(2, this)]) (by first | decide | omega) (by first | decide | omega) (by first | decide | omega) rfl rfl (Nat.le_of_ble_eq_true rfl) (c_X11_first E S G 0 0 0 0 (by first | decide | omega) (by first | decide | omega) (by first | decide | omega) (by first | decide | omega) (by first | decide | omega) (by first | decide | omega) (by first | decide | omega) (by first | decide | omega)) ?_
                rintro _ _ _ ⟨rfl, rfl, z69, rfl, (⟨rfl, f70⟩ | ⟨rfl, f71, f72⟩ | ⟨rfl, f73, f74, f75⟩ | ⟨rfl, f76, f77, f78, f79⟩ | ⟨rfl, f80, f81, f82, f83⟩)⟩
                · skip
                  exfalso; omega
                · skip
                  exfalso; omega
                · skip
                  exfalso; omega
                · skip
                  exfalso; omega
                · skip
                  refine r_callV gd hX hP rfl cv_X11_90_128 hS (d' := 0) (mc' := 0) (ms' := 0) (as' := [(0, 0)]) (st := []) (by first | decide | omega) (by first | decide | omega) (by first | decide | omega) rfl rfl (Nat.le_of_ble_eq_true rfl) (c_X11_refused E S G this 0 hS (by first | decide | omega) (by first | decide | omega)) ?_
                  rintro _ _ _ ⟨rfl, ⟨G84, rfl⟩, z85, rfl, (⟨rfl, f86⟩ | ⟨rfl, f87⟩)⟩
                  · skip
                    exfalso; omega
                  · skip
                    refine r_if_eq hX hP rfl (tgt := 62) rfl (by first | decide | omega) (by first | decide | omega) (fun c88 => ?_) (fun c88 => ?_)
                    · skip
                      refine r_ex hX hP 2 (pc' := 64) (st' := [(2, this), (2, this)]) (lo' := [(0, (2, this)), (1, (0, event)), (2, (0, choice)), (3, (0, shares)), (4, (0, 0))]) rfl ?_
                      refine r_getKR hX hP rfl fl_X11_37_128 hS (x := evp1) evp1e ?_
                      refine r_ex hX hP 1 (pc' := 68) (st' := [(0, event), (2, evp1), (2, this)]) (lo' := [(0, (2, this)), (1, (0, event)), (2, (0, choice)), (3, (0, shares)), (4, (0, 0))]) rfl ?_
                      have ci89 : CI E S (hw [(128, 0)] G G84) := (ci_hw ci rfl)
                      refine r_callV gd hX hP rfl cv_X11_196_156 evp1s (d' := 2) (mc' := 0) (ms' := 0) (as' := [(0, event)]) (st := [(2, this)]) (by first | decide | omega) (by first | decide | omega) (by first | decide | omega) rfl rfl (Nat.le_of_ble_eq_true rfl) (c_get_Lev E S (hw [(128, 0)] G G84) evp1 event evp1s sip2 sip2e (by first | decide | omega) (by first | decide | omega) (by first | decide | omega) ci89) ?_
                      rintro _ _ _ ⟨rfl, rfl, z90, rfl, z90s⟩
                      refine r_cast hX hP rfl (tbg sg4 200 rfl rfl) ck_137_X2 z90s ?_
                      refine r_ex hX hP 2 (pc' := 76) (st' := [(0, shares), (0, choice), (2, z90), (2, this)]) (lo' := [(0, (2, this)), (1, (0, event)), (2, (0, choice)), (3, (0, shares)), (4, (0, 0))]) rfl ?_
                      refine r_callV gd hX hP rfl cv_X11_409_128 hS (d' := 4) (mc' := 0) (ms' := 0) (as' := [(2, z90), (0, choice), (0, shares)]) (st := []) (by first | decide | omega) (by first | decide | omega) (by first | decide | omega) rfl rfl (Nat.le_of_ble_eq_true rfl) (c_X11_valueOf E S (hw [(128, 0)] G G84) this z90 choice shares hS z90s (by first | decide | omega) (by first | decide | omega) (by first | decide | omega) (by first | decide | omega)) ?_
                      rintro _ _ _ ⟨rfl, ⟨G91, rfl⟩, z92, rfl, z92a, z92b⟩
                      exact r_retL hX hP rfl rfl (by first | decide | omega) (by first | decide | omega) ⟨rfl, ⟨_, (hw_sub (hw_sub (hw_refl _ _) rfl) rfl).symm⟩, z92, rfl, (by first | decide | omega)⟩
                    · skip
                      exfalso; omega
              · skip
                exfalso; omega
            · skip
              refine r_if_ne hX hP rfl (tgt := 46) rfl (by first | decide | omega) (by first | decide | omega) (fun c93 => ?_) (fun c93 => ?_)
              · skip
                exfalso; omega
              · skip
                refine r_ex hX hP 4 (pc' := 49) (st' := [(0, 0), (0, 0), (0, 1), (0, 0), (2, this)]) (lo' := [(0, (2, this)), (1, (0, event)), (2, (0, choice)), (3, (0, shares)), (4, (0, 0))]) rfl ?_
                refine r_callS gd hX hP rfl cs_X11_112 (d' := 0) (mc' := 0) (ms' := 0) (as' := [(0, 0), (0, 1), (0, 0), (0, 0)]) (st := [(2, this)]) (by first | decide | omega) (by first | decide | omega) (by first | decide | omega) rfl rfl (Nat.le_of_ble_eq_true rfl) (c_X11_first E S G 0 1 0 0 (by first | decide | omega) (by first | decide | omega) (by first | decide | omega) (by first | decide | omega) (by first | decide | omega) (by first | decide | omega) (by first | decide | omega) (by first | decide | omega)) ?_
                rintro _ _ _ ⟨rfl, rfl, z94, rfl, (⟨rfl, f95⟩ | ⟨rfl, f96, f97⟩ | ⟨rfl, f98, f99, f100⟩ | ⟨rfl, f101, f102, f103, f104⟩ | ⟨rfl, f105, f106, f107, f108⟩)⟩
                · skip
                  exfalso; omega
                · skip
                  refine r_callV gd hX hP rfl cv_X11_90_128 hS (d' := 0) (mc' := 0) (ms' := 0) (as' := [(0, 2)]) (st := []) (by first | decide | omega) (by first | decide | omega) (by first | decide | omega) rfl rfl (Nat.le_of_ble_eq_true rfl) (c_X11_refused E S G this 2 hS (by first | decide | omega) (by first | decide | omega)) ?_
                  rintro _ _ _ ⟨rfl, ⟨G109, rfl⟩, z110, rfl, (⟨rfl, f111⟩ | ⟨rfl, f112⟩)⟩
                  · skip
                    refine r_if_eq hX hP rfl (tgt := 62) rfl (by first | decide | omega) (by first | decide | omega) (fun c113 => ?_) (fun c113 => ?_)
                    · skip
                      exfalso; omega
                    · skip
                      refine r_ldc2 hX hP rfl (v := (-1)) (tbg sg5 231 rfl rfl) ?_
                      exact r_retL hX hP rfl rfl (by first | decide | omega) (by first | decide | omega) ⟨rfl, ⟨_, (hw_sub (hw_refl _ _) rfl).symm⟩, (-1), rfl, (by first | decide | omega)⟩
                  · skip
                    exfalso; omega
                · skip
                  exfalso; omega
                · skip
                  exfalso; omega
                · skip
                  exfalso; omega
          · skip
            exfalso; omega
        · skip
          refine r_if_ne hX hP rfl (tgt := 26) rfl (by first | decide | omega) (by first | decide | omega) (fun c114 => ?_) (fun c114 => ?_)
          · skip
            exfalso; omega
          · skip
            refine r_ex hX hP 7 (pc' := 34) (st' := [(0, 1), (0, shares), (0, 1), (2, this)]) (lo' := [(0, (2, this)), (1, (0, event)), (2, (0, choice)), (3, (0, shares)), (4, (0, 1))]) rfl ?_
            refine r_ldc hX hP rfl (v := 1000000) (tbg sg3 10 rfl rfl) ?_
            refine r_callS gd hX hP rfl cs_X11_103 (d' := 0) (mc' := 0) (ms' := 0) (as' := [(0, shares), (0, 1), (0, 1000000)]) (st := [(0, 1), (2, this)]) (by first | decide | omega) (by first | decide | omega) (by first | decide | omega) rfl rfl (Nat.le_of_ble_eq_true rfl) (c_X11_within E S G shares 1 1000000 (by first | decide | omega) (by first | decide | omega) (by first | decide | omega) (by first | decide | omega) (by first | decide | omega) (by first | decide | omega)) ?_
            rintro _ _ _ ⟨rfl, rfl, z115, rfl, (⟨rfl, f116, f117⟩ | ⟨rfl, f118⟩)⟩
            · skip
              refine r_if_ne hX hP rfl (tgt := 46) rfl (by first | decide | omega) (by first | decide | omega) (fun c119 => ?_) (fun c119 => ?_)
              · skip
                refine r_ex hX hP 3 (pc' := 49) (st' := [(0, 0), (0, 0), (0, 0), (0, 1), (2, this)]) (lo' := [(0, (2, this)), (1, (0, event)), (2, (0, choice)), (3, (0, shares)), (4, (0, 1))]) rfl ?_
                refine r_callS gd hX hP rfl cs_X11_112 (d' := 0) (mc' := 0) (ms' := 0) (as' := [(0, 1), (0, 0), (0, 0), (0, 0)]) (st := [(2, this)]) (by first | decide | omega) (by first | decide | omega) (by first | decide | omega) rfl rfl (Nat.le_of_ble_eq_true rfl) (c_X11_first E S G 1 0 0 0 (by first | decide | omega) (by first | decide | omega) (by first | decide | omega) (by first | decide | omega) (by first | decide | omega) (by first | decide | omega) (by first | decide | omega) (by first | decide | omega)) ?_
                rintro _ _ _ ⟨rfl, rfl, z120, rfl, (⟨rfl, f121⟩ | ⟨rfl, f122, f123⟩ | ⟨rfl, f124, f125, f126⟩ | ⟨rfl, f127, f128, f129, f130⟩ | ⟨rfl, f131, f132, f133, f134⟩)⟩
                · skip
                  refine r_callV gd hX hP rfl cv_X11_90_128 hS (d' := 0) (mc' := 0) (ms' := 0) (as' := [(0, 1)]) (st := []) (by first | decide | omega) (by first | decide | omega) (by first | decide | omega) rfl rfl (Nat.le_of_ble_eq_true rfl) (c_X11_refused E S G this 1 hS (by first | decide | omega) (by first | decide | omega)) ?_
                  rintro _ _ _ ⟨rfl, ⟨G135, rfl⟩, z136, rfl, (⟨rfl, f137⟩ | ⟨rfl, f138⟩)⟩
                  · skip
                    refine r_if_eq hX hP rfl (tgt := 62) rfl (by first | decide | omega) (by first | decide | omega) (fun c139 => ?_) (fun c139 => ?_)
                    · skip
                      exfalso; omega
                    · skip
                      refine r_ldc2 hX hP rfl (v := (-1)) (tbg sg5 231 rfl rfl) ?_
                      exact r_retL hX hP rfl rfl (by first | decide | omega) (by first | decide | omega) ⟨rfl, ⟨_, (hw_sub (hw_refl _ _) rfl).symm⟩, (-1), rfl, (by first | decide | omega)⟩
                  · skip
                    exfalso; omega
                · skip
                  exfalso; omega
                · skip
                  exfalso; omega
                · skip
                  exfalso; omega
                · skip
                  exfalso; omega
              · skip
                exfalso; omega
            · skip
              refine r_if_ne hX hP rfl (tgt := 46) rfl (by first | decide | omega) (by first | decide | omega) (fun c140 => ?_) (fun c140 => ?_)
              · skip
                exfalso; omega
              · skip
                refine r_ex hX hP 4 (pc' := 49) (st' := [(0, 0), (0, 0), (0, 1), (0, 1), (2, this)]) (lo' := [(0, (2, this)), (1, (0, event)), (2, (0, choice)), (3, (0, shares)), (4, (0, 1))]) rfl ?_
                refine r_callS gd hX hP rfl cs_X11_112 (d' := 0) (mc' := 0) (ms' := 0) (as' := [(0, 1), (0, 1), (0, 0), (0, 0)]) (st := [(2, this)]) (by first | decide | omega) (by first | decide | omega) (by first | decide | omega) rfl rfl (Nat.le_of_ble_eq_true rfl) (c_X11_first E S G 1 1 0 0 (by first | decide | omega) (by first | decide | omega) (by first | decide | omega) (by first | decide | omega) (by first | decide | omega) (by first | decide | omega) (by first | decide | omega) (by first | decide | omega)) ?_
                rintro _ _ _ ⟨rfl, rfl, z141, rfl, (⟨rfl, f142⟩ | ⟨rfl, f143, f144⟩ | ⟨rfl, f145, f146, f147⟩ | ⟨rfl, f148, f149, f150, f151⟩ | ⟨rfl, f152, f153, f154, f155⟩)⟩
                · skip
                  refine r_callV gd hX hP rfl cv_X11_90_128 hS (d' := 0) (mc' := 0) (ms' := 0) (as' := [(0, 1)]) (st := []) (by first | decide | omega) (by first | decide | omega) (by first | decide | omega) rfl rfl (Nat.le_of_ble_eq_true rfl) (c_X11_refused E S G this 1 hS (by first | decide | omega) (by first | decide | omega)) ?_
                  rintro _ _ _ ⟨rfl, ⟨G156, rfl⟩, z157, rfl, (⟨rfl, f158⟩ | ⟨rfl, f159⟩)⟩
                  · skip
                    refine r_if_eq hX hP rfl (tgt := 62) rfl (by first | decide | omega) (by first | decide | omega) (fun c160 => ?_) (fun c160 => ?_)
                    · skip
                      exfalso; omega
                    · skip
                      refine r_ldc2 hX hP rfl (v := (-1)) (tbg sg5 231 rfl rfl) ?_
                      exact r_retL hX hP rfl rfl (by first | decide | omega) (by first | decide | omega) ⟨rfl, ⟨_, (hw_sub (hw_refl _ _) rfl).symm⟩, (-1), rfl, (by first | decide | omega)⟩
                  · skip
                    exfalso; omega
                · skip
                  exfalso; omega
                · skip
                  exfalso; omega
                · skip
                  exfalso; omega
                · skip
                  exfalso; omega
  · skip
    refine r_if_eq hX hP rfl (tgt := 22) rfl (by first | decide | omega) (by first | decide | omega) (fun c161 => ?_) (fun c161 => ?_)
    · skip
      refine r_ex hX hP 7 (pc' := 34) (st' := [(0, 1), (0, shares), (0, 1), (2, this)]) (lo' := [(0, (2, this)), (1, (0, event)), (2, (0, choice)), (3, (0, shares)), (4, (0, 1))]) rfl ?_
      refine r_ldc hX hP rfl (v := 1000000) (tbg sg3 10 rfl rfl) ?_
      refine r_callS gd hX hP rfl cs_X11_103 (d' := 0) (mc' := 0) (ms' := 0) (as' := [(0, shares), (0, 1), (0, 1000000)]) (st := [(0, 1), (2, this)]) (by first | decide | omega) (by first | decide | omega) (by first | decide | omega) rfl rfl (Nat.le_of_ble_eq_true rfl) (c_X11_within E S G shares 1 1000000 (by first | decide | omega) (by first | decide | omega) (by first | decide | omega) (by first | decide | omega) (by first | decide | omega) (by first | decide | omega)) ?_
      rintro _ _ _ ⟨rfl, rfl, z162, rfl, (⟨rfl, f163, f164⟩ | ⟨rfl, f165⟩)⟩
      · skip
        refine r_if_ne hX hP rfl (tgt := 46) rfl (by first | decide | omega) (by first | decide | omega) (fun c166 => ?_) (fun c166 => ?_)
        · skip
          refine r_ex hX hP 3 (pc' := 49) (st' := [(0, 0), (0, 0), (0, 0), (0, 1), (2, this)]) (lo' := [(0, (2, this)), (1, (0, event)), (2, (0, choice)), (3, (0, shares)), (4, (0, 1))]) rfl ?_
          refine r_callS gd hX hP rfl cs_X11_112 (d' := 0) (mc' := 0) (ms' := 0) (as' := [(0, 1), (0, 0), (0, 0), (0, 0)]) (st := [(2, this)]) (by first | decide | omega) (by first | decide | omega) (by first | decide | omega) rfl rfl (Nat.le_of_ble_eq_true rfl) (c_X11_first E S G 1 0 0 0 (by first | decide | omega) (by first | decide | omega) (by first | decide | omega) (by first | decide | omega) (by first | decide | omega) (by first | decide | omega) (by first | decide | omega) (by first | decide | omega)) ?_
          rintro _ _ _ ⟨rfl, rfl, z167, rfl, (⟨rfl, f168⟩ | ⟨rfl, f169, f170⟩ | ⟨rfl, f171, f172, f173⟩ | ⟨rfl, f174, f175, f176, f177⟩ | ⟨rfl, f178, f179, f180, f181⟩)⟩
          · skip
            refine r_callV gd hX hP rfl cv_X11_90_128 hS (d' := 0) (mc' := 0) (ms' := 0) (as' := [(0, 1)]) (st := []) (by first | decide | omega) (by first | decide | omega) (by first | decide | omega) rfl rfl (Nat.le_of_ble_eq_true rfl) (c_X11_refused E S G this 1 hS (by first | decide | omega) (by first | decide | omega)) ?_
            rintro _ _ _ ⟨rfl, ⟨G182, rfl⟩, z183, rfl, (⟨rfl, f184⟩ | ⟨rfl, f185⟩)⟩
            · skip
              refine r_if_eq hX hP rfl (tgt := 62) rfl (by first | decide | omega) (by first | decide | omega) (fun c186 => ?_) (fun c186 => ?_)
              · skip
                exfalso; omega
              · skip
                refine r_ldc2 hX hP rfl (v := (-1)) (tbg sg5 231 rfl rfl) ?_
                exact r_retL hX hP rfl rfl (by first | decide | omega) (by first | decide | omega) ⟨rfl, ⟨_, (hw_sub (hw_refl _ _) rfl).symm⟩, (-1), rfl, (by first | decide | omega)⟩
            · skip
              exfalso; omega
          · skip
            exfalso; omega
          · skip
            exfalso; omega
          · skip
            exfalso; omega
          · skip
            exfalso; omega
        · skip
          exfalso; omega
      · skip
        refine r_if_ne hX hP rfl (tgt := 46) rfl (by first | decide | omega) (by first | decide | omega) (fun c187 => ?_) (fun c187 => ?_)
        · skip
          exfalso; omega
        · skip
          refine r_ex hX hP 4 (pc' := 49) (st' := [(0, 0), (0, 0), (0, 1), (0, 1), (2, this)]) (lo' := [(0, (2, this)), (1, (0, event)), (2, (0, choice)), (3, (0, shares)), (4, (0, 1))]) rfl ?_
          refine r_callS gd hX hP rfl cs_X11_112 (d' := 0) (mc' := 0) (ms' := 0) (as' := [(0, 1), (0, 1), (0, 0), (0, 0)]) (st := [(2, this)]) (by first | decide | omega) (by first | decide | omega) (by first | decide | omega) rfl rfl (Nat.le_of_ble_eq_true rfl) (c_X11_first E S G 1 1 0 0 (by first | decide | omega) (by first | decide | omega) (by first | decide | omega) (by first | decide | omega) (by first | decide | omega) (by first | decide | omega) (by first | decide | omega) (by first | decide | omega)) ?_
          rintro _ _ _ ⟨rfl, rfl, z188, rfl, (⟨rfl, f189⟩ | ⟨rfl, f190, f191⟩ | ⟨rfl, f192, f193, f194⟩ | ⟨rfl, f195, f196, f197, f198⟩ | ⟨rfl, f199, f200, f201, f202⟩)⟩
          · skip
            refine r_callV gd hX hP rfl cv_X11_90_128 hS (d' := 0) (mc' := 0) (ms' := 0) (as' := [(0, 1)]) (st := []) (by first | decide | omega) (by first | decide | omega) (by first | decide | omega) rfl rfl (Nat.le_of_ble_eq_true rfl) (c_X11_refused E S G this 1 hS (by first | decide | omega) (by first | decide | omega)) ?_
            rintro _ _ _ ⟨rfl, ⟨G203, rfl⟩, z204, rfl, (⟨rfl, f205⟩ | ⟨rfl, f206⟩)⟩
            · skip
              refine r_if_eq hX hP rfl (tgt := 62) rfl (by first | decide | omega) (by first | decide | omega) (fun c207 => ?_) (fun c207 => ?_)
              · skip
                exfalso; omega
              · skip
                refine r_ldc2 hX hP rfl (v := (-1)) (tbg sg5 231 rfl rfl) ?_
                exact r_retL hX hP rfl rfl (by first | decide | omega) (by first | decide | omega) ⟨rfl, ⟨_, (hw_sub (hw_refl _ _) rfl).symm⟩, (-1), rfl, (by first | decide | omega)⟩
            · skip
              exfalso; omega
          · skip
            exfalso; omega
          · skip
            exfalso; omega
          · skip
            exfalso; omega
          · skip
            exfalso; omega
    · skip
      exfalso; omega
set_option maxRecDepth 100000 in
set_option maxHeartbeats 4000000 in
theorem c_X11_best (E : En) (S : Sg) (G : Gh) (this : Int) (event : Int) (shares : Int) (hS : S this = 128) (event_a : (-2147483648) ≤ event) (event_b : event ≤ 2147483647) (shares_a : (-2147483648) ≤ shares) (shares_b : shares ≤ 2147483647) (ci : CI E S G) : Calls E mX11_best [(2, this), (0, event), (0, shares)] S G 5 0 0 (fun r S' G' => S = S' ∧ (∃ G1, hw [(119, -1), (125, -1), (126, -1), (127, -1), (128, 0)] G G1 = G') ∧ ∃ z : Int, r = some (0, z) ∧ (-2147483648) ≤ z ∧ z ≤ 2147483647) := by
  refine calls_by [(0, (2, this)), (1, (0, event)), (2, (0, shares))] rfl rfl (Nat.le_of_ble_eq_true rfl) (fun X hX => ?_)
  have hP := hPX11_best
  refine r_ex hX hP 3 (pc' := 3) (st' := [(0, event), (2, this), (2, this)]) (lo' := [(0, (2, this)), (1, (0, event)), (2, (0, shares))]) rfl ?_
  refine r_peekR hX (tl_128 8 rfl (by decide)) hS (fun evp1 evp1e evp1s => ?_)
  refine r_peekI hX (tl_156 2 rfl (by decide)) evp1s (fun sip2 sip2e sip2a sip2b => ?_)
  refine r_callV gd hX hP rfl cv_X11_193_128 hS (d' := 1) (mc' := 0) (ms' := 0) (as' := [(0, event)]) (st := [(2, this)]) (by first | decide | omega) (by first | decide | omega) (by first | decide | omega) rfl rfl (Nat.le_of_ble_eq_true rfl) (c_X11_hasEvent E S G this event hS evp1 evp1e evp1s sip2 sip2e (by first | decide | omega) (by first | decide | omega)) ?_
  rintro _ _ _ ⟨rfl, rfl, z3, rfl, (⟨rfl, f4, f5⟩ | rfl)⟩
  · skip
    refine r_if_ne hX hP rfl (tgt := 13) rfl (by first | decide | omega) (by first | decide | omega) (fun c6 => ?_) (fun c6 => ?_)
    · skip
      refine r_ex hX hP 3 (pc' := 16) (st' := [(0, 1), (0, shares), (0, 0), (2, this)]) (lo' := [(0, (2, this)), (1, (0, event)), (2, (0, shares))]) rfl ?_
      refine r_ldc hX hP rfl (v := 1000000) (tbg sg3 10 rfl rfl) ?_
      refine r_callS gd hX hP rfl cs_X11_103 (d' := 0) (mc' := 0) (ms' := 0) (as' := [(0, shares), (0, 1), (0, 1000000)]) (st := [(0, 0), (2, this)]) (by first | decide | omega) (by first | decide | omega) (by first | decide | omega) rfl rfl (Nat.le_of_ble_eq_true rfl) (c_X11_within E S G shares 1 1000000 (by first | decide | omega) (by first | decide | omega) (by first | decide | omega) (by first | decide | omega) (by first | decide | omega) (by first | decide | omega)) ?_
      rintro _ _ _ ⟨rfl, rfl, z7, rfl, (⟨rfl, f8, f9⟩ | ⟨rfl, f10⟩)⟩
      · skip
        refine r_if_ne hX hP rfl (tgt := 28) rfl (by first | decide | omega) (by first | decide | omega) (fun c11 => ?_) (fun c11 => ?_)
        · skip
          refine r_ex hX hP 3 (pc' := 31) (st' := [(0, 0), (0, 0), (0, 0), (0, 0), (2, this)]) (lo' := [(0, (2, this)), (1, (0, event)), (2, (0, shares))]) rfl ?_
          refine r_callS gd hX hP rfl cs_X11_112 (d' := 0) (mc' := 0) (ms' := 0) (as' := [(0, 0), (0, 0), (0, 0), (0, 0)]) (st := [(2, this)]) (by first | decide | omega) (by first | decide | omega) (by first | decide | omega) rfl rfl (Nat.le_of_ble_eq_true rfl) (c_X11_first E S G 0 0 0 0 (by first | decide | omega) (by first | decide | omega) (by first | decide | omega) (by first | decide | omega) (by first | decide | omega) (by first | decide | omega) (by first | decide | omega) (by first | decide | omega)) ?_
          rintro _ _ _ ⟨rfl, rfl, z12, rfl, (⟨rfl, f13⟩ | ⟨rfl, f14, f15⟩ | ⟨rfl, f16, f17, f18⟩ | ⟨rfl, f19, f20, f21, f22⟩ | ⟨rfl, f23, f24, f25, f26⟩)⟩
          · skip
            exfalso; omega
          · skip
            exfalso; omega
          · skip
            exfalso; omega
          · skip
            exfalso; omega
          · skip
            refine r_callV gd hX hP rfl cv_X11_90_128 hS (d' := 0) (mc' := 0) (ms' := 0) (as' := [(0, 0)]) (st := []) (by first | decide | omega) (by first | decide | omega) (by first | decide | omega) rfl rfl (Nat.le_of_ble_eq_true rfl) (c_X11_refused E S G this 0 hS (by first | decide | omega) (by first | decide | omega)) ?_
            rintro _ _ _ ⟨rfl, ⟨G27, rfl⟩, z28, rfl, (⟨rfl, f29⟩ | ⟨rfl, f30⟩)⟩
            · skip
              exfalso; omega
            · skip
              refine r_if_eq hX hP rfl (tgt := 42) rfl (by first | decide | omega) (by first | decide | omega) (fun c31 => ?_) (fun c31 => ?_)
              · skip
                refine r_ex hX hP 1 (pc' := 43) (st' := [(2, this)]) (lo' := [(0, (2, this)), (1, (0, event)), (2, (0, shares))]) rfl ?_
                refine r_getKR hX hP rfl fl_X11_37_128 hS (x := evp1) evp1e ?_
                refine r_ex hX hP 1 (pc' := 47) (st' := [(0, event), (2, evp1)]) (lo' := [(0, (2, this)), (1, (0, event)), (2, (0, shares))]) rfl ?_
                have ci32 : CI E S (hw [(128, 0)] G G27) := (ci_hw ci rfl)
                refine r_callV gd hX hP rfl cv_X11_196_156 evp1s (d' := 2) (mc' := 0) (ms' := 0) (as' := [(0, event)]) (st := []) (by first | decide | omega) (by first | decide | omega) (by first | decide | omega) rfl rfl (Nat.le_of_ble_eq_true rfl) (c_get_Lev E S (hw [(128, 0)] G G27) evp1 event evp1s sip2 sip2e (by first | decide | omega) (by first | decide | omega) (by first | decide | omega) ci32) ?_
                rintro _ _ _ ⟨rfl, rfl, z33, rfl, z33s⟩
                refine r_cast hX hP rfl (tbg sg4 200 rfl rfl) ck_137_X2 z33s ?_
                refine r_ex hX hP 3 (pc' := 56) (st' := [(2, z33), (2, this)]) (lo' := [(0, (2, this)), (1, (0, event)), (2, (0, shares)), (3, (2, z33))]) rfl ?_
                refine r_getR hX hP rfl fl_X11_200_137 z33s (fun tf34 tf34e tf34s => ?_)
                refine r_getI hX hP rfl fl_X11_204_136 tf34s (fun cf35 cf35e cf35a cf35b => ?_)
                refine r_if_ne hX hP rfl (tgt := 69) rfl (by first | decide | omega) (by first | decide | omega) (fun c36 => ?_) (fun c36 => ?_)
                · skip
                  refine r_ex hX hP 1 (pc' := 70) (st' := [(0, 0), (2, this)]) (lo' := [(0, (2, this)), (1, (0, event)), (2, (0, shares)), (3, (2, z33))]) rfl ?_
                  refine r_callV gd hX hP rfl cv_X11_90_128 hS (d' := 0) (mc' := 0) (ms' := 0) (as' := [(0, 0)]) (st := []) (by first | decide | omega) (by first | decide | omega) (by first | decide | omega) rfl rfl (Nat.le_of_ble_eq_true rfl) (c_X11_refused E S (hw [(128, 0)] G G27) this 0 hS (by first | decide | omega) (by first | decide | omega)) ?_
                  rintro _ _ _ ⟨rfl, ⟨G37, rfl⟩, z38, rfl, (⟨rfl, f39⟩ | ⟨rfl, f40⟩)⟩
                  · skip
                    exfalso; omega
                  · skip
                    refine r_if_eq hX hP rfl (tgt := 78) rfl (by first | decide | omega) (by first | decide | omega) (fun c41 => ?_) (fun c41 => ?_)
                    · skip
                      refine r_ex hX hP 6 (pc' := 85) (st' := [(0, shares), (0, 0), (2, z33), (2, this)]) (lo' := [(0, (2, this)), (1, (0, event)), (2, (0, shares)), (3, (2, z33)), (4, (0, 0))]) rfl ?_
                      refine r_callV gd hX hP rfl cv_X11_409_128 hS (d' := 4) (mc' := 0) (ms' := 0) (as' := [(2, z33), (0, 0), (0, shares)]) (st := []) (by first | decide | omega) (by first | decide | omega) (by first | decide | omega) rfl rfl (Nat.le_of_ble_eq_true rfl) (c_X11_valueOf E S (hw [(128, 0)] (hw [(128, 0)] G G27) G37) this z33 0 shares hS z33s (by first | decide | omega) (by first | decide | omega) (by first | decide | omega) (by first | decide | omega)) ?_
                      rintro _ _ _ ⟨rfl, ⟨G42, rfl⟩, z43, rfl, z43a, z43b⟩
                      refine r_ex hX hP 3 (pc' := 93) (st' := []) (lo' := [(0, (2, this)), (1, (0, event)), (2, (0, shares)), (3, (2, z33)), (4, (0, 0)), (5, (1, z43)), (7, (0, 1))]) rfl ?_
                      have loop93 : ∀ (nF : Nat) (l4_h93 l5_h93 l7_h93 : Int) (Gh93 : Gh), (-2147483648) ≤ l4_h93 → l4_h93 ≤ 2147483647 → (-9223372036854775808) ≤ l5_h93 → l5_h93 ≤ 9223372036854775807 → 1 ≤ l7_h93 → l7_h93 ≤ 3 → 3 - l7_h93 < (nF : Int) → X 0 0 93 [] [(0, (2, this)), (1, (0, event)), (2, (0, shares)), (3, (2, z33)), (4, (0, l4_h93)), (5, (1, l5_h93)), (7, (0, l7_h93))] S (hw [(119, -1), (125, -1), (126, -1), (127, -1)] (hw [(119, -1), (125, -1), (126, -1), (127, -1)] (hw [(128, 0)] (hw [(128, 0)] G G27) G37) G42) Gh93) := by
                        intro nF
                        induction nF with
                        | zero => intro l4_h93 l5_h93 l7_h93 Gh93 yh93_0 yh93_1 yh93_2 yh93_3 yh93_4 yh93_5 ym93; exfalso; omega
                        | succ nF ih93 =>
                          intro l4_h93 l5_h93 l7_h93 Gh93 yh93_0 yh93_1 yh93_2 yh93_3 yh93_4 yh93_5 ym93
                          refine r_ex hX hP 2 (pc' := 96) (st' := [(2, z33), (0, l7_h93)]) (lo' := [(0, (2, this)), (1, (0, event)), (2, (0, shares)), (3, (2, z33)), (4, (0, l4_h93)), (5, (1, l5_h93)), (7, (0, l7_h93))]) rfl ?_
                          refine r_getKR hX hP rfl fl_X11_200_137 z33s (x := tf34) tf34e ?_
                          refine r_getKI hX hP rfl fl_X11_204_136 tf34s (x := cf35) cf35e ?_
                          refine r_ic_ge hX hP rfl (tgt := 137) rfl (by first | decide | omega) (by first | decide | omega) (by first | decide | omega) (by first | decide | omega) (fun c44 => ?_) (fun c44 => ?_)
                          · skip
                            refine r_ex hX hP 1 (pc' := 139) (st' := [(0, l4_h93)]) (lo' := [(0, (2, this)), (1, (0, event)), (2, (0, shares)), (3, (2, z33)), (4, (0, l4_h93)), (5, (1, l5_h93)), (7, (0, l7_h93))]) rfl ?_
                            exact r_retI hX hP rfl rfl (by first | decide | omega) (by first | decide | omega) ⟨rfl, ⟨_, (hw_sub (hw_sub (hw_sub (hw_sub (hw_refl _ _) rfl) rfl) rfl) rfl).symm⟩, l4_h93, rfl, (by first | decide | omega)⟩
                          · skip
                            refine r_ex hX hP 4 (pc' := 110) (st' := [(0, shares), (0, l7_h93), (2, z33), (2, this)]) (lo' := [(0, (2, this)), (1, (0, event)), (2, (0, shares)), (3, (2, z33)), (4, (0, l4_h93)), (5, (1, l5_h93)), (7, (0, l7_h93))]) rfl ?_
                            refine r_callV gd hX hP rfl cv_X11_409_128 hS (d' := 4) (mc' := 0) (ms' := 0) (as' := [(2, z33), (0, l7_h93), (0, shares)]) (st := []) (by first | decide | omega) (by first | decide | omega) (by first | decide | omega) rfl rfl (Nat.le_of_ble_eq_true rfl) (c_X11_valueOf E S (hw [(119, -1), (125, -1), (126, -1), (127, -1)] (hw [(119, -1), (125, -1), (126, -1), (127, -1)] (hw [(128, 0)] (hw [(128, 0)] G G27) G37) G42) Gh93) this z33 l7_h93 shares hS z33s (by first | decide | omega) (by first | decide | omega) (by first | decide | omega) (by first | decide | omega)) ?_
                            rintro _ _ _ ⟨rfl, ⟨G45, rfl⟩, z46, rfl, z46a, z46b⟩
                            refine r_ex hX hP 3 (pc' := 119) (st' := [(1, l5_h93), (1, z46)]) (lo' := [(0, (2, this)), (1, (0, event)), (2, (0, shares)), (3, (2, z33)), (4, (0, l4_h93)), (5, (1, l5_h93)), (7, (0, l7_h93)), (8, (1, z46))]) rfl ?_
                            refine r_lc_le hX hP rfl rfl (tgt := 131) rfl (by first | decide | omega) (by first | decide | omega) (by first | decide | omega) (by first | decide | omega) (fun c47 => ?_) (fun c47 => ?_)
                            · skip
                              refine r_ex hX hP 2 (pc' := 93) (st' := []) (lo' := [(0, (2, this)), (1, (0, event)), (2, (0, shares)), (3, (2, z33)), (4, (0, l4_h93)), (5, (1, l5_h93)), (7, (0, (l7_h93 + 1))), (8, (1, z46))]) rfl ?_
                              refine r_pick hX [0, 1, 2, 3, 4, 5, 6] (lo' := [(0, (2, this)), (1, (0, event)), (2, (0, shares)), (3, (2, z33)), (4, (0, l4_h93)), (5, (1, l5_h93)), (7, (0, (l7_h93 + 1)))]) rfl ?_
                              refine r_eqG (X := X) (hw_sub (hw_base _ _ _) rfl) ?_
                              exact ih93 l4_h93 l5_h93 (l7_h93 + 1) _ (by first | decide | omega) (by first | decide | omega) (by first | decide | omega) (by first | decide | omega) (by first | decide | omega) (by first | decide | omega) (by first | decide | omega)
                            · skip
                              refine r_ex hX hP 6 (pc' := 93) (st' := []) (lo' := [(0, (2, this)), (1, (0, event)), (2, (0, shares)), (3, (2, z33)), (4, (0, l7_h93)), (5, (1, z46)), (7, (0, (l7_h93 + 1))), (8, (1, z46))]) rfl ?_
                              refine r_pick hX [0, 1, 2, 3, 4, 5, 6] (lo' := [(0, (2, this)), (1, (0, event)), (2, (0, shares)), (3, (2, z33)), (4, (0, l7_h93)), (5, (1, z46)), (7, (0, (l7_h93 + 1)))]) rfl ?_
                              refine r_eqG (X := X) (hw_sub (hw_base _ _ _) rfl) ?_
                              exact ih93 l7_h93 z46 (l7_h93 + 1) _ (by first | decide | omega) (by first | decide | omega) (by first | decide | omega) (by first | decide | omega) (by first | decide | omega) (by first | decide | omega) (by first | decide | omega)
                      refine r_eqG (X := X) (hw_refl [(119, -1), (125, -1), (126, -1), (127, -1)] _) ?_
                      exact loop93 ((3 - 1) + 1 : Int).toNat 0 z43 1 _ (by first | decide | omega) (by first | decide | omega) (by first | decide | omega) (by first | decide | omega) (by first | decide | omega) (by first | decide | omega) (by first | decide | omega)
                    · skip
                      exfalso; omega
                · skip
                  refine r_ex hX hP 2 (pc' := 70) (st' := [(0, 5), (2, this)]) (lo' := [(0, (2, this)), (1, (0, event)), (2, (0, shares)), (3, (2, z33))]) rfl ?_
                  refine r_callV gd hX hP rfl cv_X11_90_128 hS (d' := 0) (mc' := 0) (ms' := 0) (as' := [(0, 5)]) (st := []) (by first | decide | omega) (by first | decide | omega) (by first | decide | omega) rfl rfl (Nat.le_of_ble_eq_true rfl) (c_X11_refused E S (hw [(128, 0)] G G27) this 5 hS (by first | decide | omega) (by first | decide | omega)) ?_
                  rintro _ _ _ ⟨rfl, ⟨G48, rfl⟩, z49, rfl, (⟨rfl, f50⟩ | ⟨rfl, f51⟩)⟩
                  · skip
                    refine r_if_eq hX hP rfl (tgt := 78) rfl (by first | decide | omega) (by first | decide | omega) (fun c52 => ?_) (fun c52 => ?_)
                    · skip
                      exfalso; omega
                    · skip
                      refine r_ex hX hP 1 (pc' := 77) (st' := [(0, (-1))]) (lo' := [(0, (2, this)), (1, (0, event)), (2, (0, shares)), (3, (2, z33))]) rfl ?_
                      exact r_retI hX hP rfl rfl (by first | decide | omega) (by first | decide | omega) ⟨rfl, ⟨_, (hw_sub (hw_sub (hw_refl _ _) rfl) rfl).symm⟩, (-1), rfl, (by first | decide | omega)⟩
                  · skip
                    exfalso; omega
              · skip
                exfalso; omega
        · skip
          exfalso; omega
      · skip
        refine r_if_ne hX hP rfl (tgt := 28) rfl (by first | decide | omega) (by first | decide | omega) (fun c53 => ?_) (fun c53 => ?_)
        · skip
          exfalso; omega
        · skip
          refine r_ex hX hP 4 (pc' := 31) (st' := [(0, 0), (0, 0), (0, 1), (0, 0), (2, this)]) (lo' := [(0, (2, this)), (1, (0, event)), (2, (0, shares))]) rfl ?_
          refine r_callS gd hX hP rfl cs_X11_112 (d' := 0) (mc' := 0) (ms' := 0) (as' := [(0, 0), (0, 1), (0, 0), (0, 0)]) (st := [(2, this)]) (by first | decide | omega) (by first | decide | omega) (by first | decide | omega) rfl rfl (Nat.le_of_ble_eq_true rfl) (c_X11_first E S G 0 1 0 0 (by first | decide | omega) (by first | decide | omega) (by first | decide | omega) (by first | decide | omega) (by first | decide | omega) (by first | decide | omega) (by first | decide | omega) (by first | decide | omega)) ?_
          rintro _ _ _ ⟨rfl, rfl, z54, rfl, (⟨rfl, f55⟩ | ⟨rfl, f56, f57⟩ | ⟨rfl, f58, f59, f60⟩ | ⟨rfl, f61, f62, f63, f64⟩ | ⟨rfl, f65, f66, f67, f68⟩)⟩
          · skip
            exfalso; omega
          · skip
            refine r_callV gd hX hP rfl cv_X11_90_128 hS (d' := 0) (mc' := 0) (ms' := 0) (as' := [(0, 2)]) (st := []) (by first | decide | omega) (by first | decide | omega) (by first | decide | omega) rfl rfl (Nat.le_of_ble_eq_true rfl) (c_X11_refused E S G this 2 hS (by first | decide | omega) (by first | decide | omega)) ?_
            rintro _ _ _ ⟨rfl, ⟨G69, rfl⟩, z70, rfl, (⟨rfl, f71⟩ | ⟨rfl, f72⟩)⟩
            · skip
              refine r_if_eq hX hP rfl (tgt := 42) rfl (by first | decide | omega) (by first | decide | omega) (fun c73 => ?_) (fun c73 => ?_)
              · skip
                exfalso; omega
              · skip
                refine r_ex hX hP 1 (pc' := 41) (st' := [(0, (-1))]) (lo' := [(0, (2, this)), (1, (0, event)), (2, (0, shares))]) rfl ?_
                exact r_retI hX hP rfl rfl (by first | decide | omega) (by first | decide | omega) ⟨rfl, ⟨_, (hw_sub (hw_refl _ _) rfl).symm⟩, (-1), rfl, (by first | decide | omega)⟩
            · skip
              exfalso; omega
          · skip
            exfalso; omega
          · skip
            exfalso; omega
          · skip
            exfalso; omega
    · skip
      exfalso; omega
  · skip
    refine r_if_ne hX hP rfl (tgt := 13) rfl (by first | decide | omega) (by first | decide | omega) (fun c74 => ?_) (fun c74 => ?_)
    · skip
      exfalso; omega
    · skip
      refine r_ex hX hP 4 (pc' := 16) (st' := [(0, 1), (0, shares), (0, 1), (2, this)]) (lo' := [(0, (2, this)), (1, (0, event)), (2, (0, shares))]) rfl ?_
      refine r_ldc hX hP rfl (v := 1000000) (tbg sg3 10 rfl rfl) ?_
      refine r_callS gd hX hP rfl cs_X11_103 (d' := 0) (mc' := 0) (ms' := 0) (as' := [(0, shares), (0, 1), (0, 1000000)]) (st := [(0, 1), (2, this)]) (by first | decide | omega) (by first | decide | omega) (by first | decide | omega) rfl rfl (Nat.le_of_ble_eq_true rfl) (c_X11_within E S G shares 1 1000000 (by first | decide | omega) (by first | decide | omega) (by first | decide | omega) (by first | decide | omega) (by first | decide | omega) (by first | decide | omega)) ?_
      rintro _ _ _ ⟨rfl, rfl, z75, rfl, (⟨rfl, f76, f77⟩ | ⟨rfl, f78⟩)⟩
      · skip
        refine r_if_ne hX hP rfl (tgt := 28) rfl (by first | decide | omega) (by first | decide | omega) (fun c79 => ?_) (fun c79 => ?_)
        · skip
          refine r_ex hX hP 3 (pc' := 31) (st' := [(0, 0), (0, 0), (0, 0), (0, 1), (2, this)]) (lo' := [(0, (2, this)), (1, (0, event)), (2, (0, shares))]) rfl ?_
          refine r_callS gd hX hP rfl cs_X11_112 (d' := 0) (mc' := 0) (ms' := 0) (as' := [(0, 1), (0, 0), (0, 0), (0, 0)]) (st := [(2, this)]) (by first | decide | omega) (by first | decide | omega) (by first | decide | omega) rfl rfl (Nat.le_of_ble_eq_true rfl) (c_X11_first E S G 1 0 0 0 (by first | decide | omega) (by first | decide | omega) (by first | decide | omega) (by first | decide | omega) (by first | decide | omega) (by first | decide | omega) (by first | decide | omega) (by first | decide | omega)) ?_
          rintro _ _ _ ⟨rfl, rfl, z80, rfl, (⟨rfl, f81⟩ | ⟨rfl, f82, f83⟩ | ⟨rfl, f84, f85, f86⟩ | ⟨rfl, f87, f88, f89, f90⟩ | ⟨rfl, f91, f92, f93, f94⟩)⟩
          · skip
            refine r_callV gd hX hP rfl cv_X11_90_128 hS (d' := 0) (mc' := 0) (ms' := 0) (as' := [(0, 1)]) (st := []) (by first | decide | omega) (by first | decide | omega) (by first | decide | omega) rfl rfl (Nat.le_of_ble_eq_true rfl) (c_X11_refused E S G this 1 hS (by first | decide | omega) (by first | decide | omega)) ?_
            rintro _ _ _ ⟨rfl, ⟨G95, rfl⟩, z96, rfl, (⟨rfl, f97⟩ | ⟨rfl, f98⟩)⟩
            · skip
              refine r_if_eq hX hP rfl (tgt := 42) rfl (by first | decide | omega) (by first | decide | omega) (fun c99 => ?_) (fun c99 => ?_)
              · skip
                exfalso; omega
              · skip
                refine r_ex hX hP 1 (pc' := 41) (st' := [(0, (-1))]) (lo' := [(0, (2, this)), (1, (0, event)), (2, (0, shares))]) rfl ?_
                exact r_retI hX hP rfl rfl (by first | decide | omega) (by first | decide | omega) ⟨rfl, ⟨_, (hw_sub (hw_refl _ _) rfl).symm⟩, (-1), rfl, (by first | decide | omega)⟩
            · skip
              exfalso; omega
          · skip
            exfalso; omega
          · skip
            exfalso; omega
          · skip
            exfalso; omega
          · skip
            exfalso; omega
        · skip
          exfalso; omega
      · skip
        refine r_if_ne hX hP rfl (tgt := 28) rfl (by first | decide | omega) (by first | decide | omega) (fun c100 => ?_) (fun c100 => ?_)
        · skip
          exfalso; omega
        · skip
          refine r_ex hX hP 4 (pc' := 31) (st' := [(0, 0), (0, 0), (0, 1), (0, 1), (2, this)]) (lo' := [(0, (2, this)), (1, (0, event)), (2, (0, shares))]) rfl ?_
          refine r_callS gd hX hP rfl cs_X11_112 (d' := 0) (mc' := 0) (ms' := 0) (as' := [(0, 1), (0, 1), (0, 0), (0, 0)]) (st := [(2, this)]) (by first | decide | omega) (by first | decide | omega) (by first | decide | omega) rfl rfl (Nat.le_of_ble_eq_true rfl) (c_X11_first E S G 1 1 0 0 (by first | decide | omega) (by first | decide | omega) (by first | decide | omega) (by first | decide | omega) (by first | decide | omega) (by first | decide | omega) (by first | decide | omega) (by first | decide | omega)) ?_
          rintro _ _ _ ⟨rfl, rfl, z101, rfl, (⟨rfl, f102⟩ | ⟨rfl, f103, f104⟩ | ⟨rfl, f105, f106, f107⟩ | ⟨rfl, f108, f109, f110, f111⟩ | ⟨rfl, f112, f113, f114, f115⟩)⟩
          · skip
            refine r_callV gd hX hP rfl cv_X11_90_128 hS (d' := 0) (mc' := 0) (ms' := 0) (as' := [(0, 1)]) (st := []) (by first | decide | omega) (by first | decide | omega) (by first | decide | omega) rfl rfl (Nat.le_of_ble_eq_true rfl) (c_X11_refused E S G this 1 hS (by first | decide | omega) (by first | decide | omega)) ?_
            rintro _ _ _ ⟨rfl, ⟨G116, rfl⟩, z117, rfl, (⟨rfl, f118⟩ | ⟨rfl, f119⟩)⟩
            · skip
              refine r_if_eq hX hP rfl (tgt := 42) rfl (by first | decide | omega) (by first | decide | omega) (fun c120 => ?_) (fun c120 => ?_)
              · skip
                exfalso; omega
              · skip
                refine r_ex hX hP 1 (pc' := 41) (st' := [(0, (-1))]) (lo' := [(0, (2, this)), (1, (0, event)), (2, (0, shares))]) rfl ?_
                exact r_retI hX hP rfl rfl (by first | decide | omega) (by first | decide | omega) ⟨rfl, ⟨_, (hw_sub (hw_refl _ _) rfl).symm⟩, (-1), rfl, (by first | decide | omega)⟩
            · skip
              exfalso; omega
          · skip
            exfalso; omega
          · skip
            exfalso; omega
          · skip
            exfalso; omega
          · skip
            exfalso; omega
set_option maxRecDepth 100000 in
set_option maxHeartbeats 4000000 in
theorem c_X11_hint (E : En) (S : Sg) (G : Gh) (this : Int) (frm : Int) (to_ : Int) (day : Int) (m : Int) (n : Int) (sure : Int) (hS : S this = 128) (frm_a : (-2147483648) ≤ frm) (frm_b : frm ≤ 2147483647) (to__a : (-2147483648) ≤ to_) (to__b : to_ ≤ 2147483647) (day_a : (-2147483648) ≤ day) (day_b : day ≤ 2147483647) (m_a : (-2147483648) ≤ m) (m_b : m ≤ 2147483647) (n_a : (-2147483648) ≤ n) (n_b : n ≤ 2147483647) (sure_a : 0 ≤ sure) (sure_b : sure ≤ 1) : Calls E mX11_hint [(2, this), (0, frm), (0, to_), (0, day), (0, m), (0, n), (0, sure)] S G 2 0 0 (fun r S' G' => S = S' ∧ (∃ G1, hw [(108, -1), (109, -1), (110, -1), (128, 0), (132, 0)] G G1 = G') ∧ ∃ z : Int, r = some (0, z) ∧ (-2147483648) ≤ z ∧ z ≤ 2147483647) := by
  refine calls_by [(0, (2, this)), (1, (0, frm)), (2, (0, to_)), (3, (0, day)), (4, (0, m)), (5, (0, n)), (6, (0, sure))] rfl rfl (Nat.le_of_ble_eq_true rfl) (fun X hX => ?_)
  have hP := hPX11_hint
  refine r_ex hX hP 1 (pc' := 1) (st' := [(0, day)]) (lo' := [(0, (2, this)), (1, (0, frm)), (2, (0, to_)), (3, (0, day)), (4, (0, m)), (5, (0, n)), (6, (0, sure))]) rfl ?_
  refine r_callS gd hX hP rfl cs_X11_86 (d' := 1) (mc' := 0) (ms' := 0) (as' := [(0, day)]) (st := []) (by first | decide | omega) (by first | decide | omega) (by first | decide | omega) rfl rfl (Nat.le_of_ble_eq_true rfl) (c_X11_isDay E S G day (by first | decide | omega) (by first | decide | omega)) ?_
  rintro _ _ _ ⟨rfl, rfl, z1, rfl, (⟨rfl, f2, f3⟩ | ⟨rfl, f4⟩)⟩
  · skip
    refine r_if_eq hX hP rfl (tgt := 31) rfl (by first | decide | omega) (by first | decide | omega) (fun c5 => ?_) (fun c5 => ?_)
    · skip
      exfalso; omega
    · skip
      refine r_ex hX hP 3 (pc' := 13) (st' := [(0, 1000), (0, 1), (0, m)]) (lo' := [(0, (2, this)), (1, (0, frm)), (2, (0, to_)), (3, (0, day)), (4, (0, m)), (5, (0, n)), (6, (0, sure))]) rfl ?_
      refine r_callS gd hX hP rfl cs_X11_103 (d' := 0) (mc' := 0) (ms' := 0) (as' := [(0, m), (0, 1), (0, 1000)]) (st := []) (by first | decide | omega) (by first | decide | omega) (by first | decide | omega) rfl rfl (Nat.le_of_ble_eq_true rfl) (c_X11_within E S G m 1 1000 (by first | decide | omega) (by first | decide | omega) (by first | decide | omega) (by first | decide | omega) (by first | decide | omega) (by first | decide | omega)) ?_
      rintro _ _ _ ⟨rfl, rfl, z6, rfl, (⟨rfl, f7, f8⟩ | ⟨rfl, f9⟩)⟩
      · skip
        refine r_if_eq hX hP rfl (tgt := 31) rfl (by first | decide | omega) (by first | decide | omega) (fun c10 => ?_) (fun c10 => ?_)
        · skip
          exfalso; omega
        · skip
          refine r_ex hX hP 3 (pc' := 25) (st' := [(0, 1000), (0, 1), (0, n)]) (lo' := [(0, (2, this)), (1, (0, frm)), (2, (0, to_)), (3, (0, day)), (4, (0, m)), (5, (0, n)), (6, (0, sure))]) rfl ?_
          refine r_callS gd hX hP rfl cs_X11_103 (d' := 0) (mc' := 0) (ms' := 0) (as' := [(0, n), (0, 1), (0, 1000)]) (st := []) (by first | decide | omega) (by first | decide | omega) (by first | decide | omega) rfl rfl (Nat.le_of_ble_eq_true rfl) (c_X11_within E S G n 1 1000 (by first | decide | omega) (by first | decide | omega) (by first | decide | omega) (by first | decide | omega) (by first | decide | omega) (by first | decide | omega)) ?_
          rintro _ _ _ ⟨rfl, rfl, z11, rfl, (⟨rfl, f12, f13⟩ | ⟨rfl, f14⟩)⟩
          · skip
            refine r_if_ne hX hP rfl (tgt := 35) rfl (by first | decide | omega) (by first | decide | omega) (fun c15 => ?_) (fun c15 => ?_)
            · skip
              refine r_ex hX hP 4 (pc' := 40) (st' := [(0, frm), (2, this)]) (lo' := [(0, (2, this)), (1, (0, frm)), (2, (0, to_)), (3, (0, day)), (4, (0, m)), (5, (0, n)), (6, (0, sure)), (7, (0, 0))]) rfl ?_
              refine r_callS gd hX hP rfl cs_X11_120 (d' := 1) (mc' := 0) (ms' := 0) (as' := [(0, frm)]) (st := [(2, this)]) (by first | decide | omega) (by first | decide | omega) (by first | decide | omega) rfl rfl (Nat.le_of_ble_eq_true rfl) (c_X11_isPaper E S G frm (by first | decide | omega) (by first | decide | omega)) ?_
              rintro _ _ _ ⟨rfl, rfl, z16, rfl, (⟨rfl, f17, f18⟩ | rfl)⟩
              · skip
                refine r_if_eq hX hP rfl (tgt := 53) rfl (by first | decide | omega) (by first | decide | omega) (fun c19 => ?_) (fun c19 => ?_)
                · skip
                  exfalso; omega
                · skip
                  refine r_ex hX hP 1 (pc' := 47) (st' := [(0, to_), (2, this)]) (lo' := [(0, (2, this)), (1, (0, frm)), (2, (0, to_)), (3, (0, day)), (4, (0, m)), (5, (0, n)), (6, (0, sure)), (7, (0, 0))]) rfl ?_
                  refine r_callS gd hX hP rfl cs_X11_120 (d' := 1) (mc' := 0) (ms' := 0) (as' := [(0, to_)]) (st := [(2, this)]) (by first | decide | omega) (by first | decide | omega) (by first | decide | omega) rfl rfl (Nat.le_of_ble_eq_true rfl) (c_X11_isPaper E S G to_ (by first | decide | omega) (by first | decide | omega)) ?_
                  rintro _ _ _ ⟨rfl, rfl, z20, rfl, (⟨rfl, f21, f22⟩ | rfl)⟩
                  · skip
                    refine r_if_ne hX hP rfl (tgt := 57) rfl (by first | decide | omega) (by first | decide | omega) (fun c23 => ?_) (fun c23 => ?_)
                    · skip
                      refine r_ex hX hP 3 (pc' := 61) (st' := [(2, this), (0, 0), (0, 0), (2, this)]) (lo' := [(0, (2, this)), (1, (0, frm)), (2, (0, to_)), (3, (0, day)), (4, (0, m)), (5, (0, n)), (6, (0, sure)), (7, (0, 0))]) rfl ?_
                      refine r_getR hX hP rfl fl_X11_78_128 hS (fun rf24 rf24e rf24s => ?_)
                      refine r_getI hX hP rfl fl_X11_420_132 rf24s (fun cf25 cf25e cf25a cf25b => ?_)
                      refine r_ex hX hP 1 (pc' := 69) (st' := [(0, 12), (0, cf25), (0, 0), (0, 0), (2, this)]) (lo' := [(0, (2, this)), (1, (0, frm)), (2, (0, to_)), (3, (0, day)), (4, (0, m)), (5, (0, n)), (6, (0, sure)), (7, (0, 0))]) rfl ?_
                      refine r_ic_lt hX hP rfl (tgt := 76) rfl (by first | decide | omega) (by first | decide | omega) (by first | decide | omega) (by first | decide | omega) (fun c26 => ?_) (fun c26 => ?_)
                      · skip
                        refine r_ex hX hP 2 (pc' := 78) (st' := [(0, 0), (0, 0), (0, 0), (0, 0), (2, this)]) (lo' := [(0, (2, this)), (1, (0, frm)), (2, (0, to_)), (3, (0, day)), (4, (0, m)), (5, (0, n)), (6, (0, sure)), (7, (0, 0))]) rfl ?_
                        refine r_callS gd hX hP rfl cs_X11_112 (d' := 0) (mc' := 0) (ms' := 0) (as' := [(0, 0), (0, 0), (0, 0), (0, 0)]) (st := [(2, this)]) (by first | decide | omega) (by first | decide | omega) (by first | decide | omega) rfl rfl (Nat.le_of_ble_eq_true rfl) (c_X11_first E S G 0 0 0 0 (by first | decide | omega) (by first | decide | omega) (by first | decide | omega) (by first | decide | omega) (by first | decide | omega) (by first | decide | omega) (by first | decide | omega) (by first | decide | omega)) ?_
                        rintro _ _ _ ⟨rfl, rfl, z27, rfl, (⟨rfl, f28⟩ | ⟨rfl, f29, f30⟩ | ⟨rfl, f31, f32, f33⟩ | ⟨rfl, f34, f35, f36, f37⟩ | ⟨rfl, f38, f39, f40, f41⟩)⟩
                        · skip
                          exfalso; omega
                        · skip
                          exfalso; omega
                        · skip
                          exfalso; omega
                        · skip
                          exfalso; omega
                        · skip
                          refine r_callV gd hX hP rfl cv_X11_90_128 hS (d' := 0) (mc' := 0) (ms' := 0) (as' := [(0, 0)]) (st := []) (by first | decide | omega) (by first | decide | omega) (by first | decide | omega) rfl rfl (Nat.le_of_ble_eq_true rfl) (c_X11_refused E S G this 0 hS (by first | decide | omega) (by first | decide | omega)) ?_
                          rintro _ _ _ ⟨rfl, ⟨G42, rfl⟩, z43, rfl, (⟨rfl, f44⟩ | ⟨rfl, f45⟩)⟩
                          · skip
                            exfalso; omega
                          · skip
                            refine r_if_eq hX hP rfl (tgt := 89) rfl (by first | decide | omega) (by first | decide | omega) (fun c46 => ?_) (fun c46 => ?_)
                            · skip
                              refine r_ex hX hP 1 (pc' := 90) (st' := [(2, this)]) (lo' := [(0, (2, this)), (1, (0, frm)), (2, (0, to_)), (3, (0, day)), (4, (0, m)), (5, (0, n)), (6, (0, sure)), (7, (0, 0))]) rfl ?_
                              refine r_getKR hX hP rfl fl_X11_78_128 hS (x := rf24) rf24e ?_
                              refine r_ex hX hP 6 (pc' := 102) (st' := [(0, sure), (0, n), (0, m), (0, day), (0, to_), (0, frm), (2, rf24)]) (lo' := [(0, (2, this)), (1, (0, frm)), (2, (0, to_)), (3, (0, day)), (4, (0, m)), (5, (0, n)), (6, (0, sure)), (7, (0, 0))]) rfl ?_
                              refine r_callV gd hX hP rfl cv_X11_421_132 rf24s (d' := 0) (mc' := 0) (ms' := 0) (as' := [(0, frm), (0, to_), (0, day), (0, m), (0, n), (0, sure)]) (st := []) (by first | decide | omega) (by first | decide | omega) (by first | decide | omega) rfl rfl (Nat.le_of_ble_eq_true rfl) (c_X7_add E S (hw [(128, 0)] G G42) rf24 frm to_ day m n sure rf24s cf25 cf25e (by first | decide | omega) (by first | decide | omega) (by first | decide | omega) (by first | decide | omega) (by first | decide | omega) (by first | decide | omega) (by first | decide | omega) (by first | decide | omega) (by first | decide | omega) (by first | decide | omega) (by first | decide | omega) (by first | decide | omega) (by first | decide | omega)) ?_
                              rintro _ _ _ ⟨rfl, ⟨G47, rfl⟩, z48, rfl, z48a, z48b⟩
                              exact r_retI hX hP rfl rfl (by first | decide | omega) (by first | decide | omega) ⟨rfl, ⟨_, (hw_sub (hw_sub (hw_refl _ _) rfl) rfl).symm⟩, z48, rfl, (by first | decide | omega)⟩
                            · skip
                              exfalso; omega
                      · skip
                        refine r_ex hX hP 3 (pc' := 78) (st' := [(0, 0), (0, 1), (0, 0), (0, 0), (2, this)]) (lo' := [(0, (2, this)), (1, (0, frm)), (2, (0, to_)), (3, (0, day)), (4, (0, m)), (5, (0, n)), (6, (0, sure)), (7, (0, 0))]) rfl ?_
                        refine r_callS gd hX hP rfl cs_X11_112 (d' := 0) (mc' := 0) (ms' := 0) (as' := [(0, 0), (0, 0), (0, 1), (0, 0)]) (st := [(2, this)]) (by first | decide | omega) (by first | decide | omega) (by first | decide | omega) rfl rfl (Nat.le_of_ble_eq_true rfl) (c_X11_first E S G 0 0 1 0 (by first | decide | omega) (by first | decide | omega) (by first | decide | omega) (by first | decide | omega) (by first | decide | omega) (by first | decide | omega) (by first | decide | omega) (by first | decide | omega)) ?_
                        rintro _ _ _ ⟨rfl, rfl, z49, rfl, (⟨rfl, f50⟩ | ⟨rfl, f51, f52⟩ | ⟨rfl, f53, f54, f55⟩ | ⟨rfl, f56, f57, f58, f59⟩ | ⟨rfl, f60, f61, f62, f63⟩)⟩
                        · skip
                          exfalso; omega
                        · skip
                          exfalso; omega
                        · skip
                          refine r_callV gd hX hP rfl cv_X11_90_128 hS (d' := 0) (mc' := 0) (ms' := 0) (as' := [(0, 3)]) (st := []) (by first | decide | omega) (by first | decide | omega) (by first | decide | omega) rfl rfl (Nat.le_of_ble_eq_true rfl) (c_X11_refused E S G this 3 hS (by first | decide | omega) (by first | decide | omega)) ?_
                          rintro _ _ _ ⟨rfl, ⟨G64, rfl⟩, z65, rfl, (⟨rfl, f66⟩ | ⟨rfl, f67⟩)⟩
                          · skip
                            refine r_if_eq hX hP rfl (tgt := 89) rfl (by first | decide | omega) (by first | decide | omega) (fun c68 => ?_) (fun c68 => ?_)
                            · skip
                              exfalso; omega
                            · skip
                              refine r_ex hX hP 1 (pc' := 88) (st' := [(0, (-1))]) (lo' := [(0, (2, this)), (1, (0, frm)), (2, (0, to_)), (3, (0, day)), (4, (0, m)), (5, (0, n)), (6, (0, sure)), (7, (0, 0))]) rfl ?_
                              exact r_retI hX hP rfl rfl (by first | decide | omega) (by first | decide | omega) ⟨rfl, ⟨_, (hw_sub (hw_refl _ _) rfl).symm⟩, (-1), rfl, (by first | decide | omega)⟩
                          · skip
                            exfalso; omega
                        · skip
                          exfalso; omega
                        · skip
                          exfalso; omega
                    · skip
                      exfalso; omega
                  · skip
                    refine r_if_ne hX hP rfl (tgt := 57) rfl (by first | decide | omega) (by first | decide | omega) (fun c69 => ?_) (fun c69 => ?_)
                    · skip
                      exfalso; omega
                    · skip
                      refine r_ex hX hP 4 (pc' := 61) (st' := [(2, this), (0, 0), (0, 1), (2, this)]) (lo' := [(0, (2, this)), (1, (0, frm)), (2, (0, to_)), (3, (0, day)), (4, (0, m)), (5, (0, n)), (6, (0, sure)), (7, (0, 0))]) rfl ?_
                      refine r_getR hX hP rfl fl_X11_78_128 hS (fun rf70 rf70e rf70s => ?_)
                      refine r_getI hX hP rfl fl_X11_420_132 rf70s (fun cf71 cf71e cf71a cf71b => ?_)
                      refine r_ex hX hP 1 (pc' := 69) (st' := [(0, 12), (0, cf71), (0, 0), (0, 1), (2, this)]) (lo' := [(0, (2, this)), (1, (0, frm)), (2, (0, to_)), (3, (0, day)), (4, (0, m)), (5, (0, n)), (6, (0, sure)), (7, (0, 0))]) rfl ?_
                      refine r_ic_lt hX hP rfl (tgt := 76) rfl (by first | decide | omega) (by first | decide | omega) (by first | decide | omega) (by first | decide | omega) (fun c72 => ?_) (fun c72 => ?_)
                      · skip
                        refine r_ex hX hP 2 (pc' := 78) (st' := [(0, 0), (0, 0), (0, 0), (0, 1), (2, this)]) (lo' := [(0, (2, this)), (1, (0, frm)), (2, (0, to_)), (3, (0, day)), (4, (0, m)), (5, (0, n)), (6, (0, sure)), (7, (0, 0))]) rfl ?_
                        refine r_callS gd hX hP rfl cs_X11_112 (d' := 0) (mc' := 0) (ms' := 0) (as' := [(0, 1), (0, 0), (0, 0), (0, 0)]) (st := [(2, this)]) (by first | decide | omega) (by first | decide | omega) (by first | decide | omega) rfl rfl (Nat.le_of_ble_eq_true rfl) (c_X11_first E S G 1 0 0 0 (by first | decide | omega) (by first | decide | omega) (by first | decide | omega) (by first | decide | omega) (by first | decide | omega) (by first | decide | omega) (by first | decide | omega) (by first | decide | omega)) ?_
                        rintro _ _ _ ⟨rfl, rfl, z73, rfl, (⟨rfl, f74⟩ | ⟨rfl, f75, f76⟩ | ⟨rfl, f77, f78, f79⟩ | ⟨rfl, f80, f81, f82, f83⟩ | ⟨rfl, f84, f85, f86, f87⟩)⟩
                        · skip
                          refine r_callV gd hX hP rfl cv_X11_90_128 hS (d' := 0) (mc' := 0) (ms' := 0) (as' := [(0, 1)]) (st := []) (by first | decide | omega) (by first | decide | omega) (by first | decide | omega) rfl rfl (Nat.le_of_ble_eq_true rfl) (c_X11_refused E S G this 1 hS (by first | decide | omega) (by first | decide | omega)) ?_
                          rintro _ _ _ ⟨rfl, ⟨G88, rfl⟩, z89, rfl, (⟨rfl, f90⟩ | ⟨rfl, f91⟩)⟩
                          · skip
                            refine r_if_eq hX hP rfl (tgt := 89) rfl (by first | decide | omega) (by first | decide | omega) (fun c92 => ?_) (fun c92 => ?_)
                            · skip
                              exfalso; omega
                            · skip
                              refine r_ex hX hP 1 (pc' := 88) (st' := [(0, (-1))]) (lo' := [(0, (2, this)), (1, (0, frm)), (2, (0, to_)), (3, (0, day)), (4, (0, m)), (5, (0, n)), (6, (0, sure)), (7, (0, 0))]) rfl ?_
                              exact r_retI hX hP rfl rfl (by first | decide | omega) (by first | decide | omega) ⟨rfl, ⟨_, (hw_sub (hw_refl _ _) rfl).symm⟩, (-1), rfl, (by first | decide | omega)⟩
                          · skip
                            exfalso; omega
                        · skip
                          exfalso; omega
                        · skip
                          exfalso; omega
                        · skip
                          exfalso; omega
                        · skip
                          exfalso; omega
                      · skip
                        refine r_ex hX hP 3 (pc' := 78) (st' := [(0, 0), (0, 1), (0, 0), (0, 1), (2, this)]) (lo' := [(0, (2, this)), (1, (0, frm)), (2, (0, to_)), (3, (0, day)), (4, (0, m)), (5, (0, n)), (6, (0, sure)), (7, (0, 0))]) rfl ?_
                        refine r_callS gd hX hP rfl cs_X11_112 (d' := 0) (mc' := 0) (ms' := 0) (as' := [(0, 1), (0, 0), (0, 1), (0, 0)]) (st := [(2, this)]) (by first | decide | omega) (by first | decide | omega) (by first | decide | omega) rfl rfl (Nat.le_of_ble_eq_true rfl) (c_X11_first E S G 1 0 1 0 (by first | decide | omega) (by first | decide | omega) (by first | decide | omega) (by first | decide | omega) (by first | decide | omega) (by first | decide | omega) (by first | decide | omega) (by first | decide | omega)) ?_
                        rintro _ _ _ ⟨rfl, rfl, z93, rfl, (⟨rfl, f94⟩ | ⟨rfl, f95, f96⟩ | ⟨rfl, f97, f98, f99⟩ | ⟨rfl, f100, f101, f102, f103⟩ | ⟨rfl, f104, f105, f106, f107⟩)⟩
                        · skip
                          refine r_callV gd hX hP rfl cv_X11_90_128 hS (d' := 0) (mc' := 0) (ms' := 0) (as' := [(0, 1)]) (st := []) (by first | decide | omega) (by first | decide | omega) (by first | decide | omega) rfl rfl (Nat.le_of_ble_eq_true rfl) (c_X11_refused E S G this 1 hS (by first | decide | omega) (by first | decide | omega)) ?_
                          rintro _ _ _ ⟨rfl, ⟨G108, rfl⟩, z109, rfl, (⟨rfl, f110⟩ | ⟨rfl, f111⟩)⟩
                          · skip
                            refine r_if_eq hX hP rfl (tgt := 89) rfl (by first | decide | omega) (by first | decide | omega) (fun c112 => ?_) (fun c112 => ?_)
                            · skip
                              exfalso; omega
                            · skip
                              refine r_ex hX hP 1 (pc' := 88) (st' := [(0, (-1))]) (lo' := [(0, (2, this)), (1, (0, frm)), (2, (0, to_)), (3, (0, day)), (4, (0, m)), (5, (0, n)), (6, (0, sure)), (7, (0, 0))]) rfl ?_
                              exact r_retI hX hP rfl rfl (by first | decide | omega) (by first | decide | omega) ⟨rfl, ⟨_, (hw_sub (hw_refl _ _) rfl).symm⟩, (-1), rfl, (by first | decide | omega)⟩
                          · skip
                            exfalso; omega
                        · skip
                          exfalso; omega
                        · skip
                          exfalso; omega
                        · skip
                          exfalso; omega
                        · skip
                          exfalso; omega
              · skip
                refine r_if_eq hX hP rfl (tgt := 53) rfl (by first | decide | omega) (by first | decide | omega) (fun c113 => ?_) (fun c113 => ?_)
                · skip
                  refine r_ex hX hP 4 (pc' := 61) (st' := [(2, this), (0, 0), (0, 1), (2, this)]) (lo' := [(0, (2, this)), (1, (0, frm)), (2, (0, to_)), (3, (0, day)), (4, (0, m)), (5, (0, n)), (6, (0, sure)), (7, (0, 0))]) rfl ?_
                  refine r_getR hX hP rfl fl_X11_78_128 hS (fun rf114 rf114e rf114s => ?_)
                  refine r_getI hX hP rfl fl_X11_420_132 rf114s (fun cf115 cf115e cf115a cf115b => ?_)
                  refine r_ex hX hP 1 (pc' := 69) (st' := [(0, 12), (0, cf115), (0, 0), (0, 1), (2, this)]) (lo' := [(0, (2, this)), (1, (0, frm)), (2, (0, to_)), (3, (0, day)), (4, (0, m)), (5, (0, n)), (6, (0, sure)), (7, (0, 0))]) rfl ?_
                  refine r_ic_lt hX hP rfl (tgt := 76) rfl (by first | decide | omega) (by first | decide | omega) (by first | decide | omega) (by first | decide | omega) (fun c116 => ?_) (fun c116 => ?_)
                  · skip
                    refine r_ex hX hP 2 (pc' := 78) (st' := [(0, 0), (0, 0), (0, 0), (0, 1), (2, this)]) (lo' := [(0, (2, this)), (1, (0, frm)), (2, (0, to_)), (3, (0, day)), (4, (0, m)), (5, (0, n)), (6, (0, sure)), (7, (0, 0))]) rfl ?_
                    refine r_callS gd hX hP rfl cs_X11_112 (d' := 0) (mc' := 0) (ms' := 0) (as' := [(0, 1), (0, 0), (0, 0), (0, 0)]) (st := [(2, this)]) (by first | decide | omega) (by first | decide | omega) (by first | decide | omega) rfl rfl (Nat.le_of_ble_eq_true rfl) (c_X11_first E S G 1 0 0 0 (by first | decide | omega) (by first | decide | omega) (by first | decide | omega) (by first | decide | omega) (by first | decide | omega) (by first | decide | omega) (by first | decide | omega) (by first | decide | omega)) ?_
                    rintro _ _ _ ⟨rfl, rfl, z117, rfl, (⟨rfl, f118⟩ | ⟨rfl, f119, f120⟩ | ⟨rfl, f121, f122, f123⟩ | ⟨rfl, f124, f125, f126, f127⟩ | ⟨rfl, f128, f129, f130, f131⟩)⟩
                    · skip
                      refine r_callV gd hX hP rfl cv_X11_90_128 hS (d' := 0) (mc' := 0) (ms' := 0) (as' := [(0, 1)]) (st := []) (by first | decide | omega) (by first | decide | omega) (by first | decide | omega) rfl rfl (Nat.le_of_ble_eq_true rfl) (c_X11_refused E S G this 1 hS (by first | decide | omega) (by first | decide | omega)) ?_
                      rintro _ _ _ ⟨rfl, ⟨G132, rfl⟩, z133, rfl, (⟨rfl, f134⟩ | ⟨rfl, f135⟩)⟩
                      · skip
                        refine r_if_eq hX hP rfl (tgt := 89) rfl (by first | decide | omega) (by first | decide | omega) (fun c136 => ?_) (fun c136 => ?_)
                        · skip
                          exfalso; omega
                        · skip
                          refine r_ex hX hP 1 (pc' := 88) (st' := [(0, (-1))]) (lo' := [(0, (2, this)), (1, (0, frm)), (2, (0, to_)), (3, (0, day)), (4, (0, m)), (5, (0, n)), (6, (0, sure)), (7, (0, 0))]) rfl ?_
                          exact r_retI hX hP rfl rfl (by first | decide | omega) (by first | decide | omega) ⟨rfl, ⟨_, (hw_sub (hw_refl _ _) rfl).symm⟩, (-1), rfl, (by first | decide | omega)⟩
                      · skip
                        exfalso; omega
                    · skip
                      exfalso; omega
                    · skip
                      exfalso; omega
                    · skip
                      exfalso; omega
                    · skip
                      exfalso; omega
                  · skip
                    refine r_ex hX hP 3 (pc' := 78) (st' := [(0, 0), (0, 1), (0, 0), (0, 1), (2, this)]) (lo' := [(0, (2, this)), (1, (0, frm)), (2, (0, to_)), (3, (0, day)), (4, (0, m)), (5, (0, n)), (6, (0, sure)), (7, (0, 0))]) rfl ?_
                    refine r_callS gd hX hP rfl cs_X11_112 (d' := 0) (mc' := 0) (ms' := 0) (as' := [(0, 1), (0, 0), (0, 1), (0, 0)]) (st := [(2, this)]) (by first | decide | omega) (by first | decide | omega) (by first | decide | omega) rfl rfl (Nat.le_of_ble_eq_true rfl) (c_X11_first E S G 1 0 1 0 (by first | decide | omega) (by first | decide | omega) (by first | decide | omega) (by first | decide | omega) (by first | decide | omega) (by first | decide | omega) (by first | decide | omega) (by first | decide | omega)) ?_
                    rintro _ _ _ ⟨rfl, rfl, z137, rfl, (⟨rfl, f138⟩ | ⟨rfl, f139, f140⟩ | ⟨rfl, f141, f142, f143⟩ | ⟨rfl, f144, f145, f146, f147⟩ | ⟨rfl, f148, f149, f150, f151⟩)⟩
                    · skip
                      refine r_callV gd hX hP rfl cv_X11_90_128 hS (d' := 0) (mc' := 0) (ms' := 0) (as' := [(0, 1)]) (st := []) (by first | decide | omega) (by first | decide | omega) (by first | decide | omega) rfl rfl (Nat.le_of_ble_eq_true rfl) (c_X11_refused E S G this 1 hS (by first | decide | omega) (by first | decide | omega)) ?_
                      rintro _ _ _ ⟨rfl, ⟨G152, rfl⟩, z153, rfl, (⟨rfl, f154⟩ | ⟨rfl, f155⟩)⟩
                      · skip
                        refine r_if_eq hX hP rfl (tgt := 89) rfl (by first | decide | omega) (by first | decide | omega) (fun c156 => ?_) (fun c156 => ?_)
                        · skip
                          exfalso; omega
                        · skip
                          refine r_ex hX hP 1 (pc' := 88) (st' := [(0, (-1))]) (lo' := [(0, (2, this)), (1, (0, frm)), (2, (0, to_)), (3, (0, day)), (4, (0, m)), (5, (0, n)), (6, (0, sure)), (7, (0, 0))]) rfl ?_
                          exact r_retI hX hP rfl rfl (by first | decide | omega) (by first | decide | omega) ⟨rfl, ⟨_, (hw_sub (hw_refl _ _) rfl).symm⟩, (-1), rfl, (by first | decide | omega)⟩
                      · skip
                        exfalso; omega
                    · skip
                      exfalso; omega
                    · skip
                      exfalso; omega
                    · skip
                      exfalso; omega
                    · skip
                      exfalso; omega
                · skip
                  exfalso; omega
            · skip
              exfalso; omega
          · skip
            refine r_if_ne hX hP rfl (tgt := 35) rfl (by first | decide | omega) (by first | decide | omega) (fun c157 => ?_) (fun c157 => ?_)
            · skip
              exfalso; omega
            · skip
              refine r_ex hX hP 5 (pc' := 40) (st' := [(0, frm), (2, this)]) (lo' := [(0, (2, this)), (1, (0, frm)), (2, (0, to_)), (3, (0, day)), (4, (0, m)), (5, (0, n)), (6, (0, sure)), (7, (0, 1))]) rfl ?_
              refine r_callS gd hX hP rfl cs_X11_120 (d' := 1) (mc' := 0) (ms' := 0) (as' := [(0, frm)]) (st := [(2, this)]) (by first | decide | omega) (by first | decide | omega) (by first | decide | omega) rfl rfl (Nat.le_of_ble_eq_true rfl) (c_X11_isPaper E S G frm (by first | decide | omega) (by first | decide | omega)) ?_
              rintro _ _ _ ⟨rfl, rfl, z158, rfl, (⟨rfl, f159, f160⟩ | rfl)⟩
              · skip
                refine r_if_eq hX hP rfl (tgt := 53) rfl (by first | decide | omega) (by first | decide | omega) (fun c161 => ?_) (fun c161 => ?_)
                · skip
                  exfalso; omega
                · skip
                  refine r_ex hX hP 1 (pc' := 47) (st' := [(0, to_), (2, this)]) (lo' := [(0, (2, this)), (1, (0, frm)), (2, (0, to_)), (3, (0, day)), (4, (0, m)), (5, (0, n)), (6, (0, sure)), (7, (0, 1))]) rfl ?_
                  refine r_callS gd hX hP rfl cs_X11_120 (d' := 1) (mc' := 0) (ms' := 0) (as' := [(0, to_)]) (st := [(2, this)]) (by first | decide | omega) (by first | decide | omega) (by first | decide | omega) rfl rfl (Nat.le_of_ble_eq_true rfl) (c_X11_isPaper E S G to_ (by first | decide | omega) (by first | decide | omega)) ?_
                  rintro _ _ _ ⟨rfl, rfl, z162, rfl, (⟨rfl, f163, f164⟩ | rfl)⟩
                  · skip
                    refine r_if_ne hX hP rfl (tgt := 57) rfl (by first | decide | omega) (by first | decide | omega) (fun c165 => ?_) (fun c165 => ?_)
                    · skip
                      refine r_ex hX hP 3 (pc' := 61) (st' := [(2, this), (0, 1), (0, 0), (2, this)]) (lo' := [(0, (2, this)), (1, (0, frm)), (2, (0, to_)), (3, (0, day)), (4, (0, m)), (5, (0, n)), (6, (0, sure)), (7, (0, 1))]) rfl ?_
                      refine r_getR hX hP rfl fl_X11_78_128 hS (fun rf166 rf166e rf166s => ?_)
                      refine r_getI hX hP rfl fl_X11_420_132 rf166s (fun cf167 cf167e cf167a cf167b => ?_)
                      refine r_ex hX hP 1 (pc' := 69) (st' := [(0, 12), (0, cf167), (0, 1), (0, 0), (2, this)]) (lo' := [(0, (2, this)), (1, (0, frm)), (2, (0, to_)), (3, (0, day)), (4, (0, m)), (5, (0, n)), (6, (0, sure)), (7, (0, 1))]) rfl ?_
                      refine r_ic_lt hX hP rfl (tgt := 76) rfl (by first | decide | omega) (by first | decide | omega) (by first | decide | omega) (by first | decide | omega) (fun c168 => ?_) (fun c168 => ?_)
                      · skip
                        refine r_ex hX hP 2 (pc' := 78) (st' := [(0, 0), (0, 0), (0, 1), (0, 0), (2, this)]) (lo' := [(0, (2, this)), (1, (0, frm)), (2, (0, to_)), (3, (0, day)), (4, (0, m)), (5, (0, n)), (6, (0, sure)), (7, (0, 1))]) rfl ?_
                        refine r_callS gd hX hP rfl cs_X11_112 (d' := 0) (mc' := 0) (ms' := 0) (as' := [(0, 0), (0, 1), (0, 0), (0, 0)]) (st := [(2, this)]) (by first | decide | omega) (by first | decide | omega) (by first | decide | omega) rfl rfl (Nat.le_of_ble_eq_true rfl) (c_X11_first E S G 0 1 0 0 (by first | decide | omega) (by first | decide | omega) (by first | decide | omega) (by first | decide | omega) (by first | decide | omega) (by first | decide | omega) (by first | decide | omega) (by first | decide | omega)) ?_
                        rintro _ _ _ ⟨rfl, rfl, z169, rfl, (⟨rfl, f170⟩ | ⟨rfl, f171, f172⟩ | ⟨rfl, f173, f174, f175⟩ | ⟨rfl, f176, f177, f178, f179⟩ | ⟨rfl, f180, f181, f182, f183⟩)⟩
                        · skip
                          exfalso; omega
                        · skip
                          refine r_callV gd hX hP rfl cv_X11_90_128 hS (d' := 0) (mc' := 0) (ms' := 0) (as' := [(0, 2)]) (st := []) (by first | decide | omega) (by first | decide | omega) (by first | decide | omega) rfl rfl (Nat.le_of_ble_eq_true rfl) (c_X11_refused E S G this 2 hS (by first | decide | omega) (by first | decide | omega)) ?_
                          rintro _ _ _ ⟨rfl, ⟨G184, rfl⟩, z185, rfl, (⟨rfl, f186⟩ | ⟨rfl, f187⟩)⟩
                          · skip
                            refine r_if_eq hX hP rfl (tgt := 89) rfl (by first | decide | omega) (by first | decide | omega) (fun c188 => ?_) (fun c188 => ?_)
                            · skip
                              exfalso; omega
                            · skip
                              refine r_ex hX hP 1 (pc' := 88) (st' := [(0, (-1))]) (lo' := [(0, (2, this)), (1, (0, frm)), (2, (0, to_)), (3, (0, day)), (4, (0, m)), (5, (0, n)), (6, (0, sure)), (7, (0, 1))]) rfl ?_
                              exact r_retI hX hP rfl rfl (by first | decide | omega) (by first | decide | omega) ⟨rfl, ⟨_, (hw_sub (hw_refl _ _) rfl).symm⟩, (-1), rfl, (by first | decide | omega)⟩
                          · skip
                            exfalso; omega
                        · skip
                          exfalso; omega
                        · skip
                          exfalso; omega
                        · skip
                          exfalso; omega
                      · skip
                        refine r_ex hX hP 3 (pc' := 78) (st' := [(0, 0), (0, 1), (0, 1), (0, 0), (2, this)]) (lo' := [(0, (2, this)), (1, (0, frm)), (2, (0, to_)), (3, (0, day)), (4, (0, m)), (5, (0, n)), (6, (0, sure)), (7, (0, 1))]) rfl ?_
                        refine r_callS gd hX hP rfl cs_X11_112 (d' := 0) (mc' := 0) (ms' := 0) (as' := [(0, 0), (0, 1), (0, 1), (0, 0)]) (st := [(2, this)]) (by first | decide | omega) (by first | decide | omega) (by first | decide | omega) rfl rfl (Nat.le_of_ble_eq_true rfl) (c_X11_first E S G 0 1 1 0 (by first | decide | omega) (by first | decide | omega) (by first | decide | omega) (by first | decide | omega) (by first | decide | omega) (by first | decide | omega) (by first | decide | omega) (by first | decide | omega)) ?_
                        rintro _ _ _ ⟨rfl, rfl, z189, rfl, (⟨rfl, f190⟩ | ⟨rfl, f191, f192⟩ | ⟨rfl, f193, f194, f195⟩ | ⟨rfl, f196, f197, f198, f199⟩ | ⟨rfl, f200, f201, f202, f203⟩)⟩
                        · skip
                          exfalso; omega
                        · skip
                          refine r_callV gd hX hP rfl cv_X11_90_128 hS (d' := 0) (mc' := 0) (ms' := 0) (as' := [(0, 2)]) (st := []) (by first | decide | omega) (by first | decide | omega) (by first | decide | omega) rfl rfl (Nat.le_of_ble_eq_true rfl) (c_X11_refused E S G this 2 hS (by first | decide | omega) (by first | decide | omega)) ?_
                          rintro _ _ _ ⟨rfl, ⟨G204, rfl⟩, z205, rfl, (⟨rfl, f206⟩ | ⟨rfl, f207⟩)⟩
                          · skip
                            refine r_if_eq hX hP rfl (tgt := 89) rfl (by first | decide | omega) (by first | decide | omega) (fun c208 => ?_) (fun c208 => ?_)
                            · skip
                              exfalso; omega
                            · skip
                              refine r_ex hX hP 1 (pc' := 88) (st' := [(0, (-1))]) (lo' := [(0, (2, this)), (1, (0, frm)), (2, (0, to_)), (3, (0, day)), (4, (0, m)), (5, (0, n)), (6, (0, sure)), (7, (0, 1))]) rfl ?_
                              exact r_retI hX hP rfl rfl (by first | decide | omega) (by first | decide | omega) ⟨rfl, ⟨_, (hw_sub (hw_refl _ _) rfl).symm⟩, (-1), rfl, (by first | decide | omega)⟩
                          · skip
                            exfalso; omega
                        · skip
                          exfalso; omega
                        · skip
                          exfalso; omega
                        · skip
                          exfalso; omega
                    · skip
                      exfalso; omega
                  · skip
                    refine r_if_ne hX hP rfl (tgt := 57) rfl (by first | decide | omega) (by first | decide | omega) (fun c209 => ?_) (fun c209 => ?_)
                    · skip
                      exfalso; omega
                    · skip
                      refine r_ex hX hP 4 (pc' := 61) (st' := [(2, this), (0, 1), (0, 1), (2, this)]) (lo' := [(0, (2, this)), (1, (0, frm)), (2, (0, to_)), (3, (0, day)), (4, (0, m)), (5, (0, n)), (6, (0, sure)), (7, (0, 1))]) rfl ?_
                      refine r_getR hX hP rfl fl_X11_78_128 hS (fun rf210 rf210e rf210s => ?_)
                      refine r_getI hX hP rfl fl_X11_420_132 rf210s (fun cf211 cf211e cf211a cf211b => ?_)
                      refine r_ex hX hP 1 (pc' := 69) (st' := [(0, 12), (0, cf211), (0, 1), (0, 1), (2, this)]) (lo' := [(0, (2, this)), (1, (0, frm)), (2, (0, to_)), (3, (0, day)), (4, (0, m)), (5, (0, n)), (6, (0, sure)), (7, (0, 1))]) rfl ?_
                      refine r_ic_lt hX hP rfl (tgt := 76) rfl (by first | decide | omega) (by first | decide | omega) (by first | decide | omega) (by first | decide | omega) (fun c212 => ?_) (fun c212 => ?_)
                      · skip
                        refine r_ex hX hP 2 (pc' := 78) (st' := [(0, 0), (0, 0), (0, 1), (0, 1), (2, this)]) (lo' := [(0, (2, this)), (1, (0, frm)), (2, (0, to_)), (3, (0, day)), (4, (0, m)), (5, (0, n)), (6, (0, sure)), (7, (0, 1))]) rfl ?_
                        refine r_callS gd hX hP rfl cs_X11_112 (d' := 0) (mc' := 0) (ms' := 0) (as' := [(0, 1), (0, 1), (0, 0), (0, 0)]) (st := [(2, this)]) (by first | decide | omega) (by first | decide | omega) (by first | decide | omega) rfl rfl (Nat.le_of_ble_eq_true rfl) (c_X11_first E S G 1 1 0 0 (by first | decide | omega) (by first | decide | omega) (by first | decide | omega) (by first | decide | omega) (by first | decide | omega) (by first | decide | omega) (by first | decide | omega) (by first | decide | omega)) ?_
                        rintro _ _ _ ⟨rfl, rfl, z213, rfl, (⟨rfl, f214⟩ | ⟨rfl, f215, f216⟩ | ⟨rfl, f217, f218, f219⟩ | ⟨rfl, f220, f221, f222, f223⟩ | ⟨rfl, f224, f225, f226, f227⟩)⟩
                        · skip
                          refine r_callV gd hX hP rfl cv_X11_90_128 hS (d' := 0) (mc' := 0) (ms' := 0) (as' := [(0, 1)]) (st := []) (by first | decide | omega) (by first | decide | omega) (by first | decide | omega) rfl rfl (Nat.le_of_ble_eq_true rfl) (c_X11_refused E S G this 1 hS (by first | decide | omega) (by first | decide | omega)) ?_
                          rintro _ _ _ ⟨rfl, ⟨G228, rfl⟩, z229, rfl, (⟨rfl, f230⟩ | ⟨rfl, f231⟩)⟩
                          · skip
                            refine r_if_eq hX hP rfl (tgt := 89) rfl (by first | decide | omega) (by first | decide | omega) (fun c232 => ?_) (fun c232 => ?_)
                            · skip
                              exfalso; omega
                            · skip
                              refine r_ex hX hP 1 (pc' := 88) (st' := [(0, (-1))]) (lo' := [(0, (2, this)), (1, (0, frm)), (2, (0, to_)), (3, (0, day)), (4, (0, m)), (5, (0, n)), (6, (0, sure)), (7, (0, 1))]) rfl ?_
                              exact r_retI hX hP rfl rfl (by first | decide | omega) (by first | decide | omega) ⟨rfl, ⟨_, (hw_sub (hw_refl _ _) rfl).symm⟩, (-1), rfl, (by first | decide | omega)⟩
                          · skip
                            exfalso; omega
                        · skip
                          exfalso; omega
                        · skip
                          exfalso; omega
                        · skip
                          exfalso; omega
                        · skip
                          exfalso; omega
                      · skip
                        refine r_ex hX hP 3 (pc' := 78) (st' := [(0, 0), (0, 1), (0, 1), (0, 1), (2, this)]) (lo' := [(0, (2, this)), (1, (0, frm)), (2, (0, to_)), (3, (0, day)), (4, (0, m)), (5, (0, n)), (6, (0, sure)), (7, (0, 1))]) rfl ?_
                        refine r_callS gd hX hP rfl cs_X11_112 (d' := 0) (mc' := 0) (ms' := 0) (as' := [(0, 1), (0, 1), (0, 1), (0, 0)]) (st := [(2, this)]) (by first | decide | omega) (by first | decide | omega) (by first | decide | omega) rfl rfl (Nat.le_of_ble_eq_true rfl) (c_X11_first E S G 1 1 1 0 (by first | decide | omega) (by first | decide | omega) (by first | decide | omega) (by first | decide | omega) (by first | decide | omega) (by first | decide | omega) (by first | decide | omega) (by first | decide | omega)) ?_
                        rintro _ _ _ ⟨rfl, rfl, z233, rfl, (⟨rfl, f234⟩ | ⟨rfl, f235, f236⟩ | ⟨rfl, f237, f238, f239⟩ | ⟨rfl, f240, f241, f242, f243⟩ | ⟨rfl, f244, f245, f246, f247⟩)⟩
                        · skip
                          refine r_callV gd hX hP rfl cv_X11_90_128 hS (d' := 0) (mc' := 0) (ms' := 0) (as' := [(0, 1)]) (st := []) (by first | decide | omega) (by first | decide | omega) (by first | decide | omega) rfl rfl (Nat.le_of_ble_eq_true rfl) (c_X11_refused E S G this 1 hS (by first | decide | omega) (by first | decide | omega)) ?_
                          rintro _ _ _ ⟨rfl, ⟨G248, rfl⟩, z249, rfl, (⟨rfl, f250⟩ | ⟨rfl, f251⟩)⟩
                          · skip
                            refine r_if_eq hX hP rfl (tgt := 89) rfl (by first | decide | omega) (by first | decide | omega) (fun c252 => ?_) (fun c252 => ?_)
                            · skip
                              exfalso; omega
                            · skip
                              refine r_ex hX hP 1 (pc' := 88) (st' := [(0, (-1))]) (lo' := [(0, (2, this)), (1, (0, frm)), (2, (0, to_)), (3, (0, day)), (4, (0, m)), (5, (0, n)), (6, (0, sure)), (7, (0, 1))]) rfl ?_
                              exact r_retI hX hP rfl rfl (by first | decide | omega) (by first | decide | omega) ⟨rfl, ⟨_, (hw_sub (hw_refl _ _) rfl).symm⟩, (-1), rfl, (by first | decide | omega)⟩
                          · skip
                            exfalso; omega
                        · skip
                          exfalso; omega
                        · skip
                          exfalso; omega
                        · skip
                          exfalso; omega
                        · skip
                          exfalso; omega
              · skip
                refine r_if_eq hX hP rfl (tgt := 53) rfl (by first | decide | omega) (by first | decide | omega) (fun c253 => ?_) (fun c253 => ?_)
                · skip
                  refine r_ex hX hP 4 (pc' := 61) (st' := [(2, this), (0, 1), (0, 1), (2, this)]) (lo' := [(0, (2, this)), (1, (0, frm)), (2, (0, to_)), (3, (0, day)), (4, (0, m)), (5, (0, n)), (6, (0, sure)), (7, (0, 1))]) rfl ?_
                  refine r_getR hX hP rfl fl_X11_78_128 hS (fun rf254 rf254e rf254s => ?_)
                  refine r_getI hX hP rfl fl_X11_420_132 rf254s (fun cf255 cf255e cf255a cf255b => ?_)
                  refine r_ex hX hP 1 (pc' := 69) (st' := [(0, 12), (0, cf255), (0, 1), (0, 1), (2, this)]) (lo' := [(0, (2, this)), (1, (0, frm)), (2, (0, to_)), (3, (0, day)), (4, (0, m)), (5, (0, n)), (6, (0, sure)), (7, (0, 1))]) rfl ?_
                  refine r_ic_lt hX hP rfl (tgt := 76) rfl (by first | decide | omega) (by first | decide | omega) (by first | decide | omega) (by first | decide | omega) (fun c256 => ?_) (fun c256 => ?_)
                  · skip
                    refine r_ex hX hP 2 (pc' := 78) (st' := [(0, 0), (0, 0), (0, 1), (0, 1), (2, this)]) (lo' := [(0, (2, this)), (1, (0, frm)), (2, (0, to_)), (3, (0, day)), (4, (0, m)), (5, (0, n)), (6, (0, sure)), (7, (0, 1))]) rfl ?_
                    refine r_callS gd hX hP rfl cs_X11_112 (d' := 0) (mc' := 0) (ms' := 0) (as' := [(0, 1), (0, 1), (0, 0), (0, 0)]) (st := [(2, this)]) (by first | decide | omega) (by first | decide | omega) (by first | decide | omega) rfl rfl (Nat.le_of_ble_eq_true rfl) (c_X11_first E S G 1 1 0 0 (by first | decide | omega) (by first | decide | omega) (by first | decide | omega) (by first | decide | omega) (by first | decide | omega) (by first | decide | omega) (by first | decide | omega) (by first | decide | omega)) ?_
                    rintro _ _ _ ⟨rfl, rfl, z257, rfl, (⟨rfl, f258⟩ | ⟨rfl, f259, f260⟩ | ⟨rfl, f261, f262, f263⟩ | ⟨rfl, f264, f265, f266, f267⟩ | ⟨rfl, f268, f269, f270, f271⟩)⟩
                    · skip
                      refine r_callV gd hX hP rfl cv_X11_90_128 hS (d' := 0) (mc' := 0) (ms' := 0) (as' := [(0, 1)]) (st := []) (by first | decide | omega) (by first | decide | omega) (by first | decide | omega) rfl rfl (Nat.le_of_ble_eq_true rfl) (c_X11_refused E S G this 1 hS (by first | decide | omega) (by first | decide | omega)) ?_
                      rintro _ _ _ ⟨rfl, ⟨G272, rfl⟩, z273, rfl, (⟨rfl, f274⟩ | ⟨rfl, f275⟩)⟩
                      · skip
                        refine r_if_eq hX hP rfl (tgt := 89) rfl (by first | decide | omega) (by first | decide | omega) (fun c276 => ?_) (fun c276 => ?_)
                        · skip
                          exfalso; omega
                        · skip
                          refine r_ex hX hP 1 (pc' := 88) (st' := [(0, (-1))]) (lo' := [(0, (2, this)), (1, (0, frm)), (2, (0, to_)), (3, (0, day)), (4, (0, m)), (5, (0, n)), (6, (0, sure)), (7, (0, 1))]) rfl ?_
                          exact r_retI hX hP rfl rfl (by first | decide | omega) (by first | decide | omega) ⟨rfl, ⟨_, (hw_sub (hw_refl _ _) rfl).symm⟩, (-1), rfl, (by first | decide | omega)⟩
                      · skip
                        exfalso; omega
                    · skip
                      exfalso; omega
                    · skip
                      exfalso; omega
                    · skip
                      exfalso; omega
                    · skip
                      exfalso; omega
                  · skip
                    refine r_ex hX hP 3 (pc' := 78) (st' := [(0, 0), (0, 1), (0, 1), (0, 1), (2, this)]) (lo' := [(0, (2, this)), (1, (0, frm)), (2, (0, to_)), (3, (0, day)), (4, (0, m)), (5, (0, n)), (6, (0, sure)), (7, (0, 1))]) rfl ?_
                    refine r_callS gd hX hP rfl cs_X11_112 (d' := 0) (mc' := 0) (ms' := 0) (as' := [(0, 1), (0, 1), (0, 1), (0, 0)]) (st := [(2, this)]) (by first | decide | omega) (by first | decide | omega) (by first | decide | omega) rfl rfl (Nat.le_of_ble_eq_true rfl) (c_X11_first E S G 1 1 1 0 (by first | decide | omega) (by first | decide | omega) (by first | decide | omega) (by first | decide | omega) (by first | decide | omega) (by first | decide | omega) (by first | decide | omega) (by first | decide | omega)) ?_
                    rintro _ _ _ ⟨rfl, rfl, z277, rfl, (⟨rfl, f278⟩ | ⟨rfl, f279, f280⟩ | ⟨rfl, f281, f282, f283⟩ | ⟨rfl, f284, f285, f286, f287⟩ | ⟨rfl, f288, f289, f290, f291⟩)⟩
                    · skip
                      refine r_callV gd hX hP rfl cv_X11_90_128 hS (d' := 0) (mc' := 0) (ms' := 0) (as' := [(0, 1)]) (st := []) (by first | decide | omega) (by first | decide | omega) (by first | decide | omega) rfl rfl (Nat.le_of_ble_eq_true rfl) (c_X11_refused E S G this 1 hS (by first | decide | omega) (by first | decide | omega)) ?_
                      rintro _ _ _ ⟨rfl, ⟨G292, rfl⟩, z293, rfl, (⟨rfl, f294⟩ | ⟨rfl, f295⟩)⟩
                      · skip
                        refine r_if_eq hX hP rfl (tgt := 89) rfl (by first | decide | omega) (by first | decide | omega) (fun c296 => ?_) (fun c296 => ?_)
                        · skip
                          exfalso; omega
                        · skip
                          refine r_ex hX hP 1 (pc' := 88) (st' := [(0, (-1))]) (lo' := [(0, (2, this)), (1, (0, frm)), (2, (0, to_)), (3, (0, day)), (4, (0, m)), (5, (0, n)), (6, (0, sure)), (7, (0, 1))]) rfl ?_
                          exact r_retI hX hP rfl rfl (by first | decide | omega) (by first | decide | omega) ⟨rfl, ⟨_, (hw_sub (hw_refl _ _) rfl).symm⟩, (-1), rfl, (by first | decide | omega)⟩
                      · skip
                        exfalso; omega
                    · skip
                      exfalso; omega
                    · skip
                      exfalso; omega
                    · skip
                      exfalso; omega
                    · skip
                      exfalso; omega
                · skip
                  exfalso; omega
      · skip
        refine r_if_eq hX hP rfl (tgt := 31) rfl (by first | decide | omega) (by first | decide | omega) (fun c297 => ?_) (fun c297 => ?_)
        · skip
          refine r_ex hX hP 5 (pc' := 40) (st' := [(0, frm), (2, this)]) (lo' := [(0, (2, this)), (1, (0, frm)), (2, (0, to_)), (3, (0, day)), (4, (0, m)), (5, (0, n)), (6, (0, sure)), (7, (0, 1))]) rfl ?_
          refine r_callS gd hX hP rfl cs_X11_120 (d' := 1) (mc' := 0) (ms' := 0) (as' := [(0, frm)]) (st := [(2, this)]) (by first | decide | omega) (by first | decide | omega) (by first | decide | omega) rfl rfl (Nat.le_of_ble_eq_true rfl) (c_X11_isPaper E S G frm (by first | decide | omega) (by first | decide | omega)) ?_
          rintro _ _ _ ⟨rfl, rfl, z298, rfl, (⟨rfl, f299, f300⟩ | rfl)⟩
          · skip
            refine r_if_eq hX hP rfl (tgt := 53) rfl (by first | decide | omega) (by first | decide | omega) (fun c301 => ?_) (fun c301 => ?_)
            · skip
              exfalso; omega
            · skip
              refine r_ex hX hP 1 (pc' := 47) (st' := [(0, to_), (2, this)]) (lo' := [(0, (2, this)), (1, (0, frm)), (2, (0, to_)), (3, (0, day)), (4, (0, m)), (5, (0, n)), (6, (0, sure)), (7, (0, 1))]) rfl ?_
              refine r_callS gd hX hP rfl cs_X11_120 (d' := 1) (mc' := 0) (ms' := 0) (as' := [(0, to_)]) (st := [(2, this)]) (by first | decide | omega) (by first | decide | omega) (by first | decide | omega) rfl rfl (Nat.le_of_ble_eq_true rfl) (c_X11_isPaper E S G to_ (by first | decide | omega) (by first | decide | omega)) ?_
              rintro _ _ _ ⟨rfl, rfl, z302, rfl, (⟨rfl, f303, f304⟩ | rfl)⟩
              · skip
                refine r_if_ne hX hP rfl (tgt := 57) rfl (by first | decide | omega) (by first | decide | omega) (fun c305 => ?_) (fun c305 => ?_)
                · skip
                  refine r_ex hX hP 3 (pc' := 61) (st' := [(2, this), (0, 1), (0, 0), (2, this)]) (lo' := [(0, (2, this)), (1, (0, frm)), (2, (0, to_)), (3, (0, day)), (4, (0, m)), (5, (0, n)), (6, (0, sure)), (7, (0, 1))]) rfl ?_
                  refine r_getR hX hP rfl fl_X11_78_128 hS (fun rf306 rf306e rf306s => ?_)
                  refine r_getI hX hP rfl fl_X11_420_132 rf306s (fun cf307 cf307e cf307a cf307b => ?_)
                  refine r_ex hX hP 1 (pc' := 69) (st' := [(0, 12), (0, cf307), (0, 1), (0, 0), (2, this)]) (lo' := [(0, (2, this)), (1, (0, frm)), (2, (0, to_)), (3, (0, day)), (4, (0, m)), (5, (0, n)), (6, (0, sure)), (7, (0, 1))]) rfl ?_
                  refine r_ic_lt hX hP rfl (tgt := 76) rfl (by first | decide | omega) (by first | decide | omega) (by first | decide | omega) (by first | decide | omega) (fun c308 => ?_) (fun c308 => ?_)
                  · skip
                    refine r_ex hX hP 2 (pc' := 78) (st' := [(0, 0), (0, 0), (0, 1), (0, 0), (2, this)]) (lo' := [(0, (2, this)), (1, (0, frm)), (2, (0, to_)), (3, (0, day)), (4, (0, m)), (5, (0, n)), (6, (0, sure)), (7, (0, 1))]) rfl ?_
                    refine r_callS gd hX hP rfl cs_X11_112 (d' := 0) (mc' := 0) (ms' := 0) (as' := [(0, 0), (0, 1), (0, 0), (0, 0)]) (st := [(2, this)]) (by first | decide | omega) (by first | decide | omega) (by first | decide | omega) rfl rfl (Nat.le_of_ble_eq_true rfl) (c_X11_first E S G 0 1 0 0 (by first | decide | omega) (by first | decide | omega) (by first | decide | omega) (by first | decide | omega) (by first | decide | omega) (by first | decide | omega) (by first | decide | omega) (by first | decide | omega)) ?_
                    rintro _ _ _ ⟨rfl, rfl, z309, rfl, (⟨rfl, f310⟩ | ⟨rfl, f311, f312⟩ | ⟨rfl, f313, f314, f315⟩ | ⟨rfl, f316, f317, f318, f319⟩ | ⟨rfl, f320, f321, f322, f323⟩)⟩
                    · skip
                      exfalso; omega
                    · skip
                      refine r_callV gd hX hP rfl cv_X11_90_128 hS (d' := 0) (mc' := 0) (ms' := 0) (as' := [(0, 2)]) (st := []) (by first | decide | omega) (by first | decide | omega) (by first | decide | omega) rfl rfl (Nat.le_of_ble_eq_true rfl) (c_X11_refused E S G this 2 hS (by first | decide | omega) (by first | decide | omega)) ?_
                      rintro _ _ _ ⟨rfl, ⟨G324, rfl⟩, z325, rfl, (⟨rfl, f326⟩ | ⟨rfl, f327⟩)⟩
                      · skip
                        refine r_if_eq hX hP rfl (tgt := 89) rfl (by first | decide | omega) (by first | decide | omega) (fun c328 => ?_) (fun c328 => ?_)
                        · skip
                          exfalso; omega
                        · skip
                          refine r_ex hX hP 1 (pc' := 88) (st' := [(0, (-1))]) (lo' := [(0, (2, this)), (1, (0, frm)), (2, (0, to_)), (3, (0, day)), (4, (0, m)), (5, (0, n)), (6, (0, sure)), (7, (0, 1))]) rfl ?_
                          exact r_retI hX hP rfl rfl (by first | decide | omega) (by first | decide | omega) ⟨rfl, ⟨_, (hw_sub (hw_refl _ _) rfl).symm⟩, (-1), rfl, (by first | decide | omega)⟩
                      · skip
                        exfalso; omega
                    · skip
                      exfalso; omega
                    · skip
                      exfalso; omega
                    · skip
                      exfalso; omega
                  · skip
                    refine r_ex hX hP 3 (pc' := 78) (st' := [(0, 0), (0, 1), (0, 1), (0, 0), (2, this)]) (lo' := [(0, (2, this)), (1, (0, frm)), (2, (0, to_)), (3, (0, day)), (4, (0, m)), (5, (0, n)), (6, (0, sure)), (7, (0, 1))]) rfl ?_
                    refine r_callS gd hX hP rfl cs_X11_112 (d' := 0) (mc' := 0) (ms' := 0) (as' := [(0, 0), (0, 1), (0, 1), (0, 0)]) (st := [(2, this)]) (by first | decide | omega) (by first | decide | omega) (by first | decide | omega) rfl rfl (Nat.le_of_ble_eq_true rfl) (c_X11_first E S G 0 1 1 0 (by first | decide | omega) (by first | decide | omega) (by first | decide | omega) (by first | decide | omega) (by first | decide | omega) (by first | decide | omega) (by first | decide | omega) (by first | decide | omega)) ?_
                    rintro _ _ _ ⟨rfl, rfl, z329, rfl, (⟨rfl, f330⟩ | ⟨rfl, f331, f332⟩ | ⟨rfl, f333, f334, f335⟩ | ⟨rfl, f336, f337, f338, f339⟩ | ⟨rfl, f340, f341, f342, f343⟩)⟩
                    · skip
                      exfalso; omega
                    · skip
                      refine r_callV gd hX hP rfl cv_X11_90_128 hS (d' := 0) (mc' := 0) (ms' := 0) (as' := [(0, 2)]) (st := []) (by first | decide | omega) (by first | decide | omega) (by first | decide | omega) rfl rfl (Nat.le_of_ble_eq_true rfl) (c_X11_refused E S G this 2 hS (by first | decide | omega) (by first | decide | omega)) ?_
                      rintro _ _ _ ⟨rfl, ⟨G344, rfl⟩, z345, rfl, (⟨rfl, f346⟩ | ⟨rfl, f347⟩)⟩
                      · skip
                        refine r_if_eq hX hP rfl (tgt := 89) rfl (by first | decide | omega) (by first | decide | omega) (fun c348 => ?_) (fun c348 => ?_)
                        · skip
                          exfalso; omega
                        · skip
                          refine r_ex hX hP 1 (pc' := 88) (st' := [(0, (-1))]) (lo' := [(0, (2, this)), (1, (0, frm)), (2, (0, to_)), (3, (0, day)), (4, (0, m)), (5, (0, n)), (6, (0, sure)), (7, (0, 1))]) rfl ?_
                          exact r_retI hX hP rfl rfl (by first | decide | omega) (by first | decide | omega) ⟨rfl, ⟨_, (hw_sub (hw_refl _ _) rfl).symm⟩, (-1), rfl, (by first | decide | omega)⟩
                      · skip
                        exfalso; omega
                    · skip
                      exfalso; omega
                    · skip
                      exfalso; omega
                    · skip
                      exfalso; omega
                · skip
                  exfalso; omega
              · skip
                refine r_if_ne hX hP rfl (tgt := 57) rfl (by first | decide | omega) (by first | decide | omega) (fun c349 => ?_) (fun c349 => ?_)
                · skip
                  exfalso; omega
                · skip
                  refine r_ex hX hP 4 (pc' := 61) (st' := [(2, this), (0, 1), (0, 1), (2, this)]) (lo' := [(0, (2, this)), (1, (0, frm)), (2, (0, to_)), (3, (0, day)), (4, (0, m)), (5, (0, n)), (6, (0, sure)), (7, (0, 1))]) rfl ?_
                  refine r_getR hX hP rfl fl_X11_78_128 hS (fun rf350 rf350e rf350s => ?_)
                  refine r_getI hX hP rfl fl_X11_420_132 rf350s (fun cf351 cf351e cf351a cf351b => ?_)
                  refine r_ex hX hP 1 (pc' := 69) (st' := [(0, 12), (0, cf351), (0, 1), (0, 1), (2, this)]) (lo' := [(0, (2, this)), (1, (0, frm)), (2, (0, to_)), (3, (0, day)), (4, (0, m)), (5, (0, n)), (6, (0, sure)), (7, (0, 1))]) rfl ?_
                  refine r_ic_lt hX hP rfl (tgt := 76) rfl (by first | decide | omega) (by first | decide | omega) (by first | decide | omega) (by first | decide | omega) (fun c352 => ?_) (fun c352 => ?_)
                  · skip
                    refine r_ex hX hP 2 (pc' := 78) (st' := [(0, 0), (0, 0), (0, 1), (0, 1), (2, this)]) (lo' := [(0, (2, this)), (1, (0, frm)), (2, (0, to_)), (3, (0, day)), (4, (0, m)), (5, (0, n)), (6, (0, sure)), (7, (0, 1))]) rfl ?_
                    refine r_callS gd hX hP rfl cs_X11_112 (d' := 0) (mc' := 0) (ms' := 0) (as' := [(0, 1), (0, 1), (0, 0), (0, 0)]) (st := [(2, this)]) (by first | decide | omega) (by first | decide | omega) (by first | decide | omega) rfl rfl (Nat.le_of_ble_eq_true rfl) (c_X11_first E S G 1 1 0 0 (by first | decide | omega) (by first | decide | omega) (by first | decide | omega) (by first | decide | omega) (by first | decide | omega) (by first | decide | omega) (by first | decide | omega) (by first | decide | omega)) ?_
                    rintro _ _ _ ⟨rfl, rfl, z353, rfl, (⟨rfl, f354⟩ | ⟨rfl, f355, f356⟩ | ⟨rfl, f357, f358, f359⟩ | ⟨rfl, f360, f361, f362, f363⟩ | ⟨rfl, f364, f365, f366, f367⟩)⟩
                    · skip
                      refine r_callV gd hX hP rfl cv_X11_90_128 hS (d' := 0) (mc' := 0) (ms' := 0) (as' := [(0, 1)]) (st := []) (by first | decide | omega) (by first | decide | omega) (by first | decide | omega) rfl rfl (Nat.le_of_ble_eq_true rfl) (c_X11_refused E S G this 1 hS (by first | decide | omega) (by first | decide | omega)) ?_
                      rintro _ _ _ ⟨rfl, ⟨G368, rfl⟩, z369, rfl, (⟨rfl, f370⟩ | ⟨rfl, f371⟩)⟩
                      · skip
                        refine r_if_eq hX hP rfl (tgt := 89) rfl (by first | decide | omega) (by first | decide | omega) (fun c372 => ?_) (fun c372 => ?_)
                        · skip
                          exfalso; omega
                        · skip
                          refine r_ex hX hP 1 (pc' := 88) (st' := [(0, (-1))]) (lo' := [(0, (2, this)), (1, (0, frm)), (2, (0, to_)), (3, (0, day)), (4, (0, m)), (5, (0, n)), (6, (0, sure)), (7, (0, 1))]) rfl ?_
                          exact r_retI hX hP rfl rfl (by first | decide | omega) (by first | decide | omega) ⟨rfl, ⟨_, (hw_sub (hw_refl _ _) rfl).symm⟩, (-1), rfl, (by first | decide | omega)⟩
                      · skip
                        exfalso; omega
                    · skip
                      exfalso; omega
                    · skip
                      exfalso; omega
                    · skip
                      exfalso; omega
                    · skip
                      exfalso; omega
                  · skip
                    refine r_ex hX hP 3 (pc' := 78) (st' := [(0, 0), (0, 1), (0, 1), (0, 1), (2, this)]) (lo' := [(0, (2, this)), (1, (0, frm)), (2, (0, to_)), (3, (0, day)), (4, (0, m)), (5, (0, n)), (6, (0, sure)), (7, (0, 1))]) rfl ?_
                    refine r_callS gd hX hP rfl cs_X11_112 (d' := 0) (mc' := 0) (ms' := 0) (as' := [(0, 1), (0, 1), (0, 1), (0, 0)]) (st := [(2, this)]) (by first | decide | omega) (by first | decide | omega) (by first | decide | omega) rfl rfl (Nat.le_of_ble_eq_true rfl) (c_X11_first E S G 1 1 1 0 (by first | decide | omega) (by first | decide | omega) (by first | decide | omega) (by first | decide | omega) (by first | decide | omega) (by first | decide | omega) (by first | decide | omega) (by first | decide | omega)) ?_
                    rintro _ _ _ ⟨rfl, rfl, z373, rfl, (⟨rfl, f374⟩ | ⟨rfl, f375, f376⟩ | ⟨rfl, f377, f378, f379⟩ | ⟨rfl, f380, f381, f382, f383⟩ | ⟨rfl, f384, f385, f386, f387⟩)⟩
                    · skip
                      refine r_callV gd hX hP rfl cv_X11_90_128 hS (d' := 0) (mc' := 0) (ms' := 0) (as' := [(0, 1)]) (st := []) (by first | decide | omega) (by first | decide | omega) (by first | decide | omega) rfl rfl (Nat.le_of_ble_eq_true rfl) (c_X11_refused E S G this 1 hS (by first | decide | omega) (by first | decide | omega)) ?_
                      rintro _ _ _ ⟨rfl, ⟨G388, rfl⟩, z389, rfl, (⟨rfl, f390⟩ | ⟨rfl, f391⟩)⟩
                      · skip
                        refine r_if_eq hX hP rfl (tgt := 89) rfl (by first | decide | omega) (by first | decide | omega) (fun c392 => ?_) (fun c392 => ?_)
                        · skip
                          exfalso; omega
                        · skip
                          refine r_ex hX hP 1 (pc' := 88) (st' := [(0, (-1))]) (lo' := [(0, (2, this)), (1, (0, frm)), (2, (0, to_)), (3, (0, day)), (4, (0, m)), (5, (0, n)), (6, (0, sure)), (7, (0, 1))]) rfl ?_
                          exact r_retI hX hP rfl rfl (by first | decide | omega) (by first | decide | omega) ⟨rfl, ⟨_, (hw_sub (hw_refl _ _) rfl).symm⟩, (-1), rfl, (by first | decide | omega)⟩
                      · skip
                        exfalso; omega
                    · skip
                      exfalso; omega
                    · skip
                      exfalso; omega
                    · skip
                      exfalso; omega
                    · skip
                      exfalso; omega
          · skip
            refine r_if_eq hX hP rfl (tgt := 53) rfl (by first | decide | omega) (by first | decide | omega) (fun c393 => ?_) (fun c393 => ?_)
            · skip
              refine r_ex hX hP 4 (pc' := 61) (st' := [(2, this), (0, 1), (0, 1), (2, this)]) (lo' := [(0, (2, this)), (1, (0, frm)), (2, (0, to_)), (3, (0, day)), (4, (0, m)), (5, (0, n)), (6, (0, sure)), (7, (0, 1))]) rfl ?_
              refine r_getR hX hP rfl fl_X11_78_128 hS (fun rf394 rf394e rf394s => ?_)
              refine r_getI hX hP rfl fl_X11_420_132 rf394s (fun cf395 cf395e cf395a cf395b => ?_)
              refine r_ex hX hP 1 (pc' := 69) (st' := [(0, 12), (0, cf395), (0, 1), (0, 1), (2, this)]) (lo' := [(0, (2, this)), (1, (0, frm)), (2, (0, to_)), (3, (0, day)), (4, (0, m)), (5, (0, n)), (6, (0, sure)), (7, (0, 1))]) rfl ?_
              refine r_ic_lt hX hP rfl (tgt := 76) rfl (by first | decide | omega) (by first | decide | omega) (by first | decide | omega) (by first | decide | omega) (fun c396 => ?_) (fun c396 => ?_)
              · skip
                refine r_ex hX hP 2 (pc' := 78) (st' := [(0, 0), (0, 0), (0, 1), (0, 1), (2, this)]) (lo' := [(0, (2, this)), (1, (0, frm)), (2, (0, to_)), (3, (0, day)), (4, (0, m)), (5, (0, n)), (6, (0, sure)), (7, (0, 1))]) rfl ?_
                refine r_callS gd hX hP rfl cs_X11_112 (d' := 0) (mc' := 0) (ms' := 0) (as' := [(0, 1), (0, 1), (0, 0), (0, 0)]) (st := [(2, this)]) (by first | decide | omega) (by first | decide | omega) (by first | decide | omega) rfl rfl (Nat.le_of_ble_eq_true rfl) (c_X11_first E S G 1 1 0 0 (by first | decide | omega) (by first | decide | omega) (by first | decide | omega) (by first | decide | omega) (by first | decide | omega) (by first | decide | omega) (by first | decide | omega) (by first | decide | omega)) ?_
                rintro _ _ _ ⟨rfl, rfl, z397, rfl, (⟨rfl, f398⟩ | ⟨rfl, f399, f400⟩ | ⟨rfl, f401, f402, f403⟩ | ⟨rfl, f404, f405, f406, f407⟩ | ⟨rfl, f408, f409, f410, f411⟩)⟩
                · skip
                  refine r_callV gd hX hP rfl cv_X11_90_128 hS (d' := 0) (mc' := 0) (ms' := 0) (as' := [(0, 1)]) (st := []) (by first | decide | omega) (by first | decide | omega) (by first | decide | omega) rfl rfl (Nat.le_of_ble_eq_true rfl) (c_X11_refused E S G this 1 hS (by first | decide | omega) (by first | decide | omega)) ?_
                  rintro _ _ _ ⟨rfl, ⟨G412, rfl⟩, z413, rfl, (⟨rfl, f414⟩ | ⟨rfl, f415⟩)⟩
                  · skip
                    refine r_if_eq hX hP rfl (tgt := 89) rfl (by first | decide | omega) (by first | decide | omega) (fun c416 => ?_) (fun c416 => ?_)
                    · skip
                      exfalso; omega
                    · skip
                      refine r_ex hX hP 1 (pc' := 88) (st' := [(0, (-1))]) (lo' := [(0, (2, this)), (1, (0, frm)), (2, (0, to_)), (3, (0, day)), (4, (0, m)), (5, (0, n)), (6, (0, sure)), (7, (0, 1))]) rfl ?_
                      exact r_retI hX hP rfl rfl (by first | decide | omega) (by first | decide | omega) ⟨rfl, ⟨_, (hw_sub (hw_refl _ _) rfl).symm⟩, (-1), rfl, (by first | decide | omega)⟩
                  · skip
                    exfalso; omega
                · skip
                  exfalso; omega
                · skip
                  exfalso; omega
                · skip
                  exfalso; omega
                · skip
                  exfalso; omega
              · skip
                refine r_ex hX hP 3 (pc' := 78) (st' := [(0, 0), (0, 1), (0, 1), (0, 1), (2, this)]) (lo' := [(0, (2, this)), (1, (0, frm)), (2, (0, to_)), (3, (0, day)), (4, (0, m)), (5, (0, n)), (6, (0, sure)), (7, (0, 1))]) rfl ?_
                refine r_callS gd hX hP rfl cs_X11_112 (d' := 0) (mc' := 0) (ms' := 0) (as' := [(0, 1), (0, 1), (0, 1), (0, 0)]) (st := [(2, this)]) (by first | decide | omega) (by first | decide | omega) (by first | decide | omega) rfl rfl (Nat.le_of_ble_eq_true rfl) (c_X11_first E S G 1 1 1 0 (by first | decide | omega) (by first | decide | omega) (by first | decide | omega) (by first | decide | omega) (by first | decide | omega) (by first | decide | omega) (by first | decide | omega) (by first | decide | omega)) ?_
                rintro _ _ _ ⟨rfl, rfl, z417, rfl, (⟨rfl, f418⟩ | ⟨rfl, f419, f420⟩ | ⟨rfl, f421, f422, f423⟩ | ⟨rfl, f424, f425, f426, f427⟩ | ⟨rfl, f428, f429, f430, f431⟩)⟩
                · skip
                  refine r_callV gd hX hP rfl cv_X11_90_128 hS (d' := 0) (mc' := 0) (ms' := 0) (as' := [(0, 1)]) (st := []) (by first | decide | omega) (by first | decide | omega) (by first | decide | omega) rfl rfl (Nat.le_of_ble_eq_true rfl) (c_X11_refused E S G this 1 hS (by first | decide | omega) (by first | decide | omega)) ?_
                  rintro _ _ _ ⟨rfl, ⟨G432, rfl⟩, z433, rfl, (⟨rfl, f434⟩ | ⟨rfl, f435⟩)⟩
                  · skip
                    refine r_if_eq hX hP rfl (tgt := 89) rfl (by first | decide | omega) (by first | decide | omega) (fun c436 => ?_) (fun c436 => ?_)
                    · skip
                      exfalso; omega
                    · skip
                      refine r_ex hX hP 1 (pc' := 88) (st' := [(0, (-1))]) (lo' := [(0, (2, this)), (1, (0, frm)), (2, (0, to_)), (3, (0, day)), (4, (0, m)), (5, (0, n)), (6, (0, sure)), (7, (0, 1))]) rfl ?_
                      exact r_retI hX hP rfl rfl (by first | decide | omega) (by first | decide | omega) ⟨rfl, ⟨_, (hw_sub (hw_refl _ _) rfl).symm⟩, (-1), rfl, (by first | decide | omega)⟩
                  · skip
                    exfalso; omega
                · skip
                  exfalso; omega
                · skip
                  exfalso; omega
                · skip
                  exfalso; omega
                · skip
                  exfalso; omega
            · skip
              exfalso; omega
        · skip
          exfalso; omega
  · skip
    refine r_if_eq hX hP rfl (tgt := 31) rfl (by first | decide | omega) (by first | decide | omega) (fun c437 => ?_) (fun c437 => ?_)
    · skip
      refine r_ex hX hP 5 (pc' := 40) (st' := [(0, frm), (2, this)]) (lo' := [(0, (2, this)), (1, (0, frm)), (2, (0, to_)), (3, (0, day)), (4, (0, m)), (5, (0, n)), (6, (0, sure)), (7, (0, 1))]) rfl ?_
      refine r_callS gd hX hP rfl cs_X11_120 (d' := 1) (mc' := 0) (ms' := 0) (as' := [(0, frm)]) (st := [(2, this)]) (by first | decide | omega) (by first | decide | omega) (by first | decide | omega) rfl rfl (Nat.le_of_ble_eq_true rfl) (c_X11_isPaper E S G frm (by first | decide | omega) (by first | decide | omega)) ?_
      rintro _ _ _ ⟨rfl, rfl, z438, rfl, (⟨rfl, f439, f440⟩ | rfl)⟩
      · skip
        refine r_if_eq hX hP rfl (tgt := 53) rfl (by first | decide | omega) (by first | decide | omega) (fun c441 => ?_) (fun c441 => ?_)
        · skip
          exfalso; omega
        · skip
          refine r_ex hX hP 1 (pc' := 47) (st' := [(0, to_), (2, this)]) (lo' := [(0, (2, this)), (1, (0, frm)), (2, (0, to_)), (3, (0, day)), (4, (0, m)), (5, (0, n)), (6, (0, sure)), (7, (0, 1))]) rfl ?_
          refine r_callS gd hX hP rfl cs_X11_120 (d' := 1) (mc' := 0) (ms' := 0) (as' := [(0, to_)]) (st := [(2, this)]) (by first | decide | omega) (by first | decide | omega) (by first | decide | omega) rfl rfl (Nat.le_of_ble_eq_true rfl) (c_X11_isPaper E S G to_ (by first | decide | omega) (by first | decide | omega)) ?_
          rintro _ _ _ ⟨rfl, rfl, z442, rfl, (⟨rfl, f443, f444⟩ | rfl)⟩
          · skip
            refine r_if_ne hX hP rfl (tgt := 57) rfl (by first | decide | omega) (by first | decide | omega) (fun c445 => ?_) (fun c445 => ?_)
            · skip
              refine r_ex hX hP 3 (pc' := 61) (st' := [(2, this), (0, 1), (0, 0), (2, this)]) (lo' := [(0, (2, this)), (1, (0, frm)), (2, (0, to_)), (3, (0, day)), (4, (0, m)), (5, (0, n)), (6, (0, sure)), (7, (0, 1))]) rfl ?_
              refine r_getR hX hP rfl fl_X11_78_128 hS (fun rf446 rf446e rf446s => ?_)
              refine r_getI hX hP rfl fl_X11_420_132 rf446s (fun cf447 cf447e cf447a cf447b => ?_)
              refine r_ex hX hP 1 (pc' := 69) (st' := [(0, 12), (0, cf447), (0, 1), (0, 0), (2, this)]) (lo' := [(0, (2, this)), (1, (0, frm)), (2, (0, to_)), (3, (0, day)), (4, (0, m)), (5, (0, n)), (6, (0, sure)), (7, (0, 1))]) rfl ?_
              refine r_ic_lt hX hP rfl (tgt := 76) rfl (by first | decide | omega) (by first | decide | omega) (by first | decide | omega) (by first | decide | omega) (fun c448 => ?_) (fun c448 => ?_)
              · skip
                refine r_ex hX hP 2 (pc' := 78) (st' := [(0, 0), (0, 0), (0, 1), (0, 0), (2, this)]) (lo' := [(0, (2, this)), (1, (0, frm)), (2, (0, to_)), (3, (0, day)), (4, (0, m)), (5, (0, n)), (6, (0, sure)), (7, (0, 1))]) rfl ?_
                refine r_callS gd hX hP rfl cs_X11_112 (d' := 0) (mc' := 0) (ms' := 0) (as' := [(0, 0), (0, 1), (0, 0), (0, 0)]) (st := [(2, this)]) (by first | decide | omega) (by first | decide | omega) (by first | decide | omega) rfl rfl (Nat.le_of_ble_eq_true rfl) (c_X11_first E S G 0 1 0 0 (by first | decide | omega) (by first | decide | omega) (by first | decide | omega) (by first | decide | omega) (by first | decide | omega) (by first | decide | omega) (by first | decide | omega) (by first | decide | omega)) ?_
                rintro _ _ _ ⟨rfl, rfl, z449, rfl, (⟨rfl, f450⟩ | ⟨rfl, f451, f452⟩ | ⟨rfl, f453, f454, f455⟩ | ⟨rfl, f456, f457, f458, f459⟩ | ⟨rfl, f460, f461, f462, f463⟩)⟩
                · skip
                  exfalso; omega
                · skip
                  refine r_callV gd hX hP rfl cv_X11_90_128 hS (d' := 0) (mc' := 0) (ms' := 0) (as' := [(0, 2)]) (st := []) (by first | decide | omega) (by first | decide | omega) (by first | decide | omega) rfl rfl (Nat.le_of_ble_eq_true rfl) (c_X11_refused E S G this 2 hS (by first | decide | omega) (by first | decide | omega)) ?_
                  rintro _ _ _ ⟨rfl, ⟨G464, rfl⟩, z465, rfl, (⟨rfl, f466⟩ | ⟨rfl, f467⟩)⟩
                  · skip
                    refine r_if_eq hX hP rfl (tgt := 89) rfl (by first | decide | omega) (by first | decide | omega) (fun c468 => ?_) (fun c468 => ?_)
                    · skip
                      exfalso; omega
                    · skip
                      refine r_ex hX hP 1 (pc' := 88) (st' := [(0, (-1))]) (lo' := [(0, (2, this)), (1, (0, frm)), (2, (0, to_)), (3, (0, day)), (4, (0, m)), (5, (0, n)), (6, (0, sure)), (7, (0, 1))]) rfl ?_
                      exact r_retI hX hP rfl rfl (by first | decide | omega) (by first | decide | omega) ⟨rfl, ⟨_, (hw_sub (hw_refl _ _) rfl).symm⟩, (-1), rfl, (by first | decide | omega)⟩
                  · skip
                    exfalso; omega
                · skip
                  exfalso; omega
                · skip
                  exfalso; omega
                · skip
                  exfalso; omega
              · skip
                refine r_ex hX hP 3 (pc' := 78) (st' := [(0, 0), (0, 1), (0, 1), (0, 0), (2, this)]) (lo' := [(0, (2, this)), (1, (0, frm)), (2, (0, to_)), (3, (0, day)), (4, (0, m)), (5, (0, n)), (6, (0, sure)), (7, (0, 1))]) rfl ?_
                refine r_callS gd hX hP rfl cs_X11_112 (d' := 0) (mc' := 0) (ms' := 0) (as' := [(0, 0), (0, 1), (0, 1), (0, 0)]) (st := [(2, this)]) (by first | decide | omega) (by first | decide | omega) (by first | decide | omega) rfl rfl (Nat.le_of_ble_eq_true rfl) (c_X11_first E S G 0 1 1 0 (by first | decide | omega) (by first | decide | omega) (by first | decide | omega) (by first | decide | omega) (by first | decide | omega) (by first | decide | omega) (by first | decide | omega) (by first | decide | omega)) ?_
                rintro _ _ _ ⟨rfl, rfl, z469, rfl, (⟨rfl, f470⟩ | ⟨rfl, f471, f472⟩ | ⟨rfl, f473, f474, f475⟩ | ⟨rfl, f476, f477, f478, f479⟩ | ⟨rfl, f480, f481, f482, f483⟩)⟩
                · skip
                  exfalso; omega
                · skip
                  refine r_callV gd hX hP rfl cv_X11_90_128 hS (d' := 0) (mc' := 0) (ms' := 0) (as' := [(0, 2)]) (st := []) (by first | decide | omega) (by first | decide | omega) (by first | decide | omega) rfl rfl (Nat.le_of_ble_eq_true rfl) (c_X11_refused E S G this 2 hS (by first | decide | omega) (by first | decide | omega)) ?_
                  rintro _ _ _ ⟨rfl, ⟨G484, rfl⟩, z485, rfl, (⟨rfl, f486⟩ | ⟨rfl, f487⟩)⟩
                  · skip
                    refine r_if_eq hX hP rfl (tgt := 89) rfl (by first | decide | omega) (by first | decide | omega) (fun c488 => ?_) (fun c488 => ?_)
                    · skip
                      exfalso; omega
                    · skip
                      refine r_ex hX hP 1 (pc' := 88) (st' := [(0, (-1))]) (lo' := [(0, (2, this)), (1, (0, frm)), (2, (0, to_)), (3, (0, day)), (4, (0, m)), (5, (0, n)), (6, (0, sure)), (7, (0, 1))]) rfl ?_
                      exact r_retI hX hP rfl rfl (by first | decide | omega) (by first | decide | omega) ⟨rfl, ⟨_, (hw_sub (hw_refl _ _) rfl).symm⟩, (-1), rfl, (by first | decide | omega)⟩
                  · skip
                    exfalso; omega
                · skip
                  exfalso; omega
                · skip
                  exfalso; omega
                · skip
                  exfalso; omega
            · skip
              exfalso; omega
          · skip
            refine r_if_ne hX hP rfl (tgt := 57) rfl (by first | decide | omega) (by first | decide | omega) (fun c489 => ?_) (fun c489 => ?_)
            · skip
              exfalso; omega
            · skip
              refine r_ex hX hP 4 (pc' := 61) (st' := [(2, this), (0, 1), (0, 1), (2, this)]) (lo' := [(0, (2, this)), (1, (0, frm)), (2, (0, to_)), (3, (0, day)), (4, (0, m)), (5, (0, n)), (6, (0, sure)), (7, (0, 1))]) rfl ?_
              refine r_getR hX hP rfl fl_X11_78_128 hS (fun rf490 rf490e rf490s => ?_)
              refine r_getI hX hP rfl fl_X11_420_132 rf490s (fun cf491 cf491e cf491a cf491b => ?_)
              refine r_ex hX hP 1 (pc' := 69) (st' := [(0, 12), (0, cf491), (0, 1), (0, 1), (2, this)]) (lo' := [(0, (2, this)), (1, (0, frm)), (2, (0, to_)), (3, (0, day)), (4, (0, m)), (5, (0, n)), (6, (0, sure)), (7, (0, 1))]) rfl ?_
              refine r_ic_lt hX hP rfl (tgt := 76) rfl (by first | decide | omega) (by first | decide | omega) (by first | decide | omega) (by first | decide | omega) (fun c492 => ?_) (fun c492 => ?_)
              · skip
                refine r_ex hX hP 2 (pc' := 78) (st' := [(0, 0), (0, 0), (0, 1), (0, 1), (2, this)]) (lo' := [(0, (2, this)), (1, (0, frm)), (2, (0, to_)), (3, (0, day)), (4, (0, m)), (5, (0, n)), (6, (0, sure)), (7, (0, 1))]) rfl ?_
                refine r_callS gd hX hP rfl cs_X11_112 (d' := 0) (mc' := 0) (ms' := 0) (as' := [(0, 1), (0, 1), (0, 0), (0, 0)]) (st := [(2, this)]) (by first | decide | omega) (by first | decide | omega) (by first | decide | omega) rfl rfl (Nat.le_of_ble_eq_true rfl) (c_X11_first E S G 1 1 0 0 (by first | decide | omega) (by first | decide | omega) (by first | decide | omega) (by first | decide | omega) (by first | decide | omega) (by first | decide | omega) (by first | decide | omega) (by first | decide | omega)) ?_
                rintro _ _ _ ⟨rfl, rfl, z493, rfl, (⟨rfl, f494⟩ | ⟨rfl, f495, f496⟩ | ⟨rfl, f497, f498, f499⟩ | ⟨rfl, f500, f501, f502, f503⟩ | ⟨rfl, f504, f505, f506, f507⟩)⟩
                · skip
                  refine r_callV gd hX hP rfl cv_X11_90_128 hS (d' := 0) (mc' := 0) (ms' := 0) (as' := [(0, 1)]) (st := []) (by first | decide | omega) (by first | decide | omega) (by first | decide | omega) rfl rfl (Nat.le_of_ble_eq_true rfl) (c_X11_refused E S G this 1 hS (by first | decide | omega) (by first | decide | omega)) ?_
                  rintro _ _ _ ⟨rfl, ⟨G508, rfl⟩, z509, rfl, (⟨rfl, f510⟩ | ⟨rfl, f511⟩)⟩
                  · skip
                    refine r_if_eq hX hP rfl (tgt := 89) rfl (by first | decide | omega) (by first | decide | omega) (fun c512 => ?_) (fun c512 => ?_)
                    · skip
                      exfalso; omega
                    · skip
                      refine r_ex hX hP 1 (pc' := 88) (st' := [(0, (-1))]) (lo' := [(0, (2, this)), (1, (0, frm)), (2, (0, to_)), (3, (0, day)), (4, (0, m)), (5, (0, n)), (6, (0, sure)), (7, (0, 1))]) rfl ?_
                      exact r_retI hX hP rfl rfl (by first | decide | omega) (by first | decide | omega) ⟨rfl, ⟨_, (hw_sub (hw_refl _ _) rfl).symm⟩, (-1), rfl, (by first | decide | omega)⟩
                  · skip
                    exfalso; omega
                · skip
                  exfalso; omega
                · skip
                  exfalso; omega
                · skip
                  exfalso; omega
                · skip
                  exfalso; omega
              · skip
                refine r_ex hX hP 3 (pc' := 78) (st' := [(0, 0), (0, 1), (0, 1), (0, 1), (2, this)]) (lo' := [(0, (2, this)), (1, (0, frm)), (2, (0, to_)), (3, (0, day)), (4, (0, m)), (5, (0, n)), (6, (0, sure)), (7, (0, 1))]) rfl ?_
                refine r_callS gd hX hP rfl cs_X11_112 (d' := 0) (mc' := 0) (ms' := 0) (as' := [(0, 1), (0, 1), (0, 1), (0, 0)]) (st := [(2, this)]) (by first | decide | omega) (by first | decide | omega) (by first | decide | omega) rfl rfl (Nat.le_of_ble_eq_true rfl) (c_X11_first E S G 1 1 1 0 (by first | decide | omega) (by first | decide | omega) (by first | decide | omega) (by first | decide | omega) (by first | decide | omega) (by first | decide | omega) (by first | decide | omega) (by first | decide | omega)) ?_
                rintro _ _ _ ⟨rfl, rfl, z513, rfl, (⟨rfl, f514⟩ | ⟨rfl, f515, f516⟩ | ⟨rfl, f517, f518, f519⟩ | ⟨rfl, f520, f521, f522, f523⟩ | ⟨rfl, f524, f525, f526, f527⟩)⟩
                · skip
                  refine r_callV gd hX hP rfl cv_X11_90_128 hS (d' := 0) (mc' := 0) (ms' := 0) (as' := [(0, 1)]) (st := []) (by first | decide | omega) (by first | decide | omega) (by first | decide | omega) rfl rfl (Nat.le_of_ble_eq_true rfl) (c_X11_refused E S G this 1 hS (by first | decide | omega) (by first | decide | omega)) ?_
                  rintro _ _ _ ⟨rfl, ⟨G528, rfl⟩, z529, rfl, (⟨rfl, f530⟩ | ⟨rfl, f531⟩)⟩
                  · skip
                    refine r_if_eq hX hP rfl (tgt := 89) rfl (by first | decide | omega) (by first | decide | omega) (fun c532 => ?_) (fun c532 => ?_)
                    · skip
                      exfalso; omega
                    · skip
                      refine r_ex hX hP 1 (pc' := 88) (st' := [(0, (-1))]) (lo' := [(0, (2, this)), (1, (0, frm)), (2, (0, to_)), (3, (0, day)), (4, (0, m)), (5, (0, n)), (6, (0, sure)), (7, (0, 1))]) rfl ?_
                      exact r_retI hX hP rfl rfl (by first | decide | omega) (by first | decide | omega) ⟨rfl, ⟨_, (hw_sub (hw_refl _ _) rfl).symm⟩, (-1), rfl, (by first | decide | omega)⟩
                  · skip
                    exfalso; omega
                · skip
                  exfalso; omega
                · skip
                  exfalso; omega
                · skip
                  exfalso; omega
                · skip
                  exfalso; omega
      · skip
        refine r_if_eq hX hP rfl (tgt := 53) rfl (by first | decide | omega) (by first | decide | omega) (fun c533 => ?_) (fun c533 => ?_)
        · skip
          refine r_ex hX hP 4 (pc' := 61) (st' := [(2, this), (0, 1), (0, 1), (2, this)]) (lo' := [(0, (2, this)), (1, (0, frm)), (2, (0, to_)), (3, (0, day)), (4, (0, m)), (5, (0, n)), (6, (0, sure)), (7, (0, 1))]) rfl ?_
          refine r_getR hX hP rfl fl_X11_78_128 hS (fun rf534 rf534e rf534s => ?_)
          refine r_getI hX hP rfl fl_X11_420_132 rf534s (fun cf535 cf535e cf535a cf535b => ?_)
          refine r_ex hX hP 1 (pc' := 69) (st' := [(0, 12), (0, cf535), (0, 1), (0, 1), (2, this)]) (lo' := [(0, (2, this)), (1, (0, frm)), (2, (0, to_)), (3, (0, day)), (4, (0, m)), (5, (0, n)), (6, (0, sure)), (7, (0, 1))]) rfl ?_
          refine r_ic_lt hX hP rfl (tgt := 76) rfl (by first | decide | omega) (by first | decide | omega) (by first | decide | omega) (by first | decide | omega) (fun c536 => ?_) (fun c536 => ?_)
          · skip
            refine r_ex hX hP 2 (pc' := 78) (st' := [(0, 0), (0, 0), (0, 1), (0, 1), (2, this)]) (lo' := [(0, (2, this)), (1, (0, frm)), (2, (0, to_)), (3, (0, day)), (4, (0, m)), (5, (0, n)), (6, (0, sure)), (7, (0, 1))]) rfl ?_
            refine r_callS gd hX hP rfl cs_X11_112 (d' := 0) (mc' := 0) (ms' := 0) (as' := [(0, 1), (0, 1), (0, 0), (0, 0)]) (st := [(2, this)]) (by first | decide | omega) (by first | decide | omega) (by first | decide | omega) rfl rfl (Nat.le_of_ble_eq_true rfl) (c_X11_first E S G 1 1 0 0 (by first | decide | omega) (by first | decide | omega) (by first | decide | omega) (by first | decide | omega) (by first | decide | omega) (by first | decide | omega) (by first | decide | omega) (by first | decide | omega)) ?_
            rintro _ _ _ ⟨rfl, rfl, z537, rfl, (⟨rfl, f538⟩ | ⟨rfl, f539, f540⟩ | ⟨rfl, f541, f542, f543⟩ | ⟨rfl, f544, f545, f546, f547⟩ | ⟨rfl, f548, f549, f550, f551⟩)⟩
            · skip
              refine r_callV gd hX hP rfl cv_X11_90_128 hS (d' := 0) (mc' := 0) (ms' := 0) (as' := [(0, 1)]) (st := []) (by first | decide | omega) (by first | decide | omega) (by first | decide | omega) rfl rfl (Nat.le_of_ble_eq_true rfl) (c_X11_refused E S G this 1 hS (by first | decide | omega) (by first | decide | omega)) ?_
              rintro _ _ _ ⟨rfl, ⟨G552, rfl⟩, z553, rfl, (⟨rfl, f554⟩ | ⟨rfl, f555⟩)⟩
              · skip
                refine r_if_eq hX hP rfl (tgt := 89) rfl (by first | decide | omega) (by first | decide | omega) (fun c556 => ?_) (fun c556 => ?_)
                · skip
                  exfalso; omega
                · skip
                  refine r_ex hX hP 1 (pc' := 88) (st' := [(0, (-1))]) (lo' := [(0, (2, this)), (1, (0, frm)), (2, (0, to_)), (3, (0, day)), (4, (0, m)), (5, (0, n)), (6, (0, sure)), (7, (0, 1))]) rfl ?_
                  exact r_retI hX hP rfl rfl (by first | decide | omega) (by first | decide | omega) ⟨rfl, ⟨_, (hw_sub (hw_refl _ _) rfl).symm⟩, (-1), rfl, (by first | decide | omega)⟩
              · skip
                exfalso; omega
            · skip
              exfalso; omega
            · skip
              exfalso; omega
            · skip
              exfalso; omega
            · skip
              exfalso; omega
          · skip
            refine r_ex hX hP 3 (pc' := 78) (st' := [(0, 0), (0, 1), (0, 1), (0, 1), (2, this)]) (lo' := [(0, (2, this)), (1, (0, frm)), (2, (0, to_)), (3, (0, day)), (4, (0, m)), (5, (0, n)), (6, (0, sure)), (7, (0, 1))]) rfl ?_
            refine r_callS gd hX hP rfl cs_X11_112 (d' := 0) (mc' := 0) (ms' := 0) (as' := [(0, 1), (0, 1), (0, 1), (0, 0)]) (st := [(2, this)]) (by first | decide | omega) (by first | decide | omega) (by first | decide | omega) rfl rfl (Nat.le_of_ble_eq_true rfl) (c_X11_first E S G 1 1 1 0 (by first | decide | omega) (by first | decide | omega) (by first | decide | omega) (by first | decide | omega) (by first | decide | omega) (by first | decide | omega) (by first | decide | omega) (by first | decide | omega)) ?_
            rintro _ _ _ ⟨rfl, rfl, z557, rfl, (⟨rfl, f558⟩ | ⟨rfl, f559, f560⟩ | ⟨rfl, f561, f562, f563⟩ | ⟨rfl, f564, f565, f566, f567⟩ | ⟨rfl, f568, f569, f570, f571⟩)⟩
            · skip
              refine r_callV gd hX hP rfl cv_X11_90_128 hS (d' := 0) (mc' := 0) (ms' := 0) (as' := [(0, 1)]) (st := []) (by first | decide | omega) (by first | decide | omega) (by first | decide | omega) rfl rfl (Nat.le_of_ble_eq_true rfl) (c_X11_refused E S G this 1 hS (by first | decide | omega) (by first | decide | omega)) ?_
              rintro _ _ _ ⟨rfl, ⟨G572, rfl⟩, z573, rfl, (⟨rfl, f574⟩ | ⟨rfl, f575⟩)⟩
              · skip
                refine r_if_eq hX hP rfl (tgt := 89) rfl (by first | decide | omega) (by first | decide | omega) (fun c576 => ?_) (fun c576 => ?_)
                · skip
                  exfalso; omega
                · skip
                  refine r_ex hX hP 1 (pc' := 88) (st' := [(0, (-1))]) (lo' := [(0, (2, this)), (1, (0, frm)), (2, (0, to_)), (3, (0, day)), (4, (0, m)), (5, (0, n)), (6, (0, sure)), (7, (0, 1))]) rfl ?_
                  exact r_retI hX hP rfl rfl (by first | decide | omega) (by first | decide | omega) ⟨rfl, ⟨_, (hw_sub (hw_refl _ _) rfl).symm⟩, (-1), rfl, (by first | decide | omega)⟩
              · skip
                exfalso; omega
            · skip
              exfalso; omega
            · skip
              exfalso; omega
            · skip
              exfalso; omega
            · skip
              exfalso; omega
        · skip
          exfalso; omega
    · skip
      exfalso; omega
set_option maxRecDepth 100000 in
set_option maxHeartbeats 4000000 in
theorem c_X11_explain (E : En) (S : Sg) (G : Gh) (this : Int) (paper : Int) (shares : Int) (day : Int) (now : Int) (has : Int) (later : Int) (hS : S this = 128) (paper_a : (-2147483648) ≤ paper) (paper_b : paper ≤ 2147483647) (shares_a : (-2147483648) ≤ shares) (shares_b : shares ≤ 2147483647) (day_a : (-2147483648) ≤ day) (day_b : day ≤ 2147483647) (now_a : (-2147483648) ≤ now) (now_b : now ≤ 2147483647) (has_a : (-2147483648) ≤ has) (has_b : has ≤ 2147483647) (later_a : (-2147483648) ≤ later) (later_b : later ≤ 2147483647) : Calls E mX11_explain [(2, this), (0, paper), (0, shares), (0, day), (0, now), (0, has), (0, later)] S G 3 0 0 (fun r S' G' => S = S' ∧ (∃ G1, hw [(111, -1), (112, -1), (113, -1), (128, 0), (132, 1), (132, 2), (132, 3), (132, 4), (132, 12)] G G1 = G') ∧ ∃ z : Int, r = some (0, z) ∧ (-2147483648) ≤ z ∧ z ≤ 2147483647) := by
  refine calls_by [(0, (2, this)), (1, (0, paper)), (2, (0, shares)), (3, (0, day)), (4, (0, now)), (5, (0, has)), (6, (0, later))] rfl rfl (Nat.le_of_ble_eq_true rfl) (fun X hX => ?_)
  have hP := hPX11_explain
  refine r_ex hX hP 2 (pc' := 2) (st' := [(0, 1), (0, shares)]) (lo' := [(0, (2, this)), (1, (0, paper)), (2, (0, shares)), (3, (0, day)), (4, (0, now)), (5, (0, has)), (6, (0, later))]) rfl ?_
  refine r_ldc hX hP rfl (v := 1000000) (tbg sg3 10 rfl rfl) ?_
  refine r_callS gd hX hP rfl cs_X11_103 (d' := 0) (mc' := 0) (ms' := 0) (as' := [(0, shares), (0, 1), (0, 1000000)]) (st := []) (by first | decide | omega) (by first | decide | omega) (by first | decide | omega) rfl rfl (Nat.le_of_ble_eq_true rfl) (c_X11_within E S G shares 1 1000000 (by first | decide | omega) (by first | decide | omega) (by first | decide | omega) (by first | decide | omega) (by first | decide | omega) (by first | decide | omega)) ?_
  rintro _ _ _ ⟨rfl, rfl, z1, rfl, (⟨rfl, f2, f3⟩ | ⟨rfl, f4⟩)⟩
  · skip
    refine r_if_eq hX hP rfl (tgt := 31) rfl (by first | decide | omega) (by first | decide | omega) (fun c5 => ?_) (fun c5 => ?_)
    · skip
      exfalso; omega
    · skip
      refine r_ex hX hP 1 (pc' := 11) (st' := [(0, day)]) (lo' := [(0, (2, this)), (1, (0, paper)), (2, (0, shares)), (3, (0, day)), (4, (0, now)), (5, (0, has)), (6, (0, later))]) rfl ?_
      refine r_callS gd hX hP rfl cs_X11_86 (d' := 1) (mc' := 0) (ms' := 0) (as' := [(0, day)]) (st := []) (by first | decide | omega) (by first | decide | omega) (by first | decide | omega) rfl rfl (Nat.le_of_ble_eq_true rfl) (c_X11_isDay E S G day (by first | decide | omega) (by first | decide | omega)) ?_
      rintro _ _ _ ⟨rfl, rfl, z6, rfl, (⟨rfl, f7, f8⟩ | ⟨rfl, f9⟩)⟩
      · skip
        refine r_if_eq hX hP rfl (tgt := 31) rfl (by first | decide | omega) (by first | decide | omega) (fun c10 => ?_) (fun c10 => ?_)
        · skip
          exfalso; omega
        · skip
          refine r_ex hX hP 1 (pc' := 19) (st' := [(0, later)]) (lo' := [(0, (2, this)), (1, (0, paper)), (2, (0, shares)), (3, (0, day)), (4, (0, now)), (5, (0, has)), (6, (0, later))]) rfl ?_
          refine r_callS gd hX hP rfl cs_X11_86 (d' := 1) (mc' := 0) (ms' := 0) (as' := [(0, later)]) (st := []) (by first | decide | omega) (by first | decide | omega) (by first | decide | omega) rfl rfl (Nat.le_of_ble_eq_true rfl) (c_X11_isDay E S G later (by first | decide | omega) (by first | decide | omega)) ?_
          rintro _ _ _ ⟨rfl, rfl, z11, rfl, (⟨rfl, f12, f13⟩ | ⟨rfl, f14⟩)⟩
          · skip
            refine r_if_eq hX hP rfl (tgt := 31) rfl (by first | decide | omega) (by first | decide | omega) (fun c15 => ?_) (fun c15 => ?_)
            · skip
              exfalso; omega
            · skip
              refine r_ex hX hP 2 (pc' := 28) (st' := [(0, day), (0, later)]) (lo' := [(0, (2, this)), (1, (0, paper)), (2, (0, shares)), (3, (0, day)), (4, (0, now)), (5, (0, has)), (6, (0, later))]) rfl ?_
              refine r_ic_gt hX hP rfl (tgt := 35) rfl (by first | decide | omega) (by first | decide | omega) (by first | decide | omega) (by first | decide | omega) (fun c16 => ?_) (fun c16 => ?_)
              · skip
                refine r_ex hX hP 4 (pc' := 40) (st' := [(0, paper), (2, this)]) (lo' := [(0, (2, this)), (1, (0, paper)), (2, (0, shares)), (3, (0, day)), (4, (0, now)), (5, (0, has)), (6, (0, later)), (7, (0, 0))]) rfl ?_
                refine r_callS gd hX hP rfl cs_X11_120 (d' := 1) (mc' := 0) (ms' := 0) (as' := [(0, paper)]) (st := [(2, this)]) (by first | decide | omega) (by first | decide | omega) (by first | decide | omega) rfl rfl (Nat.le_of_ble_eq_true rfl) (c_X11_isPaper E S G paper (by first | decide | omega) (by first | decide | omega)) ?_
                rintro _ _ _ ⟨rfl, rfl, z17, rfl, (⟨rfl, f18, f19⟩ | rfl)⟩
                · skip
                  refine r_if_eq hX hP rfl (tgt := 54) rfl (by first | decide | omega) (by first | decide | omega) (fun c20 => ?_) (fun c20 => ?_)
                  · skip
                    exfalso; omega
                  · skip
                    refine r_ex hX hP 1 (pc' := 48) (st' := [(0, now), (2, this)]) (lo' := [(0, (2, this)), (1, (0, paper)), (2, (0, shares)), (3, (0, day)), (4, (0, now)), (5, (0, has)), (6, (0, later)), (7, (0, 0))]) rfl ?_
                    refine r_callS gd hX hP rfl cs_X11_120 (d' := 1) (mc' := 0) (ms' := 0) (as' := [(0, now)]) (st := [(2, this)]) (by first | decide | omega) (by first | decide | omega) (by first | decide | omega) rfl rfl (Nat.le_of_ble_eq_true rfl) (c_X11_isPaper E S G now (by first | decide | omega) (by first | decide | omega)) ?_
                    rintro _ _ _ ⟨rfl, rfl, z21, rfl, (⟨rfl, f22, f23⟩ | rfl)⟩
                    · skip
                      refine r_if_ne hX hP rfl (tgt := 58) rfl (by first | decide | omega) (by first | decide | omega) (fun c24 => ?_) (fun c24 => ?_)
                      · skip
                        refine r_ex hX hP 4 (pc' := 63) (st' := [(0, 0), (0, 0), (0, 0), (0, 0), (2, this)]) (lo' := [(0, (2, this)), (1, (0, paper)), (2, (0, shares)), (3, (0, day)), (4, (0, now)), (5, (0, has)), (6, (0, later)), (7, (0, 0))]) rfl ?_
                        refine r_callS gd hX hP rfl cs_X11_112 (d' := 0) (mc' := 0) (ms' := 0) (as' := [(0, 0), (0, 0), (0, 0), (0, 0)]) (st := [(2, this)]) (by first | decide | omega) (by first | decide | omega) (by first | decide | omega) rfl rfl (Nat.le_of_ble_eq_true rfl) (c_X11_first E S G 0 0 0 0 (by first | decide | omega) (by first | decide | omega) (by first | decide | omega) (by first | decide | omega) (by first | decide | omega) (by first | decide | omega) (by first | decide | omega) (by first | decide | omega)) ?_
                        rintro _ _ _ ⟨rfl, rfl, z25, rfl, (⟨rfl, f26⟩ | ⟨rfl, f27, f28⟩ | ⟨rfl, f29, f30, f31⟩ | ⟨rfl, f32, f33, f34, f35⟩ | ⟨rfl, f36, f37, f38, f39⟩)⟩
                        · skip
                          exfalso; omega
                        · skip
                          exfalso; omega
                        · skip
                          exfalso; omega
                        · skip
                          exfalso; omega
                        · skip
                          refine r_callV gd hX hP rfl cv_X11_90_128 hS (d' := 0) (mc' := 0) (ms' := 0) (as' := [(0, 0)]) (st := []) (by first | decide | omega) (by first | decide | omega) (by first | decide | omega) rfl rfl (Nat.le_of_ble_eq_true rfl) (c_X11_refused E S G this 0 hS (by first | decide | omega) (by first | decide | omega)) ?_
                          rintro _ _ _ ⟨rfl, ⟨G40, rfl⟩, z41, rfl, (⟨rfl, f42⟩ | ⟨rfl, f43⟩)⟩
                          · skip
                            exfalso; omega
                          · skip
                            refine r_if_eq hX hP rfl (tgt := 74) rfl (by first | decide | omega) (by first | decide | omega) (fun c44 => ?_) (fun c44 => ?_)
                            · skip
                              refine r_ex hX hP 1 (pc' := 75) (st' := [(2, this)]) (lo' := [(0, (2, this)), (1, (0, paper)), (2, (0, shares)), (3, (0, day)), (4, (0, now)), (5, (0, has)), (6, (0, later)), (7, (0, 0))]) rfl ?_
                              refine r_getR hX hP rfl fl_X11_78_128 hS (fun rf45 rf45e rf45s => ?_)
                              refine r_ex hX hP 6 (pc' := 87) (st' := [(0, later), (0, has), (0, now), (0, day), (0, shares), (0, paper), (2, rf45)]) (lo' := [(0, (2, this)), (1, (0, paper)), (2, (0, shares)), (3, (0, day)), (4, (0, now)), (5, (0, has)), (6, (0, later)), (7, (0, 0))]) rfl ?_
                              refine r_callV gd hX hP rfl cv_X11_424_132 rf45s (d' := 2) (mc' := 0) (ms' := 0) (as' := [(0, paper), (0, shares), (0, day), (0, now), (0, has), (0, later)]) (st := []) (by first | decide | omega) (by first | decide | omega) (by first | decide | omega) rfl rfl (Nat.le_of_ble_eq_true rfl) (c_X7_solve E S (hw [(128, 0)] G G40) rf45 paper shares day now has later rf45s (by first | decide | omega) (by first | decide | omega) (by first | decide | omega) (by first | decide | omega) (by first | decide | omega) (by first | decide | omega) (by first | decide | omega) (by first | decide | omega) (by first | decide | omega) (by first | decide | omega) (by first | decide | omega) (by first | decide | omega)) ?_
                              rintro _ _ _ ⟨rfl, ⟨G46, rfl⟩, rfl, -⟩
                              refine r_ex hX hP 2 (pc' := 92) (st' := [(2, this), (2, this)]) (lo' := [(0, (2, this)), (1, (0, paper)), (2, (0, shares)), (3, (0, day)), (4, (0, now)), (5, (0, has)), (6, (0, later)), (7, (0, 0))]) rfl ?_
                              refine r_getKR hX hP rfl fl_X11_78_128 hS (x := rf45) rf45e ?_
                              refine r_getI hX hP rfl fl_X11_428_132 rf45s (fun wf47 wf47e wf47a wf47b => ?_)
                              refine r_if_ne hX hP rfl (tgt := 105) rfl (by first | decide | omega) (by first | decide | omega) (fun c48 => ?_) (fun c48 => ?_)
                              · skip
                                refine r_ex hX hP 1 (pc' := 106) (st' := [(0, 0), (2, this)]) (lo' := [(0, (2, this)), (1, (0, paper)), (2, (0, shares)), (3, (0, day)), (4, (0, now)), (5, (0, has)), (6, (0, later)), (7, (0, 0))]) rfl ?_
                                refine r_callV gd hX hP rfl cv_X11_90_128 hS (d' := 0) (mc' := 0) (ms' := 0) (as' := [(0, 0)]) (st := []) (by first | decide | omega) (by first | decide | omega) (by first | decide | omega) rfl rfl (Nat.le_of_ble_eq_true rfl) (c_X11_refused E S (hw [(111, -1), (112, -1), (113, -1), (132, 1), (132, 4), (132, 12)] (hw [(128, 0)] G G40) G46) this 0 hS (by first | decide | omega) (by first | decide | omega)) ?_
                                rintro _ _ _ ⟨rfl, ⟨G49, rfl⟩, z50, rfl, (⟨rfl, f51⟩ | ⟨rfl, f52⟩)⟩
                                · skip
                                  exfalso; omega
                                · skip
                                  refine r_if_eq hX hP rfl (tgt := 114) rfl (by first | decide | omega) (by first | decide | omega) (fun c53 => ?_) (fun c53 => ?_)
                                  · skip
                                    refine r_ex hX hP 1 (pc' := 115) (st' := [(2, this)]) (lo' := [(0, (2, this)), (1, (0, paper)), (2, (0, shares)), (3, (0, day)), (4, (0, now)), (5, (0, has)), (6, (0, later)), (7, (0, 0))]) rfl ?_
                                    refine r_getKR hX hP rfl fl_X11_78_128 hS (x := rf45) rf45e ?_
                                    refine r_callV gd hX hP rfl cv_X11_431_132 rf45s (d' := 0) (mc' := 0) (ms' := 0) (as' := []) (st := []) (by first | decide | omega) (by first | decide | omega) (by first | decide | omega) rfl rfl (Nat.le_of_ble_eq_true rfl) (c_X7_keep E S (hw [(128, 0)] (hw [(111, -1), (112, -1), (113, -1), (132, 1), (132, 4), (132, 12)] (hw [(128, 0)] G G40) G46) G49) rf45  rf45s) ?_
                                    rintro _ _ _ ⟨rfl, ⟨G54, rfl⟩, rfl, -⟩
                                    refine r_ex hX hP 1 (pc' := 122) (st' := [(2, this)]) (lo' := [(0, (2, this)), (1, (0, paper)), (2, (0, shares)), (3, (0, day)), (4, (0, now)), (5, (0, has)), (6, (0, later)), (7, (0, 0))]) rfl ?_
                                    refine r_getKR hX hP rfl fl_X11_78_128 hS (x := rf45) rf45e ?_
                                    refine r_getI hX hP rfl fl_X11_434_132 rf45s (fun kf55 kf55e kf55a kf55b => ?_)
                                    refine r_callS gd hX hP rfl cs_X11_437 (d' := 0) (mc' := 0) (ms' := 0) (as' := [(0, kf55)]) (st := []) (by first | decide | omega) (by first | decide | omega) (by first | decide | omega) rfl rfl (Nat.le_of_ble_eq_true rfl) (c_bitC E S (hw [(132, 2), (132, 3)] (hw [(128, 0)] (hw [(111, -1), (112, -1), (113, -1), (132, 1), (132, 4), (132, 12)] (hw [(128, 0)] G G40) G46) G49) G54) kf55 (by first | decide | omega) (by first | decide | omega)) ?_
                                    rintro _ _ _ ⟨rfl, rfl, z56, rfl, z56a, z56b⟩
                                    exact r_retI hX hP rfl rfl (by first | decide | omega) (by first | decide | omega) ⟨rfl, ⟨_, (hw_sub (hw_sub (hw_sub (hw_sub (hw_refl _ _) rfl) rfl) rfl) rfl).symm⟩, z56, rfl, (by first | decide | omega)⟩
                                  · skip
                                    exfalso; omega
                              · skip
                                refine r_ex hX hP 2 (pc' := 106) (st' := [(0, 5), (2, this)]) (lo' := [(0, (2, this)), (1, (0, paper)), (2, (0, shares)), (3, (0, day)), (4, (0, now)), (5, (0, has)), (6, (0, later)), (7, (0, 0))]) rfl ?_
                                refine r_callV gd hX hP rfl cv_X11_90_128 hS (d' := 0) (mc' := 0) (ms' := 0) (as' := [(0, 5)]) (st := []) (by first | decide | omega) (by first | decide | omega) (by first | decide | omega) rfl rfl (Nat.le_of_ble_eq_true rfl) (c_X11_refused E S (hw [(111, -1), (112, -1), (113, -1), (132, 1), (132, 4), (132, 12)] (hw [(128, 0)] G G40) G46) this 5 hS (by first | decide | omega) (by first | decide | omega)) ?_
                                rintro _ _ _ ⟨rfl, ⟨G57, rfl⟩, z58, rfl, (⟨rfl, f59⟩ | ⟨rfl, f60⟩)⟩
                                · skip
                                  refine r_if_eq hX hP rfl (tgt := 114) rfl (by first | decide | omega) (by first | decide | omega) (fun c61 => ?_) (fun c61 => ?_)
                                  · skip
                                    exfalso; omega
                                  · skip
                                    refine r_ex hX hP 1 (pc' := 113) (st' := [(0, (-1))]) (lo' := [(0, (2, this)), (1, (0, paper)), (2, (0, shares)), (3, (0, day)), (4, (0, now)), (5, (0, has)), (6, (0, later)), (7, (0, 0))]) rfl ?_
                                    exact r_retI hX hP rfl rfl (by first | decide | omega) (by first | decide | omega) ⟨rfl, ⟨_, (hw_sub (hw_sub (hw_sub (hw_refl _ _) rfl) rfl) rfl).symm⟩, (-1), rfl, (by first | decide | omega)⟩
                                · skip
                                  exfalso; omega
                            · skip
                              exfalso; omega
                      · skip
                        exfalso; omega
                    · skip
                      refine r_if_ne hX hP rfl (tgt := 58) rfl (by first | decide | omega) (by first | decide | omega) (fun c62 => ?_) (fun c62 => ?_)
                      · skip
                        exfalso; omega
                      · skip
                        refine r_ex hX hP 5 (pc' := 63) (st' := [(0, 0), (0, 0), (0, 0), (0, 1), (2, this)]) (lo' := [(0, (2, this)), (1, (0, paper)), (2, (0, shares)), (3, (0, day)), (4, (0, now)), (5, (0, has)), (6, (0, later)), (7, (0, 0))]) rfl ?_
                        refine r_callS gd hX hP rfl cs_X11_112 (d' := 0) (mc' := 0) (ms' := 0) (as' := [(0, 1), (0, 0), (0, 0), (0, 0)]) (st := [(2, this)]) (by first | decide | omega) (by first | decide | omega) (by first | decide | omega) rfl rfl (Nat.le_of_ble_eq_true rfl) (c_X11_first E S G 1 0 0 0 (by first | decide | omega) (by first | decide | omega) (by first | decide | omega) (by first | decide | omega) (by first | decide | omega) (by first | decide | omega) (by first | decide | omega) (by first | decide | omega)) ?_
                        rintro _ _ _ ⟨rfl, rfl, z63, rfl, (⟨rfl, f64⟩ | ⟨rfl, f65, f66⟩ | ⟨rfl, f67, f68, f69⟩ | ⟨rfl, f70, f71, f72, f73⟩ | ⟨rfl, f74, f75, f76, f77⟩)⟩
                        · skip
                          refine r_callV gd hX hP rfl cv_X11_90_128 hS (d' := 0) (mc' := 0) (ms' := 0) (as' := [(0, 1)]) (st := []) (by first | decide | omega) (by first | decide | omega) (by first | decide | omega) rfl rfl (Nat.le_of_ble_eq_true rfl) (c_X11_refused E S G this 1 hS (by first | decide | omega) (by first | decide | omega)) ?_
                          rintro _ _ _ ⟨rfl, ⟨G78, rfl⟩, z79, rfl, (⟨rfl, f80⟩ | ⟨rfl, f81⟩)⟩
                          · skip
                            refine r_if_eq hX hP rfl (tgt := 74) rfl (by first | decide | omega) (by first | decide | omega) (fun c82 => ?_) (fun c82 => ?_)
                            · skip
                              exfalso; omega
                            · skip
                              refine r_ex hX hP 1 (pc' := 73) (st' := [(0, (-1))]) (lo' := [(0, (2, this)), (1, (0, paper)), (2, (0, shares)), (3, (0, day)), (4, (0, now)), (5, (0, has)), (6, (0, later)), (7, (0, 0))]) rfl ?_
                              exact r_retI hX hP rfl rfl (by first | decide | omega) (by first | decide | omega) ⟨rfl, ⟨_, (hw_sub (hw_refl _ _) rfl).symm⟩, (-1), rfl, (by first | decide | omega)⟩
                          · skip
                            exfalso; omega
                        · skip
                          exfalso; omega
                        · skip
                          exfalso; omega
                        · skip
                          exfalso; omega
                        · skip
                          exfalso; omega
                · skip
                  refine r_if_eq hX hP rfl (tgt := 54) rfl (by first | decide | omega) (by first | decide | omega) (fun c83 => ?_) (fun c83 => ?_)
                  · skip
                    refine r_ex hX hP 5 (pc' := 63) (st' := [(0, 0), (0, 0), (0, 0), (0, 1), (2, this)]) (lo' := [(0, (2, this)), (1, (0, paper)), (2, (0, shares)), (3, (0, day)), (4, (0, now)), (5, (0, has)), (6, (0, later)), (7, (0, 0))]) rfl ?_
                    refine r_callS gd hX hP rfl cs_X11_112 (d' := 0) (mc' := 0) (ms' := 0) (as' := [(0, 1), (0, 0), (0, 0), (0, 0)]) (st := [(2, this)]) (by first | decide | omega) (by first | decide | omega) (by first | decide | omega) rfl rfl (Nat.le_of_ble_eq_true rfl) (c_X11_first E S G 1 0 0 0 (by first | decide | omega) (by first | decide | omega) (by first | decide | omega) (by first | decide | omega) (by first | decide | omega) (by first | decide | omega) (by first | decide | omega) (by first | decide | omega)) ?_
                    rintro _ _ _ ⟨rfl, rfl, z84, rfl, (⟨rfl, f85⟩ | ⟨rfl, f86, f87⟩ | ⟨rfl, f88, f89, f90⟩ | ⟨rfl, f91, f92, f93, f94⟩ | ⟨rfl, f95, f96, f97, f98⟩)⟩
                    · skip
                      refine r_callV gd hX hP rfl cv_X11_90_128 hS (d' := 0) (mc' := 0) (ms' := 0) (as' := [(0, 1)]) (st := []) (by first | decide | omega) (by first | decide | omega) (by first | decide | omega) rfl rfl (Nat.le_of_ble_eq_true rfl) (c_X11_refused E S G this 1 hS (by first | decide | omega) (by first | decide | omega)) ?_
                      rintro _ _ _ ⟨rfl, ⟨G99, rfl⟩, z100, rfl, (⟨rfl, f101⟩ | ⟨rfl, f102⟩)⟩
                      · skip
                        refine r_if_eq hX hP rfl (tgt := 74) rfl (by first | decide | omega) (by first | decide | omega) (fun c103 => ?_) (fun c103 => ?_)
                        · skip
                          exfalso; omega
                        · skip
                          refine r_ex hX hP 1 (pc' := 73) (st' := [(0, (-1))]) (lo' := [(0, (2, this)), (1, (0, paper)), (2, (0, shares)), (3, (0, day)), (4, (0, now)), (5, (0, has)), (6, (0, later)), (7, (0, 0))]) rfl ?_
                          exact r_retI hX hP rfl rfl (by first | decide | omega) (by first | decide | omega) ⟨rfl, ⟨_, (hw_sub (hw_refl _ _) rfl).symm⟩, (-1), rfl, (by first | decide | omega)⟩
                      · skip
                        exfalso; omega
                    · skip
                      exfalso; omega
                    · skip
                      exfalso; omega
                    · skip
                      exfalso; omega
                    · skip
                      exfalso; omega
                  · skip
                    exfalso; omega
              · skip
                refine r_ex hX hP 5 (pc' := 40) (st' := [(0, paper), (2, this)]) (lo' := [(0, (2, this)), (1, (0, paper)), (2, (0, shares)), (3, (0, day)), (4, (0, now)), (5, (0, has)), (6, (0, later)), (7, (0, 1))]) rfl ?_
                refine r_callS gd hX hP rfl cs_X11_120 (d' := 1) (mc' := 0) (ms' := 0) (as' := [(0, paper)]) (st := [(2, this)]) (by first | decide | omega) (by first | decide | omega) (by first | decide | omega) rfl rfl (Nat.le_of_ble_eq_true rfl) (c_X11_isPaper E S G paper (by first | decide | omega) (by first | decide | omega)) ?_
                rintro _ _ _ ⟨rfl, rfl, z104, rfl, (⟨rfl, f105, f106⟩ | rfl)⟩
                · skip
                  refine r_if_eq hX hP rfl (tgt := 54) rfl (by first | decide | omega) (by first | decide | omega) (fun c107 => ?_) (fun c107 => ?_)
                  · skip
                    exfalso; omega
                  · skip
                    refine r_ex hX hP 1 (pc' := 48) (st' := [(0, now), (2, this)]) (lo' := [(0, (2, this)), (1, (0, paper)), (2, (0, shares)), (3, (0, day)), (4, (0, now)), (5, (0, has)), (6, (0, later)), (7, (0, 1))]) rfl ?_
                    refine r_callS gd hX hP rfl cs_X11_120 (d' := 1) (mc' := 0) (ms' := 0) (as' := [(0, now)]) (st := [(2, this)]) (by first | decide | omega) (by first | decide | omega) (by first | decide | omega) rfl rfl (Nat.le_of_ble_eq_true rfl) (c_X11_isPaper E S G now (by first | decide | omega) (by first | decide | omega)) ?_
                    rintro _ _ _ ⟨rfl, rfl, z108, rfl, (⟨rfl, f109, f110⟩ | rfl)⟩
                    · skip
                      refine r_if_ne hX hP rfl (tgt := 58) rfl (by first | decide | omega) (by first | decide | omega) (fun c111 => ?_) (fun c111 => ?_)
                      · skip
                        refine r_ex hX hP 4 (pc' := 63) (st' := [(0, 0), (0, 0), (0, 1), (0, 0), (2, this)]) (lo' := [(0, (2, this)), (1, (0, paper)), (2, (0, shares)), (3, (0, day)), (4, (0, now)), (5, (0, has)), (6, (0, later)), (7, (0, 1))]) rfl ?_
                        refine r_callS gd hX hP rfl cs_X11_112 (d' := 0) (mc' := 0) (ms' := 0) (as' := [(0, 0), (0, 1), (0, 0), (0, 0)]) (st := [(2, this)]) (by first | decide | omega) (by first | decide | omega) (by first | decide | omega) rfl rfl (Nat.le_of_ble_eq_true rfl) (c_X11_first E S G 0 1 0 0 (by first | decide | omega) (by first | decide | omega) (by first | decide | omega) (by first | decide | omega) (by first | decide | omega) (by first | decide | omega) (by first | decide | omega) (by first | decide | omega)) ?_
                        rintro _ _ _ ⟨rfl, rfl, z112, rfl, (⟨rfl, f113⟩ | ⟨rfl, f114, f115⟩ | ⟨rfl, f116, f117, f118⟩ | ⟨rfl, f119, f120, f121, f122⟩ | ⟨rfl, f123, f124, f125, f126⟩)⟩
                        · skip
                          exfalso; omega
                        · skip
                          refine r_callV gd hX hP rfl cv_X11_90_128 hS (d' := 0) (mc' := 0) (ms' := 0) (as' := [(0, 2)]) (st := []) (by first | decide | omega) (by first | decide | omega) (by first | decide | omega) rfl rfl (Nat.le_of_ble_eq_true rfl) (c_X11_refused E S G this 2 hS (by first | decide | omega) (by first | decide | omega)) ?_
                          rintro _ _ _ ⟨rfl, ⟨G127, rfl⟩, z128, rfl, (⟨rfl, f129⟩ | ⟨rfl, f130⟩)⟩
                          · skip
                            refine r_if_eq hX hP rfl (tgt := 74) rfl (by first | decide | omega) (by first | decide | omega) (fun c131 => ?_) (fun c131 => ?_)
                            · skip
                              exfalso; omega
                            · skip
                              refine r_ex hX hP 1 (pc' := 73) (st' := [(0, (-1))]) (lo' := [(0, (2, this)), (1, (0, paper)), (2, (0, shares)), (3, (0, day)), (4, (0, now)), (5, (0, has)), (6, (0, later)), (7, (0, 1))]) rfl ?_
                              exact r_retI hX hP rfl rfl (by first | decide | omega) (by first | decide | omega) ⟨rfl, ⟨_, (hw_sub (hw_refl _ _) rfl).symm⟩, (-1), rfl, (by first | decide | omega)⟩
                          · skip
                            exfalso; omega
                        · skip
                          exfalso; omega
                        · skip
                          exfalso; omega
                        · skip
                          exfalso; omega
                      · skip
                        exfalso; omega
                    · skip
                      refine r_if_ne hX hP rfl (tgt := 58) rfl (by first | decide | omega) (by first | decide | omega) (fun c132 => ?_) (fun c132 => ?_)
                      · skip
                        exfalso; omega
                      · skip
                        refine r_ex hX hP 5 (pc' := 63) (st' := [(0, 0), (0, 0), (0, 1), (0, 1), (2, this)]) (lo' := [(0, (2, this)), (1, (0, paper)), (2, (0, shares)), (3, (0, day)), (4, (0, now)), (5, (0, has)), (6, (0, later)), (7, (0, 1))]) rfl ?_
                        refine r_callS gd hX hP rfl cs_X11_112 (d' := 0) (mc' := 0) (ms' := 0) (as' := [(0, 1), (0, 1), (0, 0), (0, 0)]) (st := [(2, this)]) (by first | decide | omega) (by first | decide | omega) (by first | decide | omega) rfl rfl (Nat.le_of_ble_eq_true rfl) (c_X11_first E S G 1 1 0 0 (by first | decide | omega) (by first | decide | omega) (by first | decide | omega) (by first | decide | omega) (by first | decide | omega) (by first | decide | omega) (by first | decide | omega) (by first | decide | omega)) ?_
                        rintro _ _ _ ⟨rfl, rfl, z133, rfl, (⟨rfl, f134⟩ | ⟨rfl, f135, f136⟩ | ⟨rfl, f137, f138, f139⟩ | ⟨rfl, f140, f141, f142, f143⟩ | ⟨rfl, f144, f145, f146, f147⟩)⟩
                        · skip
                          refine r_callV gd hX hP rfl cv_X11_90_128 hS (d' := 0) (mc' := 0) (ms' := 0) (as' := [(0, 1)]) (st := []) (by first | decide | omega) (by first | decide | omega) (by first | decide | omega) rfl rfl (Nat.le_of_ble_eq_true rfl) (c_X11_refused E S G this 1 hS (by first | decide | omega) (by first | decide | omega)) ?_
                          rintro _ _ _ ⟨rfl, ⟨G148, rfl⟩, z149, rfl, (⟨rfl, f150⟩ | ⟨rfl, f151⟩)⟩
                          · skip
                            refine r_if_eq hX hP rfl (tgt := 74) rfl (by first | decide | omega) (by first | decide | omega) (fun c152 => ?_) (fun c152 => ?_)
                            · skip
                              exfalso; omega
                            · skip
                              refine r_ex hX hP 1 (pc' := 73) (st' := [(0, (-1))]) (lo' := [(0, (2, this)), (1, (0, paper)), (2, (0, shares)), (3, (0, day)), (4, (0, now)), (5, (0, has)), (6, (0, later)), (7, (0, 1))]) rfl ?_
                              exact r_retI hX hP rfl rfl (by first | decide | omega) (by first | decide | omega) ⟨rfl, ⟨_, (hw_sub (hw_refl _ _) rfl).symm⟩, (-1), rfl, (by first | decide | omega)⟩
                          · skip
                            exfalso; omega
                        · skip
                          exfalso; omega
                        · skip
                          exfalso; omega
                        · skip
                          exfalso; omega
                        · skip
                          exfalso; omega
                · skip
                  refine r_if_eq hX hP rfl (tgt := 54) rfl (by first | decide | omega) (by first | decide | omega) (fun c153 => ?_) (fun c153 => ?_)
                  · skip
                    refine r_ex hX hP 5 (pc' := 63) (st' := [(0, 0), (0, 0), (0, 1), (0, 1), (2, this)]) (lo' := [(0, (2, this)), (1, (0, paper)), (2, (0, shares)), (3, (0, day)), (4, (0, now)), (5, (0, has)), (6, (0, later)), (7, (0, 1))]) rfl ?_
                    refine r_callS gd hX hP rfl cs_X11_112 (d' := 0) (mc' := 0) (ms' := 0) (as' := [(0, 1), (0, 1), (0, 0), (0, 0)]) (st := [(2, this)]) (by first | decide | omega) (by first | decide | omega) (by first | decide | omega) rfl rfl (Nat.le_of_ble_eq_true rfl) (c_X11_first E S G 1 1 0 0 (by first | decide | omega) (by first | decide | omega) (by first | decide | omega) (by first | decide | omega) (by first | decide | omega) (by first | decide | omega) (by first | decide | omega) (by first | decide | omega)) ?_
                    rintro _ _ _ ⟨rfl, rfl, z154, rfl, (⟨rfl, f155⟩ | ⟨rfl, f156, f157⟩ | ⟨rfl, f158, f159, f160⟩ | ⟨rfl, f161, f162, f163, f164⟩ | ⟨rfl, f165, f166, f167, f168⟩)⟩
                    · skip
                      refine r_callV gd hX hP rfl cv_X11_90_128 hS (d' := 0) (mc' := 0) (ms' := 0) (as' := [(0, 1)]) (st := []) (by first | decide | omega) (by first | decide | omega) (by first | decide | omega) rfl rfl (Nat.le_of_ble_eq_true rfl) (c_X11_refused E S G this 1 hS (by first | decide | omega) (by first | decide | omega)) ?_
                      rintro _ _ _ ⟨rfl, ⟨G169, rfl⟩, z170, rfl, (⟨rfl, f171⟩ | ⟨rfl, f172⟩)⟩
                      · skip
                        refine r_if_eq hX hP rfl (tgt := 74) rfl (by first | decide | omega) (by first | decide | omega) (fun c173 => ?_) (fun c173 => ?_)
                        · skip
                          exfalso; omega
                        · skip
                          refine r_ex hX hP 1 (pc' := 73) (st' := [(0, (-1))]) (lo' := [(0, (2, this)), (1, (0, paper)), (2, (0, shares)), (3, (0, day)), (4, (0, now)), (5, (0, has)), (6, (0, later)), (7, (0, 1))]) rfl ?_
                          exact r_retI hX hP rfl rfl (by first | decide | omega) (by first | decide | omega) ⟨rfl, ⟨_, (hw_sub (hw_refl _ _) rfl).symm⟩, (-1), rfl, (by first | decide | omega)⟩
                      · skip
                        exfalso; omega
                    · skip
                      exfalso; omega
                    · skip
                      exfalso; omega
                    · skip
                      exfalso; omega
                    · skip
                      exfalso; omega
                  · skip
                    exfalso; omega
          · skip
            refine r_if_eq hX hP rfl (tgt := 31) rfl (by first | decide | omega) (by first | decide | omega) (fun c174 => ?_) (fun c174 => ?_)
            · skip
              refine r_ex hX hP 5 (pc' := 40) (st' := [(0, paper), (2, this)]) (lo' := [(0, (2, this)), (1, (0, paper)), (2, (0, shares)), (3, (0, day)), (4, (0, now)), (5, (0, has)), (6, (0, later)), (7, (0, 1))]) rfl ?_
              refine r_callS gd hX hP rfl cs_X11_120 (d' := 1) (mc' := 0) (ms' := 0) (as' := [(0, paper)]) (st := [(2, this)]) (by first | decide | omega) (by first | decide | omega) (by first | decide | omega) rfl rfl (Nat.le_of_ble_eq_true rfl) (c_X11_isPaper E S G paper (by first | decide | omega) (by first | decide | omega)) ?_
              rintro _ _ _ ⟨rfl, rfl, z175, rfl, (⟨rfl, f176, f177⟩ | rfl)⟩
              · skip
                refine r_if_eq hX hP rfl (tgt := 54) rfl (by first | decide | omega) (by first | decide | omega) (fun c178 => ?_) (fun c178 => ?_)
                · skip
                  exfalso; omega
                · skip
                  refine r_ex hX hP 1 (pc' := 48) (st' := [(0, now), (2, this)]) (lo' := [(0, (2, this)), (1, (0, paper)), (2, (0, shares)), (3, (0, day)), (4, (0, now)), (5, (0, has)), (6, (0, later)), (7, (0, 1))]) rfl ?_
                  refine r_callS gd hX hP rfl cs_X11_120 (d' := 1) (mc' := 0) (ms' := 0) (as' := [(0, now)]) (st := [(2, this)]) (by first | decide | omega) (by first | decide | omega) (by first | decide | omega) rfl rfl (Nat.le_of_ble_eq_true rfl) (c_X11_isPaper E S G now (by first | decide | omega) (by first | decide | omega)) ?_
                  rintro _ _ _ ⟨rfl, rfl, z179, rfl, (⟨rfl, f180, f181⟩ | rfl)⟩
                  · skip
                    refine r_if_ne hX hP rfl (tgt := 58) rfl (by first | decide | omega) (by first | decide | omega) (fun c182 => ?_) (fun c182 => ?_)
                    · skip
                      refine r_ex hX hP 4 (pc' := 63) (st' := [(0, 0), (0, 0), (0, 1), (0, 0), (2, this)]) (lo' := [(0, (2, this)), (1, (0, paper)), (2, (0, shares)), (3, (0, day)), (4, (0, now)), (5, (0, has)), (6, (0, later)), (7, (0, 1))]) rfl ?_
                      refine r_callS gd hX hP rfl cs_X11_112 (d' := 0) (mc' := 0) (ms' := 0) (as' := [(0, 0), (0, 1), (0, 0), (0, 0)]) (st := [(2, this)]) (by first | decide | omega) (by first | decide | omega) (by first | decide | omega) rfl rfl (Nat.le_of_ble_eq_true rfl) (c_X11_first E S G 0 1 0 0 (by first | decide | omega) (by first | decide | omega) (by first | decide | omega) (by first | decide | omega) (by first | decide | omega) (by first | decide | omega) (by first | decide | omega) (by first | decide | omega)) ?_
                      rintro _ _ _ ⟨rfl, rfl, z183, rfl, (⟨rfl, f184⟩ | ⟨rfl, f185, f186⟩ | ⟨rfl, f187, f188, f189⟩ | ⟨rfl, f190, f191, f192, f193⟩ | ⟨rfl, f194, f195, f196, f197⟩)⟩
                      · skip
                        exfalso; omega
                      · skip
                        refine r_callV gd hX hP rfl cv_X11_90_128 hS (d' := 0) (mc' := 0) (ms' := 0) (as' := [(0, 2)]) (st := []) (by first | decide | omega) (by first | decide | omega) (by first | decide | omega) rfl rfl (Nat.le_of_ble_eq_true rfl) (c_X11_refused E S G this 2 hS (by first | decide | omega) (by first | decide | omega)) ?_
                        rintro _ _ _ ⟨rfl, ⟨G198, rfl⟩, z199, rfl, (⟨rfl, f200⟩ | ⟨rfl, f201⟩)⟩
                        · skip
                          refine r_if_eq hX hP rfl (tgt := 74) rfl (by first | decide | omega) (by first | decide | omega) (fun c202 => ?_) (fun c202 => ?_)
                          · skip
                            exfalso; omega
                          · skip
                            refine r_ex hX hP 1 (pc' := 73) (st' := [(0, (-1))]) (lo' := [(0, (2, this)), (1, (0, paper)), (2, (0, shares)), (3, (0, day)), (4, (0, now)), (5, (0, has)), (6, (0, later)), (7, (0, 1))]) rfl ?_
                            exact r_retI hX hP rfl rfl (by first | decide | omega) (by first | decide | omega) ⟨rfl, ⟨_, (hw_sub (hw_refl _ _) rfl).symm⟩, (-1), rfl, (by first | decide | omega)⟩
                        · skip
                          exfalso; omega
                      · skip
                        exfalso; omega
                      · skip
                        exfalso; omega
                      · skip
                        exfalso; omega
                    · skip
                      exfalso; omega
                  · skip
                    refine r_if_ne hX hP rfl (tgt := 58) rfl (by first | decide | omega) (by first | decide | omega) (fun c203 => ?_) (fun c203 => ?_)
                    · skip
                      exfalso; omega
                    · skip
                      refine r_ex hX hP 5 (pc' := 63) (st' := [(0, 0), (0, 0), (0, 1), (0, 1), (2, this)]) (lo' := [(0, (2, this)), (1, (0, paper)), (2, (0, shares)), (3, (0, day)), (4, (0, now)), (5, (0, has)), (6, (0, later)), (7, (0, 1))]) rfl ?_
                      refine r_callS gd hX hP rfl cs_X11_112 (d' := 0) (mc' := 0) (ms' := 0) (as' := [(0, 1), (0, 1), (0, 0), (0, 0)]) (st := [(2, this)]) (by first | decide | omega) (by first | decide | omega) (by first | decide | omega) rfl rfl (Nat.le_of_ble_eq_true rfl) (c_X11_first E S G 1 1 0 0 (by first | decide | omega) (by first | decide | omega) (by first | decide | omega) (by first | decide | omega) (by first | decide | omega) (by first | decide | omega) (by first | decide | omega) (by first | decide | omega)) ?_
                      rintro _ _ _ ⟨rfl, rfl, z204, rfl, (⟨rfl, f205⟩ | ⟨rfl, f206, f207⟩ | ⟨rfl, f208, f209, f210⟩ | ⟨rfl, f211, f212, f213, f214⟩ | ⟨rfl, f215, f216, f217, f218⟩)⟩
                      · skip
                        refine r_callV gd hX hP rfl cv_X11_90_128 hS (d' := 0) (mc' := 0) (ms' := 0) (as' := [(0, 1)]) (st := []) (by first | decide | omega) (by first | decide | omega) (by first | decide | omega) rfl rfl (Nat.le_of_ble_eq_true rfl) (c_X11_refused E S G this 1 hS (by first | decide | omega) (by first | decide | omega)) ?_
                        rintro _ _ _ ⟨rfl, ⟨G219, rfl⟩, z220, rfl, (⟨rfl, f221⟩ | ⟨rfl, f222⟩)⟩
                        · skip
                          refine r_if_eq hX hP rfl (tgt := 74) rfl (by first | decide | omega) (by first | decide | omega) (fun c223 => ?_) (fun c223 => ?_)
                          · skip
                            exfalso; omega
                          · skip
                            refine r_ex hX hP 1 (pc' := 73) (st' := [(0, (-1))]) (lo' := [(0, (2, this)), (1, (0, paper)), (2, (0, shares)), (3, (0, day)), (4, (0, now)), (5, (0, has)), (6, (0, later)), (7, (0, 1))]) rfl ?_
                            exact r_retI hX hP rfl rfl (by first | decide | omega) (by first | decide | omega) ⟨rfl, ⟨_, (hw_sub (hw_refl _ _) rfl).symm⟩, (-1), rfl, (by first | decide | omega)⟩
                        · skip
                          exfalso; omega
                      · skip
                        exfalso; omega
                      · skip
                        exfalso; omega
                      · skip
                        exfalso; omega
                      · skip
                        exfalso; omega
              · skip
                refine r_if_eq hX hP rfl (tgt := 54) rfl (by first | decide | omega) (by first | decide | omega) (fun c224 => ?_) (fun c224 => ?_)
                · skip
                  refine r_ex hX hP 5 (pc' := 63) (st' := [(0, 0), (0, 0), (0, 1), (0, 1), (2, this)]) (lo' := [(0, (2, this)), (1, (0, paper)), (2, (0, shares)), (3, (0, day)), (4, (0, now)), (5, (0, has)), (6, (0, later)), (7, (0, 1))]) rfl ?_
                  refine r_callS gd hX hP rfl cs_X11_112 (d' := 0) (mc' := 0) (ms' := 0) (as' := [(0, 1), (0, 1), (0, 0), (0, 0)]) (st := [(2, this)]) (by first | decide | omega) (by first | decide | omega) (by first | decide | omega) rfl rfl (Nat.le_of_ble_eq_true rfl) (c_X11_first E S G 1 1 0 0 (by first | decide | omega) (by first | decide | omega) (by first | decide | omega) (by first | decide | omega) (by first | decide | omega) (by first | decide | omega) (by first | decide | omega) (by first | decide | omega)) ?_
                  rintro _ _ _ ⟨rfl, rfl, z225, rfl, (⟨rfl, f226⟩ | ⟨rfl, f227, f228⟩ | ⟨rfl, f229, f230, f231⟩ | ⟨rfl, f232, f233, f234, f235⟩ | ⟨rfl, f236, f237, f238, f239⟩)⟩
                  · skip
                    refine r_callV gd hX hP rfl cv_X11_90_128 hS (d' := 0) (mc' := 0) (ms' := 0) (as' := [(0, 1)]) (st := []) (by first | decide | omega) (by first | decide | omega) (by first | decide | omega) rfl rfl (Nat.le_of_ble_eq_true rfl) (c_X11_refused E S G this 1 hS (by first | decide | omega) (by first | decide | omega)) ?_
                    rintro _ _ _ ⟨rfl, ⟨G240, rfl⟩, z241, rfl, (⟨rfl, f242⟩ | ⟨rfl, f243⟩)⟩
                    · skip
                      refine r_if_eq hX hP rfl (tgt := 74) rfl (by first | decide | omega) (by first | decide | omega) (fun c244 => ?_) (fun c244 => ?_)
                      · skip
                        exfalso; omega
                      · skip
                        refine r_ex hX hP 1 (pc' := 73) (st' := [(0, (-1))]) (lo' := [(0, (2, this)), (1, (0, paper)), (2, (0, shares)), (3, (0, day)), (4, (0, now)), (5, (0, has)), (6, (0, later)), (7, (0, 1))]) rfl ?_
                        exact r_retI hX hP rfl rfl (by first | decide | omega) (by first | decide | omega) ⟨rfl, ⟨_, (hw_sub (hw_refl _ _) rfl).symm⟩, (-1), rfl, (by first | decide | omega)⟩
                    · skip
                      exfalso; omega
                  · skip
                    exfalso; omega
                  · skip
                    exfalso; omega
                  · skip
                    exfalso; omega
                  · skip
                    exfalso; omega
                · skip
                  exfalso; omega
            · skip
              exfalso; omega
      · skip
        refine r_if_eq hX hP rfl (tgt := 31) rfl (by first | decide | omega) (by first | decide | omega) (fun c245 => ?_) (fun c245 => ?_)
        · skip
          refine r_ex hX hP 5 (pc' := 40) (st' := [(0, paper), (2, this)]) (lo' := [(0, (2, this)), (1, (0, paper)), (2, (0, shares)), (3, (0, day)), (4, (0, now)), (5, (0, has)), (6, (0, later)), (7, (0, 1))]) rfl ?_
          refine r_callS gd hX hP rfl cs_X11_120 (d' := 1) (mc' := 0) (ms' := 0) (as' := [(0, paper)]) (st := [(2, this)]) (by first | decide | omega) (by first | decide | omega) (by first | decide | omega) rfl rfl (Nat.le_of_ble_eq_true rfl) (c_X11_isPaper E S G paper (by first | decide | omega) (by first | decide | omega)) ?_
          rintro _ _ _ ⟨rfl, rfl, z246, rfl, (⟨rfl, f247, f248⟩ | rfl)⟩
          · skip
            refine r_if_eq hX hP rfl (tgt := 54) rfl (by first | decide | omega) (by first | decide | omega) (fun c249 => ?_) (fun c249 => ?_)
            · skip
              exfalso; omega
            · skip
              refine r_ex hX hP 1 (pc' := 48) (st' := [(0, now), (2, this)]) (lo' := [(0, (2, this)), (1, (0, paper)), (2, (0, shares)), (3, (0, day)), (4, (0, now)), (5, (0, has)), (6, (0, later)), (7, (0, 1))]) rfl ?_
              refine r_callS gd hX hP rfl cs_X11_120 (d' := 1) (mc' := 0) (ms' := 0) (as' := [(0, now)]) (st := [(2, this)]) (by first | decide | omega) (by first | decide | omega) (by first | decide | omega) rfl rfl (Nat.le_of_ble_eq_true rfl) (c_X11_isPaper E S G now (by first | decide | omega) (by first | decide | omega)) ?_
              rintro _ _ _ ⟨rfl, rfl, z250, rfl, (⟨rfl, f251, f252⟩ | rfl)⟩
              · skip
                refine r_if_ne hX hP rfl (tgt := 58) rfl (by first | decide | omega) (by first | decide | omega) (fun c253 => ?_) (fun c253 => ?_)
                · skip
                  refine r_ex hX hP 4 (pc' := 63) (st' := [(0, 0), (0, 0), (0, 1), (0, 0), (2, this)]) (lo' := [(0, (2, this)), (1, (0, paper)), (2, (0, shares)), (3, (0, day)), (4, (0, now)), (5, (0, has)), (6, (0, later)), (7, (0, 1))]) rfl ?_
                  refine r_callS gd hX hP rfl cs_X11_112 (d' := 0) (mc' := 0) (ms' := 0) (as' := [(0, 0), (0, 1), (0, 0), (0, 0)]) (st := [(2, this)]) (by first | decide | omega) (by first | decide | omega) (by first | decide | omega) rfl rfl (Nat.le_of_ble_eq_true rfl) (c_X11_first E S G 0 1 0 0 (by first | decide | omega) (by first | decide | omega) (by first | decide | omega) (by first | decide | omega) (by first | decide | omega) (by first | decide | omega) (by first | decide | omega) (by first | decide | omega)) ?_
                  rintro _ _ _ ⟨rfl, rfl, z254, rfl, (⟨rfl, f255⟩ | ⟨rfl, f256, f257⟩ | ⟨rfl, f258, f259, f260⟩ | ⟨rfl, f261, f262, f263, f264⟩ | ⟨rfl, f265, f266, f267, f268⟩)⟩
                  · skip
                    exfalso; omega
                  · skip
                    refine r_callV gd hX hP rfl cv_X11_90_128 hS (d' := 0) (mc' := 0) (ms' := 0) (as' := [(0, 2)]) (st := []) (by first | decide | omega) (by first | decide | omega) (by first | decide | omega) rfl rfl (Nat.le_of_ble_eq_true rfl) (c_X11_refused E S G this 2 hS (by first | decide | omega) (by first | decide | omega)) ?_
                    rintro _ _ _ ⟨rfl, ⟨G269, rfl⟩, z270, rfl, (⟨rfl, f271⟩ | ⟨rfl, f272⟩)⟩
                    · skip
                      refine r_if_eq hX hP rfl (tgt := 74) rfl (by first | decide | omega) (by first | decide | omega) (fun c273 => ?_) (fun c273 => ?_)
                      · skip
                        exfalso; omega
                      · skip
                        refine r_ex hX hP 1 (pc' := 73) (st' := [(0, (-1))]) (lo' := [(0, (2, this)), (1, (0, paper)), (2, (0, shares)), (3, (0, day)), (4, (0, now)), (5, (0, has)), (6, (0, later)), (7, (0, 1))]) rfl ?_
                        exact r_retI hX hP rfl rfl (by first | decide | omega) (by first | decide | omega) ⟨rfl, ⟨_, (hw_sub (hw_refl _ _) rfl).symm⟩, (-1), rfl, (by first | decide | omega)⟩
                    · skip
                      exfalso; omega
                  · skip
                    exfalso; omega
                  · skip
                    exfalso; omega
                  · skip
                    exfalso; omega
                · skip
                  exfalso; omega
              · skip
                refine r_if_ne hX hP rfl (tgt := 58) rfl (by first | decide | omega) (by first | decide | omega) (fun c274 => ?_) (fun c274 => ?_)
                · skip
                  exfalso; omega
                · skip
                  refine r_ex hX hP 5 (pc' := 63) (st' := [(0, 0), (0, 0), (0, 1), (0, 1), (2, this)]) (lo' := [(0, (2, this)), (1, (0, paper)), (2, (0, shares)), (3, (0, day)), (4, (0, now)), (5, (0, has)), (6, (0, later)), (7, (0, 1))]) rfl ?_
                  refine r_callS gd hX hP rfl cs_X11_112 (d' := 0) (mc' := 0) (ms' := 0) (as' := [(0, 1), (0, 1), (0, 0), (0, 0)]) (st := [(2, this)]) (by first | decide | omega) (by first | decide | omega) (by first | decide | omega) rfl rfl (Nat.le_of_ble_eq_true rfl) (c_X11_first E S G 1 1 0 0 (by first | decide | omega) (by first | decide | omega) (by first | decide | omega) (by first | decide | omega) (by first | decide | omega) (by first | decide | omega) (by first | decide | omega) (by first | decide | omega)) ?_
                  rintro _ _ _ ⟨rfl, rfl, z275, rfl, (⟨rfl, f276⟩ | ⟨rfl, f277, f278⟩ | ⟨rfl, f279, f280, f281⟩ | ⟨rfl, f282, f283, f284, f285⟩ | ⟨rfl, f286, f287, f288, f289⟩)⟩
                  · skip
                    refine r_callV gd hX hP rfl cv_X11_90_128 hS (d' := 0) (mc' := 0) (ms' := 0) (as' := [(0, 1)]) (st := []) (by first | decide | omega) (by first | decide | omega) (by first | decide | omega) rfl rfl (Nat.le_of_ble_eq_true rfl) (c_X11_refused E S G this 1 hS (by first | decide | omega) (by first | decide | omega)) ?_
                    rintro _ _ _ ⟨rfl, ⟨G290, rfl⟩, z291, rfl, (⟨rfl, f292⟩ | ⟨rfl, f293⟩)⟩
                    · skip
                      refine r_if_eq hX hP rfl (tgt := 74) rfl (by first | decide | omega) (by first | decide | omega) (fun c294 => ?_) (fun c294 => ?_)
                      · skip
                        exfalso; omega
                      · skip
                        refine r_ex hX hP 1 (pc' := 73) (st' := [(0, (-1))]) (lo' := [(0, (2, this)), (1, (0, paper)), (2, (0, shares)), (3, (0, day)), (4, (0, now)), (5, (0, has)), (6, (0, later)), (7, (0, 1))]) rfl ?_
                        exact r_retI hX hP rfl rfl (by first | decide | omega) (by first | decide | omega) ⟨rfl, ⟨_, (hw_sub (hw_refl _ _) rfl).symm⟩, (-1), rfl, (by first | decide | omega)⟩
                    · skip
                      exfalso; omega
                  · skip
                    exfalso; omega
                  · skip
                    exfalso; omega
                  · skip
                    exfalso; omega
                  · skip
                    exfalso; omega
          · skip
            refine r_if_eq hX hP rfl (tgt := 54) rfl (by first | decide | omega) (by first | decide | omega) (fun c295 => ?_) (fun c295 => ?_)
            · skip
              refine r_ex hX hP 5 (pc' := 63) (st' := [(0, 0), (0, 0), (0, 1), (0, 1), (2, this)]) (lo' := [(0, (2, this)), (1, (0, paper)), (2, (0, shares)), (3, (0, day)), (4, (0, now)), (5, (0, has)), (6, (0, later)), (7, (0, 1))]) rfl ?_
              refine r_callS gd hX hP rfl cs_X11_112 (d' := 0) (mc' := 0) (ms' := 0) (as' := [(0, 1), (0, 1), (0, 0), (0, 0)]) (st := [(2, this)]) (by first | decide | omega) (by first | decide | omega) (by first | decide | omega) rfl rfl (Nat.le_of_ble_eq_true rfl) (c_X11_first E S G 1 1 0 0 (by first | decide | omega) (by first | decide | omega) (by first | decide | omega) (by first | decide | omega) (by first | decide | omega) (by first | decide | omega) (by first | decide | omega) (by first | decide | omega)) ?_
              rintro _ _ _ ⟨rfl, rfl, z296, rfl, (⟨rfl, f297⟩ | ⟨rfl, f298, f299⟩ | ⟨rfl, f300, f301, f302⟩ | ⟨rfl, f303, f304, f305, f306⟩ | ⟨rfl, f307, f308, f309, f310⟩)⟩
              · skip
                refine r_callV gd hX hP rfl cv_X11_90_128 hS (d' := 0) (mc' := 0) (ms' := 0) (as' := [(0, 1)]) (st := []) (by first | decide | omega) (by first | decide | omega) (by first | decide | omega) rfl rfl (Nat.le_of_ble_eq_true rfl) (c_X11_refused E S G this 1 hS (by first | decide | omega) (by first | decide | omega)) ?_
                rintro _ _ _ ⟨rfl, ⟨G311, rfl⟩, z312, rfl, (⟨rfl, f313⟩ | ⟨rfl, f314⟩)⟩
                · skip
                  refine r_if_eq hX hP rfl (tgt := 74) rfl (by first | decide | omega) (by first | decide | omega) (fun c315 => ?_) (fun c315 => ?_)
                  · skip
                    exfalso; omega
                  · skip
                    refine r_ex hX hP 1 (pc' := 73) (st' := [(0, (-1))]) (lo' := [(0, (2, this)), (1, (0, paper)), (2, (0, shares)), (3, (0, day)), (4, (0, now)), (5, (0, has)), (6, (0, later)), (7, (0, 1))]) rfl ?_
                    exact r_retI hX hP rfl rfl (by first | decide | omega) (by first | decide | omega) ⟨rfl, ⟨_, (hw_sub (hw_refl _ _) rfl).symm⟩, (-1), rfl, (by first | decide | omega)⟩
                · skip
                  exfalso; omega
              · skip
                exfalso; omega
              · skip
                exfalso; omega
              · skip
                exfalso; omega
              · skip
                exfalso; omega
            · skip
              exfalso; omega
        · skip
          exfalso; omega
  · skip
    refine r_if_eq hX hP rfl (tgt := 31) rfl (by first | decide | omega) (by first | decide | omega) (fun c316 => ?_) (fun c316 => ?_)
    · skip
      refine r_ex hX hP 5 (pc' := 40) (st' := [(0, paper), (2, this)]) (lo' := [(0, (2, this)), (1, (0, paper)), (2, (0, shares)), (3, (0, day)), (4, (0, now)), (5, (0, has)), (6, (0, later)), (7, (0, 1))]) rfl ?_
      refine r_callS gd hX hP rfl cs_X11_120 (d' := 1) (mc' := 0) (ms' := 0) (as' := [(0, paper)]) (st := [(2, this)]) (by first | decide | omega) (by first | decide | omega) (by first | decide | omega) rfl rfl (Nat.le_of_ble_eq_true rfl) (c_X11_isPaper E S G paper (by first | decide | omega) (by first | decide | omega)) ?_
      rintro _ _ _ ⟨rfl, rfl, z317, rfl, (⟨rfl, f318, f319⟩ | rfl)⟩
      · skip
        refine r_if_eq hX hP rfl (tgt := 54) rfl (by first | decide | omega) (by first | decide | omega) (fun c320 => ?_) (fun c320 => ?_)
        · skip
          exfalso; omega
        · skip
          refine r_ex hX hP 1 (pc' := 48) (st' := [(0, now), (2, this)]) (lo' := [(0, (2, this)), (1, (0, paper)), (2, (0, shares)), (3, (0, day)), (4, (0, now)), (5, (0, has)), (6, (0, later)), (7, (0, 1))]) rfl ?_
          refine r_callS gd hX hP rfl cs_X11_120 (d' := 1) (mc' := 0) (ms' := 0) (as' := [(0, now)]) (st := [(2, this)]) (by first | decide | omega) (by first | decide | omega) (by first | decide | omega) rfl rfl (Nat.le_of_ble_eq_true rfl) (c_X11_isPaper E S G now (by first | decide | omega) (by first | decide | omega)) ?_
          rintro _ _ _ ⟨rfl, rfl, z321, rfl, (⟨rfl, f322, f323⟩ | rfl)⟩
          · skip
            refine r_if_ne hX hP rfl (tgt := 58) rfl (by first | decide | omega) (by first | decide | omega) (fun c324 => ?_) (fun c324 => ?_)
            · skip
              refine r_ex hX hP 4 (pc' := 63) (st' := [(0, 0), (0, 0), (0, 1), (0, 0), (2, this)]) (lo' := [(0, (2, this)), (1, (0, paper)), (2, (0, shares)), (3, (0, day)), (4, (0, now)), (5, (0, has)), (6, (0, later)), (7, (0, 1))]) rfl ?_
              refine r_callS gd hX hP rfl cs_X11_112 (d' := 0) (mc' := 0) (ms' := 0) (as' := [(0, 0), (0, 1), (0, 0), (0, 0)]) (st := [(2, this)]) (by first | decide | omega) (by first | decide | omega) (by first | decide | omega) rfl rfl (Nat.le_of_ble_eq_true rfl) (c_X11_first E S G 0 1 0 0 (by first | decide | omega) (by first | decide | omega) (by first | decide | omega) (by first | decide | omega) (by first | decide | omega) (by first | decide | omega) (by first | decide | omega) (by first | decide | omega)) ?_
              rintro _ _ _ ⟨rfl, rfl, z325, rfl, (⟨rfl, f326⟩ | ⟨rfl, f327, f328⟩ | ⟨rfl, f329, f330, f331⟩ | ⟨rfl, f332, f333, f334, f335⟩ | ⟨rfl, f336, f337, f338, f339⟩)⟩
              · skip
                exfalso; omega
              · skip
                refine r_callV gd hX hP rfl cv_X11_90_128 hS (d' := 0) (mc' := 0) (ms' := 0) (as' := [(0, 2)]) (st := []) (by first | decide | omega) (by first | decide | omega) (by first | decide | omega) rfl rfl (Nat.le_of_ble_eq_true rfl) (c_X11_refused E S G this 2 hS (by first | decide | omega) (by first | decide | omega)) ?_
                rintro _ _ _ ⟨rfl, ⟨G340, rfl⟩, z341, rfl, (⟨rfl, f342⟩ | ⟨rfl, f343⟩)⟩
                · skip
                  refine r_if_eq hX hP rfl (tgt := 74) rfl (by first | decide | omega) (by first | decide | omega) (fun c344 => ?_) (fun c344 => ?_)
                  · skip
                    exfalso; omega
                  · skip
                    refine r_ex hX hP 1 (pc' := 73) (st' := [(0, (-1))]) (lo' := [(0, (2, this)), (1, (0, paper)), (2, (0, shares)), (3, (0, day)), (4, (0, now)), (5, (0, has)), (6, (0, later)), (7, (0, 1))]) rfl ?_
                    exact r_retI hX hP rfl rfl (by first | decide | omega) (by first | decide | omega) ⟨rfl, ⟨_, (hw_sub (hw_refl _ _) rfl).symm⟩, (-1), rfl, (by first | decide | omega)⟩
                · skip
                  exfalso; omega
              · skip
                exfalso; omega
              · skip
                exfalso; omega
              · skip
                exfalso; omega
            · skip
              exfalso; omega
          · skip
            refine r_if_ne hX hP rfl (tgt := 58) rfl (by first | decide | omega) (by first | decide | omega) (fun c345 => ?_) (fun c345 => ?_)
            · skip
              exfalso; omega
            · skip
              refine r_ex hX hP 5 (pc' := 63) (st' := [(0, 0), (0, 0), (0, 1), (0, 1), (2, this)]) (lo' := [(0, (2, this)), (1, (0, paper)), (2, (0, shares)), (3, (0, day)), (4, (0, now)), (5, (0, has)), (6, (0, later)), (7, (0, 1))]) rfl ?_
              refine r_callS gd hX hP rfl cs_X11_112 (d' := 0) (mc' := 0) (ms' := 0) (as' := [(0, 1), (0, 1), (0, 0), (0, 0)]) (st := [(2, this)]) (by first | decide | omega) (by first | decide | omega) (by first | decide | omega) rfl rfl (Nat.le_of_ble_eq_true rfl) (c_X11_first E S G 1 1 0 0 (by first | decide | omega) (by first | decide | omega) (by first | decide | omega) (by first | decide | omega) (by first | decide | omega) (by first | decide | omega) (by first | decide | omega) (by first | decide | omega)) ?_
              rintro _ _ _ ⟨rfl, rfl, z346, rfl, (⟨rfl, f347⟩ | ⟨rfl, f348, f349⟩ | ⟨rfl, f350, f351, f352⟩ | ⟨rfl, f353, f354, f355, f356⟩ | ⟨rfl, f357, f358, f359, f360⟩)⟩
              · skip
                refine r_callV gd hX hP rfl cv_X11_90_128 hS (d' := 0) (mc' := 0) (ms' := 0) (as' := [(0, 1)]) (st := []) (by first | decide | omega) (by first | decide | omega) (by first | decide | omega) rfl rfl (Nat.le_of_ble_eq_true rfl) (c_X11_refused E S G this 1 hS (by first | decide | omega) (by first | decide | omega)) ?_
                rintro _ _ _ ⟨rfl, ⟨G361, rfl⟩, z362, rfl, (⟨rfl, f363⟩ | ⟨rfl, f364⟩)⟩
                · skip
                  refine r_if_eq hX hP rfl (tgt := 74) rfl (by first | decide | omega) (by first | decide | omega) (fun c365 => ?_) (fun c365 => ?_)
                  · skip
                    exfalso; omega
                  · skip
                    refine r_ex hX hP 1 (pc' := 73) (st' := [(0, (-1))]) (lo' := [(0, (2, this)), (1, (0, paper)), (2, (0, shares)), (3, (0, day)), (4, (0, now)), (5, (0, has)), (6, (0, later)), (7, (0, 1))]) rfl ?_
                    exact r_retI hX hP rfl rfl (by first | decide | omega) (by first | decide | omega) ⟨rfl, ⟨_, (hw_sub (hw_refl _ _) rfl).symm⟩, (-1), rfl, (by first | decide | omega)⟩
                · skip
                  exfalso; omega
              · skip
                exfalso; omega
              · skip
                exfalso; omega
              · skip
                exfalso; omega
              · skip
                exfalso; omega
      · skip
        refine r_if_eq hX hP rfl (tgt := 54) rfl (by first | decide | omega) (by first | decide | omega) (fun c366 => ?_) (fun c366 => ?_)
        · skip
          refine r_ex hX hP 5 (pc' := 63) (st' := [(0, 0), (0, 0), (0, 1), (0, 1), (2, this)]) (lo' := [(0, (2, this)), (1, (0, paper)), (2, (0, shares)), (3, (0, day)), (4, (0, now)), (5, (0, has)), (6, (0, later)), (7, (0, 1))]) rfl ?_
          refine r_callS gd hX hP rfl cs_X11_112 (d' := 0) (mc' := 0) (ms' := 0) (as' := [(0, 1), (0, 1), (0, 0), (0, 0)]) (st := [(2, this)]) (by first | decide | omega) (by first | decide | omega) (by first | decide | omega) rfl rfl (Nat.le_of_ble_eq_true rfl) (c_X11_first E S G 1 1 0 0 (by first | decide | omega) (by first | decide | omega) (by first | decide | omega) (by first | decide | omega) (by first | decide | omega) (by first | decide | omega) (by first | decide | omega) (by first | decide | omega)) ?_
          rintro _ _ _ ⟨rfl, rfl, z367, rfl, (⟨rfl, f368⟩ | ⟨rfl, f369, f370⟩ | ⟨rfl, f371, f372, f373⟩ | ⟨rfl, f374, f375, f376, f377⟩ | ⟨rfl, f378, f379, f380, f381⟩)⟩
          · skip
            refine r_callV gd hX hP rfl cv_X11_90_128 hS (d' := 0) (mc' := 0) (ms' := 0) (as' := [(0, 1)]) (st := []) (by first | decide | omega) (by first | decide | omega) (by first | decide | omega) rfl rfl (Nat.le_of_ble_eq_true rfl) (c_X11_refused E S G this 1 hS (by first | decide | omega) (by first | decide | omega)) ?_
            rintro _ _ _ ⟨rfl, ⟨G382, rfl⟩, z383, rfl, (⟨rfl, f384⟩ | ⟨rfl, f385⟩)⟩
            · skip
              refine r_if_eq hX hP rfl (tgt := 74) rfl (by first | decide | omega) (by first | decide | omega) (fun c386 => ?_) (fun c386 => ?_)
              · skip
                exfalso; omega
              · skip
                refine r_ex hX hP 1 (pc' := 73) (st' := [(0, (-1))]) (lo' := [(0, (2, this)), (1, (0, paper)), (2, (0, shares)), (3, (0, day)), (4, (0, now)), (5, (0, has)), (6, (0, later)), (7, (0, 1))]) rfl ?_
                exact r_retI hX hP rfl rfl (by first | decide | omega) (by first | decide | omega) ⟨rfl, ⟨_, (hw_sub (hw_refl _ _) rfl).symm⟩, (-1), rfl, (by first | decide | omega)⟩
            · skip
              exfalso; omega
          · skip
            exfalso; omega
          · skip
            exfalso; omega
          · skip
            exfalso; omega
          · skip
            exfalso; omega
        · skip
          exfalso; omega
    · skip
      exfalso; omega
set_option maxRecDepth 100000 in
set_option maxHeartbeats 4000000 in
theorem c_X11_rivals (E : En) (S : Sg) (G : Gh) (this : Int) (hS : S this = 128) : Calls E mX11_rivals [(2, this)] S G 1 0 0 (fun r S' G' => S = S' ∧ (∃ G1, hw [(128, 0)] G G1 = G') ∧ ∃ z : Int, r = some (0, z) ∧ (-2147483648) ≤ z ∧ z ≤ 2147483647) := by
  refine calls_by [(0, (2, this))] rfl rfl (Nat.le_of_ble_eq_true rfl) (fun X hX => ?_)
  have hP := hPX11_rivals
  refine r_ex hX hP 2 (pc' := 2) (st' := [(2, this), (2, this)]) (lo' := [(0, (2, this))]) rfl ?_
  refine r_getR hX hP rfl fl_X11_78_128 hS (fun rf1 rf1e rf1s => ?_)
  refine r_getI hX hP rfl fl_X11_442_132 rf1s (fun kf2 kf2e kf2a kf2b => ?_)
  refine r_if_ne hX hP rfl (tgt := 15) rfl (by first | decide | omega) (by first | decide | omega) (fun c3 => ?_) (fun c3 => ?_)
  · skip
    refine r_ex hX hP 1 (pc' := 16) (st' := [(0, 0), (2, this)]) (lo' := [(0, (2, this))]) rfl ?_
    refine r_callV gd hX hP rfl cv_X11_90_128 hS (d' := 0) (mc' := 0) (ms' := 0) (as' := [(0, 0)]) (st := []) (by first | decide | omega) (by first | decide | omega) (by first | decide | omega) rfl rfl (Nat.le_of_ble_eq_true rfl) (c_X11_refused E S G this 0 hS (by first | decide | omega) (by first | decide | omega)) ?_
    rintro _ _ _ ⟨rfl, ⟨G4, rfl⟩, z5, rfl, (⟨rfl, f6⟩ | ⟨rfl, f7⟩)⟩
    · skip
      exfalso; omega
    · skip
      refine r_if_eq hX hP rfl (tgt := 24) rfl (by first | decide | omega) (by first | decide | omega) (fun c8 => ?_) (fun c8 => ?_)
      · skip
        refine r_ex hX hP 1 (pc' := 25) (st' := [(2, this)]) (lo' := [(0, (2, this))]) rfl ?_
        refine r_getKR hX hP rfl fl_X11_78_128 hS (x := rf1) rf1e ?_
        refine r_getKI hX hP rfl fl_X11_442_132 rf1s (x := kf2) kf2e ?_
        exact r_retI hX hP rfl rfl (by first | decide | omega) (by first | decide | omega) ⟨rfl, ⟨_, (hw_sub (hw_refl _ _) rfl).symm⟩, kf2, rfl, (by first | decide | omega)⟩
      · skip
        exfalso; omega
  · skip
    refine r_ex hX hP 2 (pc' := 16) (st' := [(0, 5), (2, this)]) (lo' := [(0, (2, this))]) rfl ?_
    refine r_callV gd hX hP rfl cv_X11_90_128 hS (d' := 0) (mc' := 0) (ms' := 0) (as' := [(0, 5)]) (st := []) (by first | decide | omega) (by first | decide | omega) (by first | decide | omega) rfl rfl (Nat.le_of_ble_eq_true rfl) (c_X11_refused E S G this 5 hS (by first | decide | omega) (by first | decide | omega)) ?_
    rintro _ _ _ ⟨rfl, ⟨G9, rfl⟩, z10, rfl, (⟨rfl, f11⟩ | ⟨rfl, f12⟩)⟩
    · skip
      refine r_if_eq hX hP rfl (tgt := 24) rfl (by first | decide | omega) (by first | decide | omega) (fun c13 => ?_) (fun c13 => ?_)
      · skip
        exfalso; omega
      · skip
        refine r_ex hX hP 1 (pc' := 23) (st' := [(0, (-1))]) (lo' := [(0, (2, this))]) rfl ?_
        exact r_retI hX hP rfl rfl (by first | decide | omega) (by first | decide | omega) ⟨rfl, ⟨_, (hw_sub (hw_refl _ _) rfl).symm⟩, (-1), rfl, (by first | decide | omega)⟩
    · skip
      exfalso; omega
set_option maxRecDepth 100000 in
set_option maxHeartbeats 4000000 in
theorem c_X11_because (E : En) (S : Sg) (G : Gh) (this : Int) (k : Int) (hS : S this = 128) (k_a : (-2147483648) ≤ k) (k_b : k ≤ 2147483647) : Calls E mX11_because [(2, this), (0, k)] S G 1 0 0 (fun r S' G' => S = S' ∧ (∃ G1, hw [(128, 0)] G G1 = G') ∧ ∃ z : Int, r = some (0, z) ∧ (-2147483648) ≤ z ∧ z ≤ 2147483647) := by
  refine calls_by [(0, (2, this)), (1, (0, k))] rfl rfl (Nat.le_of_ble_eq_true rfl) (fun X hX => ?_)
  have hP := hPX11_because
  refine r_ex hX hP 1 (pc' := 1) (st' := [(2, this)]) (lo' := [(0, (2, this)), (1, (0, k))]) rfl ?_
  refine r_getR hX hP rfl fl_X11_78_128 hS (fun rf1 rf1e rf1s => ?_)
  refine r_getI hX hP rfl fl_X11_442_132 rf1s (fun kf2 kf2e kf2a kf2b => ?_)
  refine r_if_ne hX hP rfl (tgt := 14) rfl (by first | decide | omega) (by first | decide | omega) (fun c3 => ?_) (fun c3 => ?_)
  · skip
    refine r_ex hX hP 1 (pc' := 15) (st' := [(2, this)]) (lo' := [(0, (2, this)), (1, (0, k))]) rfl ?_
    refine r_getKR hX hP rfl fl_X11_78_128 hS (x := rf1) rf1e ?_
    refine r_ex hX hP 1 (pc' := 19) (st' := [(0, k), (2, rf1)]) (lo' := [(0, (2, this)), (1, (0, k))]) rfl ?_
    refine r_callV gd hX hP rfl cv_X11_445_132 rf1s (d' := 0) (mc' := 0) (ms' := 0) (as' := [(0, k)]) (st := []) (by first | decide | omega) (by first | decide | omega) (by first | decide | omega) rfl rfl (Nat.le_of_ble_eq_true rfl) (c_X7_inSet E S G rf1 k rf1s (by first | decide | omega) (by first | decide | omega)) ?_
    rintro _ _ _ ⟨rfl, rfl, z4, rfl, z4a, z4b⟩
    refine r_ex hX hP 4 (pc' := 26) (st' := [(0, (-1)), (0, z4), (2, this)]) (lo' := [(0, (2, this)), (1, (0, k)), (2, (0, z4))]) rfl ?_
    refine r_ic_ne hX hP rfl (tgt := 33) rfl (by first | decide | omega) (by first | decide | omega) (by first | decide | omega) (by first | decide | omega) (fun c5 => ?_) (fun c5 => ?_)
    · skip
      refine r_ex hX hP 1 (pc' := 34) (st' := [(0, 0), (2, this)]) (lo' := [(0, (2, this)), (1, (0, k)), (2, (0, z4))]) rfl ?_
      refine r_callV gd hX hP rfl cv_X11_90_128 hS (d' := 0) (mc' := 0) (ms' := 0) (as' := [(0, 0)]) (st := []) (by first | decide | omega) (by first | decide | omega) (by first | decide | omega) rfl rfl (Nat.le_of_ble_eq_true rfl) (c_X11_refused E S G this 0 hS (by first | decide | omega) (by first | decide | omega)) ?_
      rintro _ _ _ ⟨rfl, ⟨G6, rfl⟩, z7, rfl, (⟨rfl, f8⟩ | ⟨rfl, f9⟩)⟩
      · skip
        exfalso; omega
      · skip
        refine r_ex hX hP 2 (pc' := 39) (st' := [(0, z4)]) (lo' := [(0, (2, this)), (1, (0, k)), (2, (0, z4))]) rfl ?_
        exact r_retI hX hP rfl rfl (by first | decide | omega) (by first | decide | omega) ⟨rfl, ⟨_, (hw_sub (hw_refl _ _) rfl).symm⟩, z4, rfl, (by first | decide | omega)⟩
    · skip
      refine r_ex hX hP 2 (pc' := 34) (st' := [(0, 5), (2, this)]) (lo' := [(0, (2, this)), (1, (0, k)), (2, (0, z4))]) rfl ?_
      refine r_callV gd hX hP rfl cv_X11_90_128 hS (d' := 0) (mc' := 0) (ms' := 0) (as' := [(0, 5)]) (st := []) (by first | decide | omega) (by first | decide | omega) (by first | decide | omega) rfl rfl (Nat.le_of_ble_eq_true rfl) (c_X11_refused E S G this 5 hS (by first | decide | omega) (by first | decide | omega)) ?_
      rintro _ _ _ ⟨rfl, ⟨G10, rfl⟩, z11, rfl, (⟨rfl, f12⟩ | ⟨rfl, f13⟩)⟩
      · skip
        refine r_ex hX hP 2 (pc' := 39) (st' := [(0, z4)]) (lo' := [(0, (2, this)), (1, (0, k)), (2, (0, z4))]) rfl ?_
        exact r_retI hX hP rfl rfl (by first | decide | omega) (by first | decide | omega) ⟨rfl, ⟨_, (hw_sub (hw_refl _ _) rfl).symm⟩, z4, rfl, (by first | decide | omega)⟩
      · skip
        exfalso; omega
  · skip
    refine r_ex hX hP 6 (pc' := 26) (st' := [(0, (-1)), (0, (-1)), (2, this)]) (lo' := [(0, (2, this)), (1, (0, k)), (2, (0, (-1)))]) rfl ?_
    refine r_ic_ne hX hP rfl (tgt := 33) rfl (by first | decide | omega) (by first | decide | omega) (by first | decide | omega) (by first | decide | omega) (fun c14 => ?_) (fun c14 => ?_)
    · skip
      exfalso; omega
    · skip
      refine r_ex hX hP 2 (pc' := 34) (st' := [(0, 5), (2, this)]) (lo' := [(0, (2, this)), (1, (0, k)), (2, (0, (-1)))]) rfl ?_
      refine r_callV gd hX hP rfl cv_X11_90_128 hS (d' := 0) (mc' := 0) (ms' := 0) (as' := [(0, 5)]) (st := []) (by first | decide | omega) (by first | decide | omega) (by first | decide | omega) rfl rfl (Nat.le_of_ble_eq_true rfl) (c_X11_refused E S G this 5 hS (by first | decide | omega) (by first | decide | omega)) ?_
      rintro _ _ _ ⟨rfl, ⟨G15, rfl⟩, z16, rfl, (⟨rfl, f17⟩ | ⟨rfl, f18⟩)⟩
      · skip
        refine r_ex hX hP 2 (pc' := 39) (st' := [(0, (-1))]) (lo' := [(0, (2, this)), (1, (0, k)), (2, (0, (-1)))]) rfl ?_
        exact r_retI hX hP rfl rfl (by first | decide | omega) (by first | decide | omega) ⟨rfl, ⟨_, (hw_sub (hw_refl _ _) rfl).symm⟩, (-1), rfl, (by first | decide | omega)⟩
      · skip
        exfalso; omega
