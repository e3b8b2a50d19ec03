set_option maxRecDepth 100000 in
set_option maxHeartbeats 4000000 in
theorem c_X11_nameT (E : En) (S : Sg) (G : Gh) (this : Int) (paper : Int) (name_ : Int) (day : Int) (known : Int) (hS : S this = 128) (na : Int) (na_e : na = G 128 this 11) (na_s : S na = 159) (nan : Int) (nan_e : nan = G 159 na 2) (la : Int) (la_e : la = G 128 this 1) (paper_a : (-2147483648) ≤ paper) (paper_b : paper ≤ 2147483647) (name__a : (-2147483648) ≤ name_) (name__b : name_ ≤ 2147483647) (day_a : (-2147483648) ≤ day) (day_b : day ≤ 2147483647) (known_a : (-2147483648) ≤ known) (known_b : known ≤ 2147483647) (ci : CI E S G) : Calls E mX11_name [(2, this), (0, paper), (0, name_), (0, day), (0, known)] S G 15 2 82 (fun r S' G' => Gr [141, 152, 160, 161, 162, 163, 164, 165, 166, 167, 168, 169, 170, 171, 172, 173, 174, 175, 176, 177, 178, 179, 180, 181, 182, 183, 184, 185] [(128, 0), (128, 1), (129, 1), (152, 0), (152, 1), (152, 2), (152, 3), (152, 4), (152, 5), (152, 6), (159, 0), (159, 1), (159, 2), (180, -1), (181, -1), (182, -1), (183, -1), (184, -1), (185, -1)] S G S' G' ∧ ∃ z : Int, r = some (0, z) ∧ ∃ s2 : Int, s2 = G' 159 na 2 ∧ ∃ l2 : Int, l2 = G' 128 this 1 ∧ 0 ≤ z ∧ z ≤ 1 ∧ ((0 ≤ paper ∧ paper ≤ 19 ∧ 0 ≤ name_ ∧ name_ ≤ 9999 ∧ 0 ≤ day ∧ day ≤ 40000 ∧ 0 ≤ known ∧ known ≤ 40000 ∧ nan < 60 ∧ la ≤ known ∧ z = 1 ∧ s2 = nan + 1 ∧ l2 = known) ∨ (z = 0 ∧ s2 = nan ∧ l2 = la ∧ ¬ (0 ≤ paper ∧ paper ≤ 19 ∧ 0 ≤ name_ ∧ name_ ≤ 9999 ∧ 0 ≤ day ∧ day ≤ 40000 ∧ 0 ≤ known ∧ known ≤ 40000 ∧ nan < 60 ∧ la ≤ known))) ∧ CI E S' G' ∧ (∀ i : Int, 0 ≤ i → i < nan → elm S' G' 159 na i = elm S G 159 na i) ∧ (z = 0 ∨ (S (elm S' G' 159 na nan) = 0 ∧ S' (elm S' G' 159 na nan) = 141 ∧ G' 141 (elm S' G' 159 na nan) 2 = paper ∧ G' 141 (elm S' G' 159 na nan) 3 = day ∧ G' 141 (elm S' G' 159 na nan) 4 = name_ ∧ G' 141 (elm S' G' 159 na nan) 0 = known ∧ G' 141 (elm S' G' 159 na nan) 1 = -1))) := by
  refine calls_by [(0, (2, this)), (1, (0, paper)), (2, (0, name_)), (3, (0, day)), (4, (0, known))] rfl rfl (Nat.le_of_ble_eq_true rfl) (fun X hX => ?_)
  have hP := hPX11_name
  refine r_peekI hX (tl_159 2 rfl (by decide)) na_s (fun nan_o nan_oe nan_oa nan_ob => ?_)
  obtain rfl : nan = nan_o := nan_e.trans nan_oe.symm
  refine r_peekI hX (tl_128 1 rfl (by decide)) hS (fun la_o la_oe la_oa la_ob => ?_)
  obtain rfl : la = la_o := la_e.trans la_oe.symm
  have j33 : ∀ (l5_j33 : Int), 0 ≤ l5_j33 → l5_j33 ≤ 1 → ((l5_j33 = 1 ∧ ¬ (0 ≤ name_ ∧ name_ ≤ 9999 ∧ 0 ≤ day ∧ day ≤ 40000 ∧ 0 ≤ known ∧ known ≤ 40000)) ∨ (l5_j33 = 0 ∧ 0 ≤ name_ ∧ name_ ≤ 9999 ∧ 0 ≤ day ∧ day ≤ 40000 ∧ 0 ≤ known ∧ known ≤ 40000)) → X 0 0 33 [] [(0, (2, this)), (1, (0, paper)), (2, (0, name_)), (3, (0, day)), (4, (0, known)), (5, (0, l5_j33))] S G := by
    intro l5_j33 yj33_0 yj33_1 yj33_2
    refine r_ex hX hP 2 (pc' := 35) (st' := [(0, paper), (2, this)]) (lo' := [(0, (2, this)), (1, (0, paper)), (2, (0, name_)), (3, (0, day)), (4, (0, known)), (5, (0, l5_j33))]) rfl ?_
    refine r_callS gd hX hP rfl cs_X11_120 (d' := 1) (mc' := 0) (ms' := 0) (as' := [(0, paper)]) (st := [(2, this)]) (by first | decide | omega) (by first | decide | omega) (by first | decide | omega) rfl rfl (Nat.le_of_ble_eq_true rfl) (c_isPaperX E S G paper (by first | decide | omega) (by first | decide | omega)) ?_
    rintro _ _ _ ⟨rfl, rfl, z1, rfl, (⟨rfl, f2, f3⟩ | ⟨rfl, f4⟩)⟩
    · skip
      refine r_if_ne hX hP rfl (tgt := 45) rfl (by first | decide | omega) (by first | decide | omega) (fun c5 => ?_) (fun c5 => ?_)
      · skip
        refine r_ex hX hP 3 (pc' := 49) (st' := [(2, this), (0, l5_j33), (0, 0), (2, this)]) (lo' := [(0, (2, this)), (1, (0, paper)), (2, (0, name_)), (3, (0, day)), (4, (0, known)), (5, (0, l5_j33))]) rfl ?_
        refine r_getKR hX hP rfl fl_X11_48_128 hS (x := na) na_e ?_
        refine r_callV gd hX hP rfl cv_X11_125_159 na_s (d' := 0) (mc' := 0) (ms' := 0) (as' := []) (st := [(0, l5_j33), (0, 0), (2, this)]) (by first | decide | omega) (by first | decide | omega) (by first | decide | omega) rfl rfl (Nat.le_of_ble_eq_true rfl) (c_size_Lna E S G na  na_s nan nan_e) ?_
        rintro _ _ _ ⟨rfl, rfl, z6, rfl, z6a, z6b, f7⟩
        refine r_ex hX hP 1 (pc' := 57) (st' := [(0, 60), (0, z6), (0, l5_j33), (0, 0), (2, this)]) (lo' := [(0, (2, this)), (1, (0, paper)), (2, (0, name_)), (3, (0, day)), (4, (0, known)), (5, (0, l5_j33))]) rfl ?_
        refine r_ic_lt hX hP rfl (tgt := 64) rfl (by first | decide | omega) (by first | decide | omega) (by first | decide | omega) (by first | decide | omega) (fun c8 => ?_) (fun c8 => ?_)
        · skip
          refine r_ex hX hP 3 (pc' := 68) (st' := [(2, this), (0, known), (0, 0), (0, l5_j33), (0, 0), (2, this)]) (lo' := [(0, (2, this)), (1, (0, paper)), (2, (0, name_)), (3, (0, day)), (4, (0, known)), (5, (0, l5_j33))]) rfl ?_
          refine r_getKI hX hP rfl fl_X11_129_128 hS (x := la) la_e ?_
          refine r_ic_ge hX hP rfl (tgt := 78) rfl (by first | decide | omega) (by first | decide | omega) (by first | decide | omega) (by first | decide | omega) (fun c9 => ?_) (fun c9 => ?_)
          · skip
            refine r_ex hX hP 1 (pc' := 79) (st' := [(0, 0), (0, 0), (0, l5_j33), (0, 0), (2, this)]) (lo' := [(0, (2, this)), (1, (0, paper)), (2, (0, name_)), (3, (0, day)), (4, (0, known)), (5, (0, l5_j33))]) rfl ?_
            refine r_callS gd hX hP rfl cs_X11_112 (d' := 0) (mc' := 0) (ms' := 0) (as' := [(0, 0), (0, l5_j33), (0, 0), (0, 0)]) (st := [(2, this)]) (by first | decide | omega) (by first | decide | omega) (by first | decide | omega) rfl rfl (Nat.le_of_ble_eq_true rfl) (c_X11_first E S G 0 l5_j33 0 0 (by first | decide | omega) (by first | decide | omega) (by first | decide | omega) (by first | decide | omega) (by first | decide | omega) (by first | decide | omega) (by first | decide | omega) (by first | decide | omega)) ?_
            rintro _ _ _ ⟨rfl, rfl, z10, rfl, (⟨rfl, f11⟩ | ⟨rfl, f12, f13⟩ | ⟨rfl, f14, f15, f16⟩ | ⟨rfl, f17, f18, f19, f20⟩ | ⟨rfl, f21, f22, f23, f24⟩)⟩
            · skip
              exfalso; omega
            · skip
              refine r_callV gd hX hP rfl cv_X11_90_128 hS (d' := 0) (mc' := 0) (ms' := 0) (as' := [(0, 2)]) (st := []) (by first | decide | omega) (by first | decide | omega) (by first | decide | omega) rfl rfl (Nat.le_of_ble_eq_true rfl) (c_X11_refused E S G this 2 hS (by first | decide | omega) (by first | decide | omega)) ?_
              rintro _ _ _ ⟨rfl, ⟨G25, rfl⟩, z26, rfl, (⟨rfl, f27⟩ | ⟨rfl, f28⟩)⟩
              · skip
                refine r_if_eq hX hP rfl (tgt := 90) rfl (by first | decide | omega) (by first | decide | omega) (fun c29 => ?_) (fun c29 => ?_)
                · skip
                  exfalso; omega
                · skip
                  refine r_ex hX hP 1 (pc' := 89) (st' := [(0, 0)]) (lo' := [(0, (2, this)), (1, (0, paper)), (2, (0, name_)), (3, (0, day)), (4, (0, known)), (5, (0, l5_j33))]) rfl ?_
                  have g30 : Gr [141, 152, 160, 161, 162, 163, 164, 165, 166, 167, 168, 169, 170, 171, 172, 173, 174, 175, 176, 177, 178, 179, 180, 181, 182, 183, 184, 185] [(128, 0), (128, 1), (129, 1), (152, 0), (152, 1), (152, 2), (152, 3), (152, 4), (152, 5), (152, 6), (159, 0), (159, 1), (159, 2), (180, -1), (181, -1), (182, -1), (183, -1), (184, -1), (185, -1)] S G S (hw [(128, 0)] G G25) := (gr_hw (gr_refl [141, 152, 160, 161, 162, 163, 164, 165, 166, 167, 168, 169, 170, 171, 172, 173, 174, 175, 176, 177, 178, 179, 180, 181, 182, 183, 184, 185] [(128, 0), (128, 1), (129, 1), (152, 0), (152, 1), (152, 2), (152, 3), (152, 4), (152, 5), (152, 6), (159, 0), (159, 1), (159, 2), (180, -1), (181, -1), (182, -1), (183, -1), (184, -1), (185, -1)] S G) rfl)
                  have ci31 : CI E S (hw [(128, 0)] G G25) := (ci_hw ci rfl)
                  exact r_retZ hX hP rfl rfl (by first | decide | omega) (by first | decide | omega) (by first | decide | omega) (by first | decide | omega) ⟨g30, 0, rfl, nan, nan_e, la, la_e, (by first | decide | omega), (by first | decide | omega), (by first | decide | omega), ci31, (fun i h0 h1 => elk_159 ci na_s (frm_tr (frm_refl gk159 S G) (frm_hw rfl)) h0 (by rw [← nan_e]; exact h1)), (Or.inl rfl)⟩
              · skip
                exfalso; omega
            · skip
              exfalso; omega
            · skip
              exfalso; omega
            · skip
              refine r_callV gd hX hP rfl cv_X11_90_128 hS (d' := 0) (mc' := 0) (ms' := 0) (as' := [(0, 0)]) (st := []) (by first | decide | omega) (by first | decide | omega) (by first | decide | omega) rfl rfl (Nat.le_of_ble_eq_true rfl) (c_X11_refused E S G this 0 hS (by first | decide | omega) (by first | decide | omega)) ?_
              rintro _ _ _ ⟨rfl, ⟨G32, rfl⟩, z33, rfl, (⟨rfl, f34⟩ | ⟨rfl, f35⟩)⟩
              · skip
                exfalso; omega
              · skip
                refine r_if_eq hX hP rfl (tgt := 90) rfl (by first | decide | omega) (by first | decide | omega) (fun c36 => ?_) (fun c36 => ?_)
                · skip
                  refine r_ex hX hP 1 (pc' := 91) (st' := [(2, this)]) (lo' := [(0, (2, this)), (1, (0, paper)), (2, (0, name_)), (3, (0, day)), (4, (0, known)), (5, (0, l5_j33))]) rfl ?_
                  refine r_getKR hX hP rfl fl_X11_48_128 hS (x := na) na_e ?_
                  have g37 : Gr [141, 152, 160, 161, 162, 163, 164, 165, 166, 167, 168, 169, 170, 171, 172, 173, 174, 175, 176, 177, 178, 179, 180, 181, 182, 183, 184, 185] [(128, 0), (128, 1), (129, 1), (152, 0), (152, 1), (152, 2), (152, 3), (152, 4), (152, 5), (152, 6), (159, 0), (159, 1), (159, 2), (180, -1), (181, -1), (182, -1), (183, -1), (184, -1), (185, -1)] S G S (hw [(128, 0)] G G32) := (gr_hw (gr_refl [141, 152, 160, 161, 162, 163, 164, 165, 166, 167, 168, 169, 170, 171, 172, 173, 174, 175, 176, 177, 178, 179, 180, 181, 182, 183, 184, 185] [(128, 0), (128, 1), (129, 1), (152, 0), (152, 1), (152, 2), (152, 3), (152, 4), (152, 5), (152, 6), (159, 0), (159, 1), (159, 2), (180, -1), (181, -1), (182, -1), (183, -1), (184, -1), (185, -1)] S G) rfl)
                  have ci38 : CI E S (hw [(128, 0)] G G32) := (ci_hw ci rfl)
                  refine r_tk hX (fun tk39 => ?_)
                  refine r_newA hX hP rfl (L := 152) (N := 9) nw_X11_132_152 (by first | decide | omega) (by first | decide | omega) (fun n40 S41 G42 n40z n40n n40l g43 n40v => ?_)
                  have z44 : S n40 = 0 := gr_zero g37 n40z
                  have s45 : S41 this = 128 := gr_lab g43 hS (by decide)
                  have s46 : S41 na = 159 := gr_lab g43 na_s (by decide)
                  have e47 : na = G42 128 this 11 := gr_val g43 na_e hS (by decide) rfl
                  have e48 : nan = G42 159 na 2 := gr_val g43 nan_e na_s (by decide) rfl
                  have e49 : la = G42 128 this 1 := gr_val g43 la_e hS (by decide) rfl
                  have g50 : Gr [141, 152, 160, 161, 162, 163, 164, 165, 166, 167, 168, 169, 170, 171, 172, 173, 174, 175, 176, 177, 178, 179, 180, 181, 182, 183, 184, 185] [(128, 0), (128, 1), (129, 1), (152, 0), (152, 1), (152, 2), (152, 3), (152, 4), (152, 5), (152, 6), (159, 0), (159, 1), (159, 2), (180, -1), (181, -1), (182, -1), (183, -1), (184, -1), (185, -1)] S G S41 G42 := gr_call g37 g43 rfl rfl
                  have ci51 : CI E S41 G42 := ci_gr ci38 tk39 g43 rfl rfl
                  refine r_ex hX hP 5 (pc' := 103) (st' := [(0, known), (0, name_), (0, day), (0, paper), (2, n40), (2, n40), (2, na)]) (lo' := [(0, (2, this)), (1, (0, paper)), (2, (0, name_)), (3, (0, day)), (4, (0, known)), (5, (0, l5_j33))]) rfl ?_
                  refine r_callI gd hX hP rfl ci_X11_134 n40n (d' := 4) (mc' := 0) (ms' := 0) (as' := [(0, paper), (0, day), (0, name_), (0, known)]) (st := [(2, n40), (2, na)]) (by first | decide | omega) (by first | decide | omega) (by first | decide | omega) rfl rfl (Nat.le_of_ble_eq_true rfl) (c_X1_initT E S41 G42 n40 paper day name_ known n40l (by first | decide | omega) (by first | decide | omega) (by first | decide | omega) (by first | decide | omega) (by first | decide | omega) (by first | decide | omega) (by first | decide | omega) (by first | decide | omega)) ?_
                  rintro _ _ _ ⟨rfl, ⟨G52, rfl⟩, rfl, knh53, knh53e, sth54, sth54e, pah55, pah55e, dah56, dah56e, nuh57, nuh57e, f58, f59, f60, f61, f62⟩
                  refine r_peekI hX (tl_152 0 rfl (by decide)) n40l (fun o63 o63e o63a o63b => ?_)
                  obtain rfl : knh53 = o63 := knh53e.trans o63e.symm
                  refine r_peekI hX (tl_152 1 rfl (by decide)) n40l (fun o64 o64e o64a o64b => ?_)
                  obtain rfl : sth54 = o64 := sth54e.trans o64e.symm
                  refine r_peekI hX (tl_152 2 rfl (by decide)) n40l (fun o65 o65e o65a o65b => ?_)
                  obtain rfl : pah55 = o65 := pah55e.trans o65e.symm
                  refine r_peekI hX (tl_152 3 rfl (by decide)) n40l (fun o66 o66e o66a o66b => ?_)
                  obtain rfl : dah56 = o66 := dah56e.trans o66e.symm
                  refine r_peekI hX (tl_152 4 rfl (by decide)) n40l (fun o67 o67e o67a o67b => ?_)
                  obtain rfl : nuh57 = o67 := nuh57e.trans o67e.symm
                  have e68 : known = (hw [(152, 0), (152, 1), (152, 2), (152, 3), (152, 4), (152, 5), (152, 6)] G42 G52) 152 n40 0 := by rw [← f58]; exact knh53e
                  have e69 : ((-1) : Int) = (hw [(152, 0), (152, 1), (152, 2), (152, 3), (152, 4), (152, 5), (152, 6)] G42 G52) 152 n40 1 := by rw [← f59]; exact sth54e
                  have e70 : paper = (hw [(152, 0), (152, 1), (152, 2), (152, 3), (152, 4), (152, 5), (152, 6)] G42 G52) 152 n40 2 := by rw [← f60]; exact pah55e
                  have e71 : day = (hw [(152, 0), (152, 1), (152, 2), (152, 3), (152, 4), (152, 5), (152, 6)] G42 G52) 152 n40 3 := by rw [← f61]; exact dah56e
                  have e72 : name_ = (hw [(152, 0), (152, 1), (152, 2), (152, 3), (152, 4), (152, 5), (152, 6)] G42 G52) 152 n40 4 := by rw [← f62]; exact nuh57e
                  have g73 : Gr [141, 152, 160, 161, 162, 163, 164, 165, 166, 167, 168, 169, 170, 171, 172, 173, 174, 175, 176, 177, 178, 179, 180, 181, 182, 183, 184, 185] [(128, 0), (128, 1), (129, 1), (152, 0), (152, 1), (152, 2), (152, 3), (152, 4), (152, 5), (152, 6), (159, 0), (159, 1), (159, 2), (180, -1), (181, -1), (182, -1), (183, -1), (184, -1), (185, -1)] S G S41 (hw [(152, 0), (152, 1), (152, 2), (152, 3), (152, 4), (152, 5), (152, 6)] G42 G52) := (gr_hw g50 rfl)
                  refine r_finA hX (L := 152) (ci := 2) (fs := fs_152) rfl n40l (by decide) (fun hr74 => ?_)
                  have hf75 : Fnl E fs_141 152 S41 (hw [(152, 0), (152, 1), (152, 2), (152, 3), (152, 4), (152, 5), (152, 6)] G42 G52) n40 := by
                    intro j hj
                    rcases (by have : j < 9 := hj; omega : j = 0 ∨ j = 1 ∨ j = 2 ∨ j = 3 ∨ j = 4 ∨ j = 5 ∨ j = 6 ∨ j = 7 ∨ j = 8) with rfl | rfl | rfl | rfl | rfl | rfl | rfl | rfl | rfl
                    · exact hr74 0 (by decide)
                    · exact hr74 1 (by decide)
                    · exact hr74 2 (by decide)
                    · exact hr74 3 (by decide)
                    · exact hr74 4 (by decide)
                    · exact hr74 5 (by decide)
                    · exact hr74 6 (by decide)
                    · exact hr74 7 (by decide)
                    · exact hr74 8 (by decide)
                  have ci76 : CI E S41 (hw [(152, 0), (152, 1), (152, 2), (152, 3), (152, 4), (152, 5), (152, 6)] G42 G52) := (ci_hw ci51 rfl)
                  refine r_tk hX (fun tk77 => ?_)
                  refine r_relabF hX (L := 152) (L' := 141) (ci := 2) (fs := fs_152) (fs' := fs_141) rfl rfl rfl (by decide) (by decide) nf_152 (by decide) n40l hf75 (fun S79 G80 r78 => ?_)
                  have s82 : S79 this = 128 := r78.lab n40l s45 (by decide)
                  have s83 : S79 na = 159 := r78.lab n40l s46 (by decide)
                  have e84 : na = G80 128 this 11 := rs_val r78 n40l e47 s45 (by decide)
                  have e85 : nan = G80 159 na 2 := rs_val r78 n40l e48 s46 (by decide)
                  have e86 : la = G80 128 this 1 := rs_val r78 n40l e49 s45 (by decide)
                  have e87 : known = G80 141 n40 0 := e68.trans (r78.2.2.1 0).symm
                  have e88 : (-1) = G80 141 n40 1 := e69.trans (r78.2.2.1 1).symm
                  have e89 : paper = G80 141 n40 2 := e70.trans (r78.2.2.1 2).symm
                  have e90 : day = G80 141 n40 3 := e71.trans (r78.2.2.1 3).symm
                  have e91 : name_ = G80 141 n40 4 := e72.trans (r78.2.2.1 4).symm
                  have g92 : Gr [141, 152, 160, 161, 162, 163, 164, 165, 166, 167, 168, 169, 170, 171, 172, 173, 174, 175, 176, 177, 178, 179, 180, 181, 182, 183, 184, 185] [(128, 0), (128, 1), (129, 1), (152, 0), (152, 1), (152, 2), (152, 3), (152, 4), (152, 5), (152, 6), (159, 0), (159, 1), (159, 2), (180, -1), (181, -1), (182, -1), (183, -1), (184, -1), (185, -1)] S G S79 G80 := gr_rs g73 r78 z44 rfl
                  have ci93 : CI E S79 G80 := ci_rs ci76 tk77 r78 n40l rfl rfl (fun e => absurd e (by decide)) (fun e => absurd e (by decide))
                  refine r_tk hX (fun tk94 => ?_)
                  refine r_callV gd hX hP rfl cv_X11_143_159 s83 (d' := 14) (mc' := 1) (ms' := 73) (as' := [(2, n40)]) (st := []) (by first | decide | omega) (by first | decide | omega) (by first | decide | omega) rfl rfl (Nat.le_of_ble_eq_true rfl) (c_add_LnaT E S79 G80 na n40 s83 r78.1 nan e85 (by first | decide | omega) ci93) ?_
                  rintro _ S95 G96 ⟨g97, z98, rfl, z98a, z98b, ci99, q100, q101, q102⟩
                  have s103 : S95 this = 128 := gr_lab g97 s82 (by decide)
                  have s104 : S95 na = 159 := gr_lab g97 s83 (by decide)
                  have s105 : S95 n40 = 141 := gr_lab g97 r78.1 (by decide)
                  have e106 : na = G96 128 this 11 := gr_val g97 e84 s82 (by decide) rfl
                  have e107 : la = G96 128 this 1 := gr_val g97 e86 s82 (by decide) rfl
                  have e108 : known = G96 141 n40 0 := gr_val g97 e87 r78.1 (by decide) rfl
                  have e109 : (-1) = G96 141 n40 1 := gr_val g97 e88 r78.1 (by decide) rfl
                  have e110 : paper = G96 141 n40 2 := gr_val g97 e89 r78.1 (by decide) rfl
                  have e111 : day = G96 141 n40 3 := gr_val g97 e90 r78.1 (by decide) rfl
                  have e112 : name_ = G96 141 n40 4 := gr_val g97 e91 r78.1 (by decide) rfl
                  have g113 : Gr [141, 152, 160, 161, 162, 163, 164, 165, 166, 167, 168, 169, 170, 171, 172, 173, 174, 175, 176, 177, 178, 179, 180, 181, 182, 183, 184, 185] [(128, 0), (128, 1), (129, 1), (152, 0), (152, 1), (152, 2), (152, 3), (152, 4), (152, 5), (152, 6), (159, 0), (159, 1), (159, 2), (180, -1), (181, -1), (182, -1), (183, -1), (184, -1), (185, -1)] S G S95 G96 := gr_call g92 g97 rfl rfl
                  refine r_ex hX hP 3 (pc' := 113) (st' := [(0, known), (2, this)]) (lo' := [(0, (2, this)), (1, (0, paper)), (2, (0, name_)), (3, (0, day)), (4, (0, known)), (5, (0, l5_j33))]) rfl ?_
                  refine r_callV gd hX hP rfl cv_X11_147_128 s103 (d' := 0) (mc' := 0) (ms' := 0) (as' := [(0, known)]) (st := []) (by first | decide | omega) (by first | decide | omega) (by first | decide | omega) rfl rfl (Nat.le_of_ble_eq_true rfl) (c_X11_tellT E S95 G96 this known s103 (by first | decide | omega) (by first | decide | omega)) ?_
                  rintro _ _ _ ⟨rfl, ⟨G114, rfl⟩, rfl, lah115, lah115e, f116⟩
                  refine r_peekI hX (tl_128 1 rfl (by decide)) s103 (fun o117 o117e o117a o117b => ?_)
                  obtain rfl : lah115 = o117 := lah115e.trans o117e.symm
                  refine r_ex hX hP 1 (pc' := 117) (st' := [(0, 1)]) (lo' := [(0, (2, this)), (1, (0, paper)), (2, (0, name_)), (3, (0, day)), (4, (0, known)), (5, (0, l5_j33))]) rfl ?_
                  have g118 : Gr [141, 152, 160, 161, 162, 163, 164, 165, 166, 167, 168, 169, 170, 171, 172, 173, 174, 175, 176, 177, 178, 179, 180, 181, 182, 183, 184, 185] [(128, 0), (128, 1), (129, 1), (152, 0), (152, 1), (152, 2), (152, 3), (152, 4), (152, 5), (152, 6), (159, 0), (159, 1), (159, 2), (180, -1), (181, -1), (182, -1), (183, -1), (184, -1), (185, -1)] S G S95 (hw [(128, 1), (129, 1)] G96 G114) := (gr_hw g113 rfl)
                  refine r_peekI hX (tl_159 2 rfl (by decide)) s104 (fun sip119 sip119e sip119a sip119b => ?_)
                  have k120 := sip119e.trans (show (hw [(128, 1), (129, 1)] G96 G114) 159 na 2 = nan + 1 from q100)
                  have ci121 : CI E S95 (hw [(128, 1), (129, 1)] G96 G114) := (ci_hw ci99 rfl)
                  have el122s : G96 159 na 2 = nan + 1 := q100
                  have el122f : Frm gk159 S95 G96 S95 (hw [(128, 1), (129, 1)] G96 G114) := (frm_tr (frm_refl gk159 S95 G96) (frm_hw rfl))
                  have el122o : ∀ i : Int, 0 ≤ i → i < nan → elm S95 (hw [(128, 1), (129, 1)] G96 G114) 159 na i = elm S G 159 na i := fun i h0 h1 => (elk_159 ci99 s104 el122f h0 (by rw [el122s]; omega)).trans ((q101 i h0 h1).trans (elk_159 ci na_s (frm_rs (frm_tr (frm_tr (frm_tr (frm_refl gk159 S G) (frm_hw rfl)) (frm_gr g43 rfl)) (frm_hw rfl)) r78 z44) h0 (by rw [← nan_e]; exact h1)))
                  have el122n : elm S95 (hw [(128, 1), (129, 1)] G96 G114) 159 na nan = n40 := (elk_159 ci99 s104 el122f (by first | decide | omega) (by rw [el122s]; omega)).trans q102
                  exact r_retZ hX hP rfl rfl (by first | decide | omega) (by first | decide | omega) (by first | decide | omega) (by first | decide | omega) ⟨g118, 1, rfl, sip119, sip119e, lah115, lah115e, (by first | decide | omega), (by first | decide | omega), (by first | decide | omega), ci121, el122o, (Or.inr (by rw [el122n]; exact ⟨z44, s105, (e110.symm.trans (show paper = paper from by omega)), (e111.symm.trans (show day = day from by omega)), (e112.symm.trans (show name_ = name_ from by omega)), (e108.symm.trans (show known = known from by omega)), (e109.symm.trans (show (-1) = -1 from by omega))⟩))⟩
                · skip
                  exfalso; omega
          · skip
            refine r_ex hX hP 2 (pc' := 79) (st' := [(0, 1), (0, 0), (0, l5_j33), (0, 0), (2, this)]) (lo' := [(0, (2, this)), (1, (0, paper)), (2, (0, name_)), (3, (0, day)), (4, (0, known)), (5, (0, l5_j33))]) rfl ?_
            refine r_callS gd hX hP rfl cs_X11_112 (d' := 0) (mc' := 0) (ms' := 0) (as' := [(0, 0), (0, l5_j33), (0, 0), (0, 1)]) (st := [(2, this)]) (by first | decide | omega) (by first | decide | omega) (by first | decide | omega) rfl rfl (Nat.le_of_ble_eq_true rfl) (c_X11_first E S G 0 l5_j33 0 1 (by first | decide | omega) (by first | decide | omega) (by first | decide | omega) (by first | decide | omega) (by first | decide | omega) (by first | decide | omega) (by first | decide | omega) (by first | decide | omega)) ?_
            rintro _ _ _ ⟨rfl, rfl, z123, rfl, (⟨rfl, f124⟩ | ⟨rfl, f125, f126⟩ | ⟨rfl, f127, f128, f129⟩ | ⟨rfl, f130, f131, f132, f133⟩ | ⟨rfl, f134, f135, f136, f137⟩)⟩
            · skip
              exfalso; omega
            · skip
              refine r_callV gd hX hP rfl cv_X11_90_128 hS (d' := 0) (mc' := 0) (ms' := 0) (as' := [(0, 2)]) (st := []) (by first | decide | omega) (by first | decide | omega) (by first | decide | omega) rfl rfl (Nat.le_of_ble_eq_true rfl) (c_X11_refused E S G this 2 hS (by first | decide | omega) (by first | decide | omega)) ?_
              rintro _ _ _ ⟨rfl, ⟨G138, rfl⟩, z139, rfl, (⟨rfl, f140⟩ | ⟨rfl, f141⟩)⟩
              · skip
                refine r_if_eq hX hP rfl (tgt := 90) rfl (by first | decide | omega) (by first | decide | omega) (fun c142 => ?_) (fun c142 => ?_)
                · skip
                  exfalso; omega
                · skip
                  refine r_ex hX hP 1 (pc' := 89) (st' := [(0, 0)]) (lo' := [(0, (2, this)), (1, (0, paper)), (2, (0, name_)), (3, (0, day)), (4, (0, known)), (5, (0, l5_j33))]) rfl ?_
                  have g143 : Gr [141, 152, 160, 161, 162, 163, 164, 165, 166, 167, 168, 169, 170, 171, 172, 173, 174, 175, 176, 177, 178, 179, 180, 181, 182, 183, 184, 185] [(128, 0), (128, 1), (129, 1), (152, 0), (152, 1), (152, 2), (152, 3), (152, 4), (152, 5), (152, 6), (159, 0), (159, 1), (159, 2), (180, -1), (181, -1), (182, -1), (183, -1), (184, -1), (185, -1)] S G S (hw [(128, 0)] G G138) := (gr_hw (gr_refl [141, 152, 160, 161, 162, 163, 164, 165, 166, 167, 168, 169, 170, 171, 172, 173, 174, 175, 176, 177, 178, 179, 180, 181, 182, 183, 184, 185] [(128, 0), (128, 1), (129, 1), (152, 0), (152, 1), (152, 2), (152, 3), (152, 4), (152, 5), (152, 6), (159, 0), (159, 1), (159, 2), (180, -1), (181, -1), (182, -1), (183, -1), (184, -1), (185, -1)] S G) rfl)
                  have ci144 : CI E S (hw [(128, 0)] G G138) := (ci_hw ci rfl)
                  exact r_retZ hX hP rfl rfl (by first | decide | omega) (by first | decide | omega) (by first | decide | omega) (by first | decide | omega) ⟨g143, 0, rfl, nan, nan_e, la, la_e, (by first | decide | omega), (by first | decide | omega), (by first | decide | omega), ci144, (fun i h0 h1 => elk_159 ci na_s (frm_tr (frm_refl gk159 S G) (frm_hw rfl)) h0 (by rw [← nan_e]; exact h1)), (Or.inl rfl)⟩
              · skip
                exfalso; omega
            · skip
              exfalso; omega
            · skip
              refine r_callV gd hX hP rfl cv_X11_90_128 hS (d' := 0) (mc' := 0) (ms' := 0) (as' := [(0, 4)]) (st := []) (by first | decide | omega) (by first | decide | omega) (by first | decide | omega) rfl rfl (Nat.le_of_ble_eq_true rfl) (c_X11_refused E S G this 4 hS (by first | decide | omega) (by first | decide | omega)) ?_
              rintro _ _ _ ⟨rfl, ⟨G145, rfl⟩, z146, rfl, (⟨rfl, f147⟩ | ⟨rfl, f148⟩)⟩
              · skip
                refine r_if_eq hX hP rfl (tgt := 90) rfl (by first | decide | omega) (by first | decide | omega) (fun c149 => ?_) (fun c149 => ?_)
                · skip
                  exfalso; omega
                · skip
                  refine r_ex hX hP 1 (pc' := 89) (st' := [(0, 0)]) (lo' := [(0, (2, this)), (1, (0, paper)), (2, (0, name_)), (3, (0, day)), (4, (0, known)), (5, (0, l5_j33))]) rfl ?_
                  have g150 : Gr [141, 152, 160, 161, 162, 163, 164, 165, 166, 167, 168, 169, 170, 171, 172, 173, 174, 175, 176, 177, 178, 179, 180, 181, 182, 183, 184, 185] [(128, 0), (128, 1), (129, 1), (152, 0), (152, 1), (152, 2), (152, 3), (152, 4), (152, 5), (152, 6), (159, 0), (159, 1), (159, 2), (180, -1), (181, -1), (182, -1), (183, -1), (184, -1), (185, -1)] S G S (hw [(128, 0)] G G145) := (gr_hw (gr_refl [141, 152, 160, 161, 162, 163, 164, 165, 166, 167, 168, 169, 170, 171, 172, 173, 174, 175, 176, 177, 178, 179, 180, 181, 182, 183, 184, 185] [(128, 0), (128, 1), (129, 1), (152, 0), (152, 1), (152, 2), (152, 3), (152, 4), (152, 5), (152, 6), (159, 0), (159, 1), (159, 2), (180, -1), (181, -1), (182, -1), (183, -1), (184, -1), (185, -1)] S G) rfl)
                  have ci151 : CI E S (hw [(128, 0)] G G145) := (ci_hw ci rfl)
                  exact r_retZ hX hP rfl rfl (by first | decide | omega) (by first | decide | omega) (by first | decide | omega) (by first | decide | omega) ⟨g150, 0, rfl, nan, nan_e, la, la_e, (by first | decide | omega), (by first | decide | omega), (by first | decide | omega), ci151, (fun i h0 h1 => elk_159 ci na_s (frm_tr (frm_refl gk159 S G) (frm_hw rfl)) h0 (by rw [← nan_e]; exact h1)), (Or.inl rfl)⟩
              · skip
                exfalso; omega
            · skip
              exfalso; omega
        · skip
          refine r_ex hX hP 4 (pc' := 68) (st' := [(2, this), (0, known), (0, 1), (0, l5_j33), (0, 0), (2, this)]) (lo' := [(0, (2, this)), (1, (0, paper)), (2, (0, name_)), (3, (0, day)), (4, (0, known)), (5, (0, l5_j33))]) rfl ?_
          refine r_getKI hX hP rfl fl_X11_129_128 hS (x := la) la_e ?_
          refine r_ic_ge hX hP rfl (tgt := 78) rfl (by first | decide | omega) (by first | decide | omega) (by first | decide | omega) (by first | decide | omega) (fun c152 => ?_) (fun c152 => ?_)
          · skip
            refine r_ex hX hP 1 (pc' := 79) (st' := [(0, 0), (0, 1), (0, l5_j33), (0, 0), (2, this)]) (lo' := [(0, (2, this)), (1, (0, paper)), (2, (0, name_)), (3, (0, day)), (4, (0, known)), (5, (0, l5_j33))]) rfl ?_
            refine r_callS gd hX hP rfl cs_X11_112 (d' := 0) (mc' := 0) (ms' := 0) (as' := [(0, 0), (0, l5_j33), (0, 1), (0, 0)]) (st := [(2, this)]) (by first | decide | omega) (by first | decide | omega) (by first | decide | omega) rfl rfl (Nat.le_of_ble_eq_true rfl) (c_X11_first E S G 0 l5_j33 1 0 (by first | decide | omega) (by first | decide | omega) (by first | decide | omega) (by first | decide | omega) (by first | decide | omega) (by first | decide | omega) (by first | decide | omega) (by first | decide | omega)) ?_
            rintro _ _ _ ⟨rfl, rfl, z153, rfl, (⟨rfl, f154⟩ | ⟨rfl, f155, f156⟩ | ⟨rfl, f157, f158, f159⟩ | ⟨rfl, f160, f161, f162, f163⟩ | ⟨rfl, f164, f165, f166, f167⟩)⟩
            · skip
              exfalso; omega
            · skip
              refine r_callV gd hX hP rfl cv_X11_90_128 hS (d' := 0) (mc' := 0) (ms' := 0) (as' := [(0, 2)]) (st := []) (by first | decide | omega) (by first | decide | omega) (by first | decide | omega) rfl rfl (Nat.le_of_ble_eq_true rfl) (c_X11_refused E S G this 2 hS (by first | decide | omega) (by first | decide | omega)) ?_
              rintro _ _ _ ⟨rfl, ⟨G168, rfl⟩, z169, rfl, (⟨rfl, f170⟩ | ⟨rfl, f171⟩)⟩
              · skip
                refine r_if_eq hX hP rfl (tgt := 90) rfl (by first | decide | omega) (by first | decide | omega) (fun c172 => ?_) (fun c172 => ?_)
                · skip
                  exfalso; omega
                · skip
                  refine r_ex hX hP 1 (pc' := 89) (st' := [(0, 0)]) (lo' := [(0, (2, this)), (1, (0, paper)), (2, (0, name_)), (3, (0, day)), (4, (0, known)), (5, (0, l5_j33))]) rfl ?_
                  have g173 : Gr [141, 152, 160, 161, 162, 163, 164, 165, 166, 167, 168, 169, 170, 171, 172, 173, 174, 175, 176, 177, 178, 179, 180, 181, 182, 183, 184, 185] [(128, 0), (128, 1), (129, 1), (152, 0), (152, 1), (152, 2), (152, 3), (152, 4), (152, 5), (152, 6), (159, 0), (159, 1), (159, 2), (180, -1), (181, -1), (182, -1), (183, -1), (184, -1), (185, -1)] S G S (hw [(128, 0)] G G168) := (gr_hw (gr_refl [141, 152, 160, 161, 162, 163, 164, 165, 166, 167, 168, 169, 170, 171, 172, 173, 174, 175, 176, 177, 178, 179, 180, 181, 182, 183, 184, 185] [(128, 0), (128, 1), (129, 1), (152, 0), (152, 1), (152, 2), (152, 3), (152, 4), (152, 5), (152, 6), (159, 0), (159, 1), (159, 2), (180, -1), (181, -1), (182, -1), (183, -1), (184, -1), (185, -1)] S G) rfl)
                  have ci174 : CI E S (hw [(128, 0)] G G168) := (ci_hw ci rfl)
                  exact r_retZ hX hP rfl rfl (by first | decide | omega) (by first | decide | omega) (by first | decide | omega) (by first | decide | omega) ⟨g173, 0, rfl, nan, nan_e, la, la_e, (by first | decide | omega), (by first | decide | omega), (by first | decide | omega), ci174, (fun i h0 h1 => elk_159 ci na_s (frm_tr (frm_refl gk159 S G) (frm_hw rfl)) h0 (by rw [← nan_e]; exact h1)), (Or.inl rfl)⟩
              · skip
                exfalso; omega
            · skip
              refine r_callV gd hX hP rfl cv_X11_90_128 hS (d' := 0) (mc' := 0) (ms' := 0) (as' := [(0, 3)]) (st := []) (by first | decide | omega) (by first | decide | omega) (by first | decide | omega) rfl rfl (Nat.le_of_ble_eq_true rfl) (c_X11_refused E S G this 3 hS (by first | decide | omega) (by first | decide | omega)) ?_
              rintro _ _ _ ⟨rfl, ⟨G175, rfl⟩, z176, rfl, (⟨rfl, f177⟩ | ⟨rfl, f178⟩)⟩
              · skip
                refine r_if_eq hX hP rfl (tgt := 90) rfl (by first | decide | omega) (by first | decide | omega) (fun c179 => ?_) (fun c179 => ?_)
                · skip
                  exfalso; omega
                · skip
                  refine r_ex hX hP 1 (pc' := 89) (st' := [(0, 0)]) (lo' := [(0, (2, this)), (1, (0, paper)), (2, (0, name_)), (3, (0, day)), (4, (0, known)), (5, (0, l5_j33))]) rfl ?_
                  have g180 : Gr [141, 152, 160, 161, 162, 163, 164, 165, 166, 167, 168, 169, 170, 171, 172, 173, 174, 175, 176, 177, 178, 179, 180, 181, 182, 183, 184, 185] [(128, 0), (128, 1), (129, 1), (152, 0), (152, 1), (152, 2), (152, 3), (152, 4), (152, 5), (152, 6), (159, 0), (159, 1), (159, 2), (180, -1), (181, -1), (182, -1), (183, -1), (184, -1), (185, -1)] S G S (hw [(128, 0)] G G175) := (gr_hw (gr_refl [141, 152, 160, 161, 162, 163, 164, 165, 166, 167, 168, 169, 170, 171, 172, 173, 174, 175, 176, 177, 178, 179, 180, 181, 182, 183, 184, 185] [(128, 0), (128, 1), (129, 1), (152, 0), (152, 1), (152, 2), (152, 3), (152, 4), (152, 5), (152, 6), (159, 0), (159, 1), (159, 2), (180, -1), (181, -1), (182, -1), (183, -1), (184, -1), (185, -1)] S G) rfl)
                  have ci181 : CI E S (hw [(128, 0)] G G175) := (ci_hw ci rfl)
                  exact r_retZ hX hP rfl rfl (by first | decide | omega) (by first | decide | omega) (by first | decide | omega) (by first | decide | omega) ⟨g180, 0, rfl, nan, nan_e, la, la_e, (by first | decide | omega), (by first | decide | omega), (by first | decide | omega), ci181, (fun i h0 h1 => elk_159 ci na_s (frm_tr (frm_refl gk159 S G) (frm_hw rfl)) h0 (by rw [← nan_e]; exact h1)), (Or.inl rfl)⟩
              · skip
                exfalso; omega
            · skip
              exfalso; omega
            · skip
              exfalso; omega
          · skip
            refine r_ex hX hP 2 (pc' := 79) (st' := [(0, 1), (0, 1), (0, l5_j33), (0, 0), (2, this)]) (lo' := [(0, (2, this)), (1, (0, paper)), (2, (0, name_)), (3, (0, day)), (4, (0, known)), (5, (0, l5_j33))]) rfl ?_
            refine r_callS gd hX hP rfl cs_X11_112 (d' := 0) (mc' := 0) (ms' := 0) (as' := [(0, 0), (0, l5_j33), (0, 1), (0, 1)]) (st := [(2, this)]) (by first | decide | omega) (by first | decide | omega) (by first | decide | omega) rfl rfl (Nat.le_of_ble_eq_true rfl) (c_X11_first E S G 0 l5_j33 1 1 (by first | decide | omega) (by first | decide | omega) (by first | decide | omega) (by first | decide | omega) (by first | decide | omega) (by first | decide | omega) (by first | decide | omega) (by first | decide | omega)) ?_
            rintro _ _ _ ⟨rfl, rfl, z182, rfl, (⟨rfl, f183⟩ | ⟨rfl, f184, f185⟩ | ⟨rfl, f186, f187, f188⟩ | ⟨rfl, f189, f190, f191, f192⟩ | ⟨rfl, f193, f194, f195, f196⟩)⟩
            · skip
              exfalso; omega
            · skip
              refine r_callV gd hX hP rfl cv_X11_90_128 hS (d' := 0) (mc' := 0) (ms' := 0) (as' := [(0, 2)]) (st := []) (by first | decide | omega) (by first | decide | omega) (by first | decide | omega) rfl rfl (Nat.le_of_ble_eq_true rfl) (c_X11_refused E S G this 2 hS (by first | decide | omega) (by first | decide | omega)) ?_
              rintro _ _ _ ⟨rfl, ⟨G197, rfl⟩, z198, rfl, (⟨rfl, f199⟩ | ⟨rfl, f200⟩)⟩
              · skip
                refine r_if_eq hX hP rfl (tgt := 90) rfl (by first | decide | omega) (by first | decide | omega) (fun c201 => ?_) (fun c201 => ?_)
                · skip
                  exfalso; omega
                · skip
                  refine r_ex hX hP 1 (pc' := 89) (st' := [(0, 0)]) (lo' := [(0, (2, this)), (1, (0, paper)), (2, (0, name_)), (3, (0, day)), (4, (0, known)), (5, (0, l5_j33))]) rfl ?_
                  have g202 : Gr [141, 152, 160, 161, 162, 163, 164, 165, 166, 167, 168, 169, 170, 171, 172, 173, 174, 175, 176, 177, 178, 179, 180, 181, 182, 183, 184, 185] [(128, 0), (128, 1), (129, 1), (152, 0), (152, 1), (152, 2), (152, 3), (152, 4), (152, 5), (152, 6), (159, 0), (159, 1), (159, 2), (180, -1), (181, -1), (182, -1), (183, -1), (184, -1), (185, -1)] S G S (hw [(128, 0)] G G197) := (gr_hw (gr_refl [141, 152, 160, 161, 162, 163, 164, 165, 166, 167, 168, 169, 170, 171, 172, 173, 174, 175, 176, 177, 178, 179, 180, 181, 182, 183, 184, 185] [(128, 0), (128, 1), (129, 1), (152, 0), (152, 1), (152, 2), (152, 3), (152, 4), (152, 5), (152, 6), (159, 0), (159, 1), (159, 2), (180, -1), (181, -1), (182, -1), (183, -1), (184, -1), (185, -1)] S G) rfl)
                  have ci203 : CI E S (hw [(128, 0)] G G197) := (ci_hw ci rfl)
                  exact r_retZ hX hP rfl rfl (by first | decide | omega) (by first | decide | omega) (by first | decide | omega) (by first | decide | omega) ⟨g202, 0, rfl, nan, nan_e, la, la_e, (by first | decide | omega), (by first | decide | omega), (by first | decide | omega), ci203, (fun i h0 h1 => elk_159 ci na_s (frm_tr (frm_refl gk159 S G) (frm_hw rfl)) h0 (by rw [← nan_e]; exact h1)), (Or.inl rfl)⟩
              · skip
                exfalso; omega
            · skip
              refine r_callV gd hX hP rfl cv_X11_90_128 hS (d' := 0) (mc' := 0) (ms' := 0) (as' := [(0, 3)]) (st := []) (by first | decide | omega) (by first | decide | omega) (by first | decide | omega) rfl rfl (Nat.le_of_ble_eq_true rfl) (c_X11_refused E S G this 3 hS (by first | decide | omega) (by first | decide | omega)) ?_
              rintro _ _ _ ⟨rfl, ⟨G204, rfl⟩, z205, rfl, (⟨rfl, f206⟩ | ⟨rfl, f207⟩)⟩
              · skip
                refine r_if_eq hX hP rfl (tgt := 90) rfl (by first | decide | omega) (by first | decide | omega) (fun c208 => ?_) (fun c208 => ?_)
                · skip
                  exfalso; omega
                · skip
                  refine r_ex hX hP 1 (pc' := 89) (st' := [(0, 0)]) (lo' := [(0, (2, this)), (1, (0, paper)), (2, (0, name_)), (3, (0, day)), (4, (0, known)), (5, (0, l5_j33))]) rfl ?_
                  have g209 : Gr [141, 152, 160, 161, 162, 163, 164, 165, 166, 167, 168, 169, 170, 171, 172, 173, 174, 175, 176, 177, 178, 179, 180, 181, 182, 183, 184, 185] [(128, 0), (128, 1), (129, 1), (152, 0), (152, 1), (152, 2), (152, 3), (152, 4), (152, 5), (152, 6), (159, 0), (159, 1), (159, 2), (180, -1), (181, -1), (182, -1), (183, -1), (184, -1), (185, -1)] S G S (hw [(128, 0)] G G204) := (gr_hw (gr_refl [141, 152, 160, 161, 162, 163, 164, 165, 166, 167, 168, 169, 170, 171, 172, 173, 174, 175, 176, 177, 178, 179, 180, 181, 182, 183, 184, 185] [(128, 0), (128, 1), (129, 1), (152, 0), (152, 1), (152, 2), (152, 3), (152, 4), (152, 5), (152, 6), (159, 0), (159, 1), (159, 2), (180, -1), (181, -1), (182, -1), (183, -1), (184, -1), (185, -1)] S G) rfl)
                  have ci210 : CI E S (hw [(128, 0)] G G204) := (ci_hw ci rfl)
                  exact r_retZ hX hP rfl rfl (by first | decide | omega) (by first | decide | omega) (by first | decide | omega) (by first | decide | omega) ⟨g209, 0, rfl, nan, nan_e, la, la_e, (by first | decide | omega), (by first | decide | omega), (by first | decide | omega), ci210, (fun i h0 h1 => elk_159 ci na_s (frm_tr (frm_refl gk159 S G) (frm_hw rfl)) h0 (by rw [← nan_e]; exact h1)), (Or.inl rfl)⟩
              · skip
                exfalso; omega
            · skip
              exfalso; omega
            · skip
              exfalso; omega
      · skip
        exfalso; omega
    · skip
      refine r_if_ne hX hP rfl (tgt := 45) rfl (by first | decide | omega) (by first | decide | omega) (fun c211 => ?_) (fun c211 => ?_)
      · skip
        exfalso; omega
      · skip
        refine r_ex hX hP 4 (pc' := 49) (st' := [(2, this), (0, l5_j33), (0, 1), (2, this)]) (lo' := [(0, (2, this)), (1, (0, paper)), (2, (0, name_)), (3, (0, day)), (4, (0, known)), (5, (0, l5_j33))]) rfl ?_
        refine r_getKR hX hP rfl fl_X11_48_128 hS (x := na) na_e ?_
        refine r_callV gd hX hP rfl cv_X11_125_159 na_s (d' := 0) (mc' := 0) (ms' := 0) (as' := []) (st := [(0, l5_j33), (0, 1), (2, this)]) (by first | decide | omega) (by first | decide | omega) (by first | decide | omega) rfl rfl (Nat.le_of_ble_eq_true rfl) (c_size_Lna E S G na  na_s nan nan_e) ?_
        rintro _ _ _ ⟨rfl, rfl, z212, rfl, z212a, z212b, f213⟩
        refine r_ex hX hP 1 (pc' := 57) (st' := [(0, 60), (0, z212), (0, l5_j33), (0, 1), (2, this)]) (lo' := [(0, (2, this)), (1, (0, paper)), (2, (0, name_)), (3, (0, day)), (4, (0, known)), (5, (0, l5_j33))]) rfl ?_
        refine r_ic_lt hX hP rfl (tgt := 64) rfl (by first | decide | omega) (by first | decide | omega) (by first | decide | omega) (by first | decide | omega) (fun c214 => ?_) (fun c214 => ?_)
        · skip
          refine r_ex hX hP 3 (pc' := 68) (st' := [(2, this), (0, known), (0, 0), (0, l5_j33), (0, 1), (2, this)]) (lo' := [(0, (2, this)), (1, (0, paper)), (2, (0, name_)), (3, (0, day)), (4, (0, known)), (5, (0, l5_j33))]) rfl ?_
          refine r_getKI hX hP rfl fl_X11_129_128 hS (x := la) la_e ?_
          refine r_ic_ge hX hP rfl (tgt := 78) rfl (by first | decide | omega) (by first | decide | omega) (by first | decide | omega) (by first | decide | omega) (fun c215 => ?_) (fun c215 => ?_)
          · skip
            refine r_ex hX hP 1 (pc' := 79) (st' := [(0, 0), (0, 0), (0, l5_j33), (0, 1), (2, this)]) (lo' := [(0, (2, this)), (1, (0, paper)), (2, (0, name_)), (3, (0, day)), (4, (0, known)), (5, (0, l5_j33))]) rfl ?_
            refine r_callS gd hX hP rfl cs_X11_112 (d' := 0) (mc' := 0) (ms' := 0) (as' := [(0, 1), (0, l5_j33), (0, 0), (0, 0)]) (st := [(2, this)]) (by first | decide | omega) (by first | decide | omega) (by first | decide | omega) rfl rfl (Nat.le_of_ble_eq_true rfl) (c_X11_first E S G 1 l5_j33 0 0 (by first | decide | omega) (by first | decide | omega) (by first | decide | omega) (by first | decide | omega) (by first | decide | omega) (by first | decide | omega) (by first | decide | omega) (by first | decide | omega)) ?_
            rintro _ _ _ ⟨rfl, rfl, z216, rfl, (⟨rfl, f217⟩ | ⟨rfl, f218, f219⟩ | ⟨rfl, f220, f221, f222⟩ | ⟨rfl, f223, f224, f225, f226⟩ | ⟨rfl, f227, f228, f229, f230⟩)⟩
            · skip
              refine r_callV gd hX hP rfl cv_X11_90_128 hS (d' := 0) (mc' := 0) (ms' := 0) (as' := [(0, 1)]) (st := []) (by first | decide | omega) (by first | decide | omega) (by first | decide | omega) rfl rfl (Nat.le_of_ble_eq_true rfl) (c_X11_refused E S G this 1 hS (by first | decide | omega) (by first | decide | omega)) ?_
              rintro _ _ _ ⟨rfl, ⟨G231, rfl⟩, z232, rfl, (⟨rfl, f233⟩ | ⟨rfl, f234⟩)⟩
              · skip
                refine r_if_eq hX hP rfl (tgt := 90) rfl (by first | decide | omega) (by first | decide | omega) (fun c235 => ?_) (fun c235 => ?_)
                · skip
                  exfalso; omega
                · skip
                  refine r_ex hX hP 1 (pc' := 89) (st' := [(0, 0)]) (lo' := [(0, (2, this)), (1, (0, paper)), (2, (0, name_)), (3, (0, day)), (4, (0, known)), (5, (0, l5_j33))]) rfl ?_
                  have g236 : Gr [141, 152, 160, 161, 162, 163, 164, 165, 166, 167, 168, 169, 170, 171, 172, 173, 174, 175, 176, 177, 178, 179, 180, 181, 182, 183, 184, 185] [(128, 0), (128, 1), (129, 1), (152, 0), (152, 1), (152, 2), (152, 3), (152, 4), (152, 5), (152, 6), (159, 0), (159, 1), (159, 2), (180, -1), (181, -1), (182, -1), (183, -1), (184, -1), (185, -1)] S G S (hw [(128, 0)] G G231) := (gr_hw (gr_refl [141, 152, 160, 161, 162, 163, 164, 165, 166, 167, 168, 169, 170, 171, 172, 173, 174, 175, 176, 177, 178, 179, 180, 181, 182, 183, 184, 185] [(128, 0), (128, 1), (129, 1), (152, 0), (152, 1), (152, 2), (152, 3), (152, 4), (152, 5), (152, 6), (159, 0), (159, 1), (159, 2), (180, -1), (181, -1), (182, -1), (183, -1), (184, -1), (185, -1)] S G) rfl)
                  have ci237 : CI E S (hw [(128, 0)] G G231) := (ci_hw ci rfl)
                  exact r_retZ hX hP rfl rfl (by first | decide | omega) (by first | decide | omega) (by first | decide | omega) (by first | decide | omega) ⟨g236, 0, rfl, nan, nan_e, la, la_e, (by first | decide | omega), (by first | decide | omega), (by first | decide | omega), ci237, (fun i h0 h1 => elk_159 ci na_s (frm_tr (frm_refl gk159 S G) (frm_hw rfl)) h0 (by rw [← nan_e]; exact h1)), (Or.inl rfl)⟩
              · skip
                exfalso; omega
            · skip
              exfalso; omega
            · skip
              exfalso; omega
            · skip
              exfalso; omega
            · skip
              exfalso; omega
          · skip
            refine r_ex hX hP 2 (pc' := 79) (st' := [(0, 1), (0, 0), (0, l5_j33), (0, 1), (2, this)]) (lo' := [(0, (2, this)), (1, (0, paper)), (2, (0, name_)), (3, (0, day)), (4, (0, known)), (5, (0, l5_j33))]) rfl ?_
            refine r_callS gd hX hP rfl cs_X11_112 (d' := 0) (mc' := 0) (ms' := 0) (as' := [(0, 1), (0, l5_j33), (0, 0), (0, 1)]) (st := [(2, this)]) (by first | decide | omega) (by first | decide | omega) (by first | decide | omega) rfl rfl (Nat.le_of_ble_eq_true rfl) (c_X11_first E S G 1 l5_j33 0 1 (by first | decide | omega) (by first | decide | omega) (by first | decide | omega) (by first | decide | omega) (by first | decide | omega) (by first | decide | omega) (by first | decide | omega) (by first | decide | omega)) ?_
            rintro _ _ _ ⟨rfl, rfl, z238, rfl, (⟨rfl, f239⟩ | ⟨rfl, f240, f241⟩ | ⟨rfl, f242, f243, f244⟩ | ⟨rfl, f245, f246, f247, f248⟩ | ⟨rfl, f249, f250, f251, f252⟩)⟩
            · skip
              refine r_callV gd hX hP rfl cv_X11_90_128 hS (d' := 0) (mc' := 0) (ms' := 0) (as' := [(0, 1)]) (st := []) (by first | decide | omega) (by first | decide | omega) (by first | decide | omega) rfl rfl (Nat.le_of_ble_eq_true rfl) (c_X11_refused E S G this 1 hS (by first | decide | omega) (by first | decide | omega)) ?_
              rintro _ _ _ ⟨rfl, ⟨G253, rfl⟩, z254, rfl, (⟨rfl, f255⟩ | ⟨rfl, f256⟩)⟩
              · skip
                refine r_if_eq hX hP rfl (tgt := 90) rfl (by first | decide | omega) (by first | decide | omega) (fun c257 => ?_) (fun c257 => ?_)
                · skip
                  exfalso; omega
                · skip
                  refine r_ex hX hP 1 (pc' := 89) (st' := [(0, 0)]) (lo' := [(0, (2, this)), (1, (0, paper)), (2, (0, name_)), (3, (0, day)), (4, (0, known)), (5, (0, l5_j33))]) rfl ?_
                  have g258 : Gr [141, 152, 160, 161, 162, 163, 164, 165, 166, 167, 168, 169, 170, 171, 172, 173, 174, 175, 176, 177, 178, 179, 180, 181, 182, 183, 184, 185] [(128, 0), (128, 1), (129, 1), (152, 0), (152, 1), (152, 2), (152, 3), (152, 4), (152, 5), (152, 6), (159, 0), (159, 1), (159, 2), (180, -1), (181, -1), (182, -1), (183, -1), (184, -1), (185, -1)] S G S (hw [(128, 0)] G G253) := (gr_hw (gr_refl [141, 152, 160, 161, 162, 163, 164, 165, 166, 167, 168, 169, 170, 171, 172, 173, 174, 175, 176, 177, 178, 179, 180, 181, 182, 183, 184, 185] [(128, 0), (128, 1), (129, 1), (152, 0), (152, 1), (152, 2), (152, 3), (152, 4), (152, 5), (152, 6), (159, 0), (159, 1), (159, 2), (180, -1), (181, -1), (182, -1), (183, -1), (184, -1), (185, -1)] S G) rfl)
                  have ci259 : CI E S (hw [(128, 0)] G G253) := (ci_hw ci rfl)
                  exact r_retZ hX hP rfl rfl (by first | decide | omega) (by first | decide | omega) (by first | decide | omega) (by first | decide | omega) ⟨g258, 0, rfl, nan, nan_e, la, la_e, (by first | decide | omega), (by first | decide | omega), (by first | decide | omega), ci259, (fun i h0 h1 => elk_159 ci na_s (frm_tr (frm_refl gk159 S G) (frm_hw rfl)) h0 (by rw [← nan_e]; exact h1)), (Or.inl rfl)⟩
              · skip
                exfalso; omega
            · skip
              exfalso; omega
            · skip
              exfalso; omega
            · skip
              exfalso; omega
            · skip
              exfalso; omega
        · skip
          refine r_ex hX hP 4 (pc' := 68) (st' := [(2, this), (0, known), (0, 1), (0, l5_j33), (0, 1), (2, this)]) (lo' := [(0, (2, this)), (1, (0, paper)), (2, (0, name_)), (3, (0, day)), (4, (0, known)), (5, (0, l5_j33))]) rfl ?_
          refine r_getKI hX hP rfl fl_X11_129_128 hS (x := la) la_e ?_
          refine r_ic_ge hX hP rfl (tgt := 78) rfl (by first | decide | omega) (by first | decide | omega) (by first | decide | omega) (by first | decide | omega) (fun c260 => ?_) (fun c260 => ?_)
          · skip
            refine r_ex hX hP 1 (pc' := 79) (st' := [(0, 0), (0, 1), (0, l5_j33), (0, 1), (2, this)]) (lo' := [(0, (2, this)), (1, (0, paper)), (2, (0, name_)), (3, (0, day)), (4, (0, known)), (5, (0, l5_j33))]) rfl ?_
            refine r_callS gd hX hP rfl cs_X11_112 (d' := 0) (mc' := 0) (ms' := 0) (as' := [(0, 1), (0, l5_j33), (0, 1), (0, 0)]) (st := [(2, this)]) (by first | decide | omega) (by first | decide | omega) (by first | decide | omega) rfl rfl (Nat.le_of_ble_eq_true rfl) (c_X11_first E S G 1 l5_j33 1 0 (by first | decide | omega) (by first | decide | omega) (by first | decide | omega) (by first | decide | omega) (by first | decide | omega) (by first | decide | omega) (by first | decide | omega) (by first | decide | omega)) ?_
            rintro _ _ _ ⟨rfl, rfl, z261, rfl, (⟨rfl, f262⟩ | ⟨rfl, f263, f264⟩ | ⟨rfl, f265, f266, f267⟩ | ⟨rfl, f268, f269, f270, f271⟩ | ⟨rfl, f272, f273, f274, f275⟩)⟩
            · skip
              refine r_callV gd hX hP rfl cv_X11_90_128 hS (d' := 0) (mc' := 0) (ms' := 0) (as' := [(0, 1)]) (st := []) (by first | decide | omega) (by first | decide | omega) (by first | decide | omega) rfl rfl (Nat.le_of_ble_eq_true rfl) (c_X11_refused E S G this 1 hS (by first | decide | omega) (by first | decide | omega)) ?_
              rintro _ _ _ ⟨rfl, ⟨G276, rfl⟩, z277, rfl, (⟨rfl, f278⟩ | ⟨rfl, f279⟩)⟩
              · skip
                refine r_if_eq hX hP rfl (tgt := 90) rfl (by first | decide | omega) (by first | decide | omega) (fun c280 => ?_) (fun c280 => ?_)
                · skip
                  exfalso; omega
                · skip
                  refine r_ex hX hP 1 (pc' := 89) (st' := [(0, 0)]) (lo' := [(0, (2, this)), (1, (0, paper)), (2, (0, name_)), (3, (0, day)), (4, (0, known)), (5, (0, l5_j33))]) rfl ?_
                  have g281 : Gr [141, 152, 160, 161, 162, 163, 164, 165, 166, 167, 168, 169, 170, 171, 172, 173, 174, 175, 176, 177, 178, 179, 180, 181, 182, 183, 184, 185] [(128, 0), (128, 1), (129, 1), (152, 0), (152, 1), (152, 2), (152, 3), (152, 4), (152, 5), (152, 6), (159, 0), (159, 1), (159, 2), (180, -1), (181, -1), (182, -1), (183, -1), (184, -1), (185, -1)] S G S (hw [(128, 0)] G G276) := (gr_hw (gr_refl [141, 152, 160, 161, 162, 163, 164, 165, 166, 167, 168, 169, 170, 171, 172, 173, 174, 175, 176, 177, 178, 179, 180, 181, 182, 183, 184, 185] [(128, 0), (128, 1), (129, 1), (152, 0), (152, 1), (152, 2), (152, 3), (152, 4), (152, 5), (152, 6), (159, 0), (159, 1), (159, 2), (180, -1), (181, -1), (182, -1), (183, -1), (184, -1), (185, -1)] S G) rfl)
                  have ci282 : CI E S (hw [(128, 0)] G G276) := (ci_hw ci rfl)
                  exact r_retZ hX hP rfl rfl (by first | decide | omega) (by first | decide | omega) (by first | decide | omega) (by first | decide | omega) ⟨g281, 0, rfl, nan, nan_e, la, la_e, (by first | decide | omega), (by first | decide | omega), (by first | decide | omega), ci282, (fun i h0 h1 => elk_159 ci na_s (frm_tr (frm_refl gk159 S G) (frm_hw rfl)) h0 (by rw [← nan_e]; exact h1)), (Or.inl rfl)⟩
              · skip
                exfalso; omega
            · skip
              exfalso; omega
            · skip
              exfalso; omega
            · skip
              exfalso; omega
            · skip
              exfalso; omega
          · skip
            refine r_ex hX hP 2 (pc' := 79) (st' := [(0, 1), (0, 1), (0, l5_j33), (0, 1), (2, this)]) (lo' := [(0, (2, this)), (1, (0, paper)), (2, (0, name_)), (3, (0, day)), (4, (0, known)), (5, (0, l5_j33))]) rfl ?_
            refine r_callS gd hX hP rfl cs_X11_112 (d' := 0) (mc' := 0) (ms' := 0) (as' := [(0, 1), (0, l5_j33), (0, 1), (0, 1)]) (st := [(2, this)]) (by first | decide | omega) (by first | decide | omega) (by first | decide | omega) rfl rfl (Nat.le_of_ble_eq_true rfl) (c_X11_first E S G 1 l5_j33 1 1 (by first | decide | omega) (by first | decide | omega) (by first | decide | omega) (by first | decide | omega) (by first | decide | omega) (by first | decide | omega) (by first | decide | omega) (by first | decide | omega)) ?_
            rintro _ _ _ ⟨rfl, rfl, z283, rfl, (⟨rfl, f284⟩ | ⟨rfl, f285, f286⟩ | ⟨rfl, f287, f288, f289⟩ | ⟨rfl, f290, f291, f292, f293⟩ | ⟨rfl, f294, f295, f296, f297⟩)⟩
            · skip
              refine r_callV gd hX hP rfl cv_X11_90_128 hS (d' := 0) (mc' := 0) (ms' := 0) (as' := [(0, 1)]) (st := []) (by first | decide | omega) (by first | decide | omega) (by first | decide | omega) rfl rfl (Nat.le_of_ble_eq_true rfl) (c_X11_refused E S G this 1 hS (by first | decide | omega) (by first | decide | omega)) ?_
              rintro _ _ _ ⟨rfl, ⟨G298, rfl⟩, z299, rfl, (⟨rfl, f300⟩ | ⟨rfl, f301⟩)⟩
              · skip
                refine r_if_eq hX hP rfl (tgt := 90) rfl (by first | decide | omega) (by first | decide | omega) (fun c302 => ?_) (fun c302 => ?_)
                · skip
                  exfalso; omega
                · skip
                  refine r_ex hX hP 1 (pc' := 89) (st' := [(0, 0)]) (lo' := [(0, (2, this)), (1, (0, paper)), (2, (0, name_)), (3, (0, day)), (4, (0, known)), (5, (0, l5_j33))]) rfl ?_
                  have g303 : Gr [141, 152, 160, 161, 162, 163, 164, 165, 166, 167, 168, 169, 170, 171, 172, 173, 174, 175, 176, 177, 178, 179, 180, 181, 182, 183, 184, 185] [(128, 0), (128, 1), (129, 1), (152, 0), (152, 1), (152, 2), (152, 3), (152, 4), (152, 5), (152, 6), (159, 0), (159, 1), (159, 2), (180, -1), (181, -1), (182, -1), (183, -1), (184, -1), (185, -1)] S G S (hw [(128, 0)] G G298) := (gr_hw (gr_refl [141, 152, 160, 161, 162, 163, 164, 165, 166, 167, 168, 169, 170, 171, 172, 173, 174, 175, 176, 177, 178, 179, 180, 181, 182, 183, 184, 185] [(128, 0), (128, 1), (129, 1), (152, 0), (152, 1), (152, 2), (152, 3), (152, 4), (152, 5), (152, 6), (159, 0), (159, 1), (159, 2), (180, -1), (181, -1), (182, -1), (183, -1), (184, -1), (185, -1)] S G) rfl)
                  have ci304 : CI E S (hw [(128, 0)] G G298) := (ci_hw ci rfl)
                  exact r_retZ hX hP rfl rfl (by first | decide | omega) (by first | decide | omega) (by first | decide | omega) (by first | decide | omega) ⟨g303, 0, rfl, nan, nan_e, la, la_e, (by first | decide | omega), (by first | decide | omega), (by first | decide | omega), ci304, (fun i h0 h1 => elk_159 ci na_s (frm_tr (frm_refl gk159 S G) (frm_hw rfl)) h0 (by rw [← nan_e]; exact h1)), (Or.inl rfl)⟩
              · skip
                exfalso; omega
            · skip
              exfalso; omega
            · skip
              exfalso; omega
            · skip
              exfalso; omega
            · skip
              exfalso; omega
  refine r_ex hX hP 3 (pc' := 5) (st' := [(0, 9999), (0, 0), (0, name_)]) (lo' := [(0, (2, this)), (1, (0, paper)), (2, (0, name_)), (3, (0, day)), (4, (0, known))]) rfl ?_
  refine r_callS gd hX hP rfl cs_X11_103 (d' := 0) (mc' := 0) (ms' := 0) (as' := [(0, name_), (0, 0), (0, 9999)]) (st := []) (by first | decide | omega) (by first | decide | omega) (by first | decide | omega) rfl rfl (Nat.le_of_ble_eq_true rfl) (c_X11_within E S G name_ 0 9999 (by first | decide | omega) (by first | decide | omega) (by first | decide | omega) (by first | decide | omega) (by first | decide | omega) (by first | decide | omega)) ?_
  rintro _ _ _ ⟨rfl, rfl, z305, rfl, (⟨rfl, f306, f307⟩ | ⟨rfl, f308⟩)⟩
  · skip
    refine r_if_eq hX hP rfl (tgt := 26) rfl (by first | decide | omega) (by first | decide | omega) (fun c309 => ?_) (fun c309 => ?_)
    · skip
      exfalso; omega
    · skip
      refine r_ex hX hP 1 (pc' := 12) (st' := [(0, day)]) (lo' := [(0, (2, this)), (1, (0, paper)), (2, (0, name_)), (3, (0, day)), (4, (0, known))]) rfl ?_
      refine r_callS gd hX hP rfl cs_X11_86 (d' := 1) (mc' := 0) (ms' := 0) (as' := [(0, day)]) (st := []) (by first | decide | omega) (by first | decide | omega) (by first | decide | omega) rfl rfl (Nat.le_of_ble_eq_true rfl) (c_X11_isDay E S G day (by first | decide | omega) (by first | decide | omega)) ?_
      rintro _ _ _ ⟨rfl, rfl, z310, rfl, (⟨rfl, f311, f312⟩ | ⟨rfl, f313⟩)⟩
      · skip
        refine r_if_eq hX hP rfl (tgt := 26) rfl (by first | decide | omega) (by first | decide | omega) (fun c314 => ?_) (fun c314 => ?_)
        · skip
          exfalso; omega
        · skip
          refine r_ex hX hP 1 (pc' := 20) (st' := [(0, known)]) (lo' := [(0, (2, this)), (1, (0, paper)), (2, (0, name_)), (3, (0, day)), (4, (0, known))]) rfl ?_
          refine r_callS gd hX hP rfl cs_X11_86 (d' := 1) (mc' := 0) (ms' := 0) (as' := [(0, known)]) (st := []) (by first | decide | omega) (by first | decide | omega) (by first | decide | omega) rfl rfl (Nat.le_of_ble_eq_true rfl) (c_X11_isDay E S G known (by first | decide | omega) (by first | decide | omega)) ?_
          rintro _ _ _ ⟨rfl, rfl, z315, rfl, (⟨rfl, f316, f317⟩ | ⟨rfl, f318⟩)⟩
          · skip
            refine r_if_ne hX hP rfl (tgt := 30) rfl (by first | decide | omega) (by first | decide | omega) (fun c319 => ?_) (fun c319 => ?_)
            · skip
              refine r_ex hX hP 2 (pc' := 33) (st' := []) (lo' := [(0, (2, this)), (1, (0, paper)), (2, (0, name_)), (3, (0, day)), (4, (0, known)), (5, (0, 0))]) rfl ?_
              exact j33 0 (by first | decide | omega) (by first | decide | omega) (by first | decide | omega)
            · skip
              exfalso; omega
          · skip
            refine r_if_ne hX hP rfl (tgt := 30) rfl (by first | decide | omega) (by first | decide | omega) (fun c320 => ?_) (fun c320 => ?_)
            · skip
              exfalso; omega
            · skip
              refine r_ex hX hP 3 (pc' := 33) (st' := []) (lo' := [(0, (2, this)), (1, (0, paper)), (2, (0, name_)), (3, (0, day)), (4, (0, known)), (5, (0, 1))]) rfl ?_
              exact j33 1 (by first | decide | omega) (by first | decide | omega) (by first | decide | omega)
      · skip
        refine r_if_eq hX hP rfl (tgt := 26) rfl (by first | decide | omega) (by first | decide | omega) (fun c321 => ?_) (fun c321 => ?_)
        · skip
          refine r_ex hX hP 3 (pc' := 33) (st' := []) (lo' := [(0, (2, this)), (1, (0, paper)), (2, (0, name_)), (3, (0, day)), (4, (0, known)), (5, (0, 1))]) rfl ?_
          exact j33 1 (by first | decide | omega) (by first | decide | omega) (by first | decide | omega)
        · skip
          exfalso; omega
  · skip
    refine r_if_eq hX hP rfl (tgt := 26) rfl (by first | decide | omega) (by first | decide | omega) (fun c322 => ?_) (fun c322 => ?_)
    · skip
      refine r_ex hX hP 3 (pc' := 33) (st' := []) (lo' := [(0, (2, this)), (1, (0, paper)), (2, (0, name_)), (3, (0, day)), (4, (0, known)), (5, (0, 1))]) rfl ?_
      exact j33 1 (by first | decide | omega) (by first | decide | omega) (by first | decide | omega)
    · skip
      exfalso; omega
