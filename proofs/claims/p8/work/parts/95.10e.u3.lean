set_option maxRecDepth 100000 in
set_option maxHeartbeats 4000000 in
theorem c_X11_optionT (E : En) (S : Sg) (G : Gh) (this : Int) (paper : Int) (day : Int) (strike : Int) (number : Int) (known : Int) (hS : S this = 128) (op : Int) (op_e : op = G 128 this 10) (op_s : S op = 158) (opn : Int) (opn_e : opn = G 158 op 2) (la : Int) (la_e : la = G 128 this 1) (paper_a : (-2147483648) ≤ paper) (paper_b : paper ≤ 2147483647) (day_a : (-2147483648) ≤ day) (day_b : day ≤ 2147483647) (strike_a : (-2147483648) ≤ strike) (strike_b : strike ≤ 2147483647) (number_a : (-2147483648) ≤ number) (number_b : number ≤ 2147483647) (known_a : (-2147483648) ≤ known) (known_b : known ≤ 2147483647) (ci : CI E S G) : Calls E mX11_option [(2, this), (0, paper), (0, day), (0, strike), (0, number), (0, known)] S G 15 2 82 (fun r S' G' => Gr [141, 152, 160, 161, 162, 163, 164, 165, 166, 167, 168, 169, 170, 171, 172, 173, 174, 175, 176, 177, 178, 179, 180, 181, 182, 183, 184, 185] [(128, 0), (128, 1), (129, 1), (152, 0), (152, 1), (152, 2), (152, 3), (152, 4), (152, 5), (152, 6), (152, 8), (158, 0), (158, 1), (158, 2), (179, -1)] S G S' G' ∧ ∃ z : Int, r = some (0, z) ∧ ∃ s2 : Int, s2 = G' 158 op 2 ∧ ∃ l2 : Int, l2 = G' 128 this 1 ∧ (-2147483648) ≤ z ∧ z ≤ 2147483647 ∧ ((0 ≤ paper ∧ paper ≤ 19 ∧ 0 ≤ day ∧ day ≤ 40000 ∧ 1 ≤ strike ∧ strike ≤ 1000000 ∧ 1 ≤ number ∧ number ≤ 10000 ∧ 0 ≤ known ∧ known ≤ 40000 ∧ opn < 10 ∧ la ≤ known ∧ z = opn ∧ s2 = opn + 1 ∧ l2 = known) ∨ (z = -1 ∧ s2 = opn ∧ l2 = la ∧ ¬ (0 ≤ paper ∧ paper ≤ 19 ∧ 0 ≤ day ∧ day ≤ 40000 ∧ 1 ≤ strike ∧ strike ≤ 1000000 ∧ 1 ≤ number ∧ number ≤ 10000 ∧ 0 ≤ known ∧ known ≤ 40000 ∧ opn < 10 ∧ la ≤ known))) ∧ CI E S' G') := by
  refine calls_by [(0, (2, this)), (1, (0, paper)), (2, (0, day)), (3, (0, strike)), (4, (0, number)), (5, (0, known))] rfl rfl (Nat.le_of_ble_eq_true rfl) (fun X hX => ?_)
  have hP := hPX11_option
  refine r_peekI hX (tl_158 2 rfl (by decide)) op_s (fun opn_o opn_oe opn_oa opn_ob => ?_)
  obtain rfl : opn = opn_o := opn_e.trans opn_oe.symm
  refine r_peekI hX (tl_128 1 rfl (by decide)) hS (fun la_o la_oe la_oa la_ob => ?_)
  obtain rfl : la = la_o := la_e.trans la_oe.symm
  have j44 : ∀ (l6_j44 : Int), 0 ≤ l6_j44 → l6_j44 ≤ 1 → ((l6_j44 = 1 ∧ ¬ (0 ≤ day ∧ day ≤ 40000 ∧ 1 ≤ strike ∧ strike ≤ 1000000 ∧ 1 ≤ number ∧ number ≤ 10000 ∧ 0 ≤ known ∧ known ≤ 40000)) ∨ (l6_j44 = 0 ∧ 0 ≤ day ∧ day ≤ 40000 ∧ 1 ≤ strike ∧ strike ≤ 1000000 ∧ 1 ≤ number ∧ number ≤ 10000 ∧ 0 ≤ known ∧ known ≤ 40000)) → X 0 0 44 [] [(0, (2, this)), (1, (0, paper)), (2, (0, day)), (3, (0, strike)), (4, (0, number)), (5, (0, known)), (6, (0, l6_j44))] S G := by
    intro l6_j44 yj44_0 yj44_1 yj44_2
    refine r_ex hX hP 2 (pc' := 46) (st' := [(0, paper), (2, this)]) (lo' := [(0, (2, this)), (1, (0, paper)), (2, (0, day)), (3, (0, strike)), (4, (0, number)), (5, (0, known)), (6, (0, l6_j44))]) rfl ?_
    refine r_callS gd hX hP rfl cs_X11_120 (d' := 1) (mc' := 0) (ms' := 0) (as' := [(0, paper)]) (st := [(2, this)]) (by first | decide | omega) (by first | decide | omega) (by first | decide | omega) rfl rfl (Nat.le_of_ble_eq_true rfl) (c_isPaperX E S G paper (by first | decide | omega) (by first | decide | omega)) ?_
    rintro _ _ _ ⟨rfl, rfl, z1, rfl, (⟨rfl, f2, f3⟩ | ⟨rfl, f4⟩)⟩
    · skip
      refine r_if_ne hX hP rfl (tgt := 56) rfl (by first | decide | omega) (by first | decide | omega) (fun c5 => ?_) (fun c5 => ?_)
      · skip
        refine r_ex hX hP 3 (pc' := 60) (st' := [(2, this), (0, l6_j44), (0, 0), (2, this)]) (lo' := [(0, (2, this)), (1, (0, paper)), (2, (0, day)), (3, (0, strike)), (4, (0, number)), (5, (0, known)), (6, (0, l6_j44))]) rfl ?_
        refine r_getKR hX hP rfl fl_X11_45_128 hS (x := op) op_e ?_
        refine r_callV gd hX hP rfl cv_X11_125_158 op_s (d' := 0) (mc' := 0) (ms' := 0) (as' := []) (st := [(0, l6_j44), (0, 0), (2, this)]) (by first | decide | omega) (by first | decide | omega) (by first | decide | omega) rfl rfl (Nat.le_of_ble_eq_true rfl) (c_size_Lop E S G op  op_s opn opn_e) ?_
        rintro _ _ _ ⟨rfl, rfl, z6, rfl, z6a, z6b, f7⟩
        refine r_ex hX hP 1 (pc' := 68) (st' := [(0, 10), (0, z6), (0, l6_j44), (0, 0), (2, this)]) (lo' := [(0, (2, this)), (1, (0, paper)), (2, (0, day)), (3, (0, strike)), (4, (0, number)), (5, (0, known)), (6, (0, l6_j44))]) rfl ?_
        refine r_ic_lt hX hP rfl (tgt := 75) rfl (by first | decide | omega) (by first | decide | omega) (by first | decide | omega) (by first | decide | omega) (fun c8 => ?_) (fun c8 => ?_)
        · skip
          refine r_ex hX hP 3 (pc' := 79) (st' := [(2, this), (0, known), (0, 0), (0, l6_j44), (0, 0), (2, this)]) (lo' := [(0, (2, this)), (1, (0, paper)), (2, (0, day)), (3, (0, strike)), (4, (0, number)), (5, (0, known)), (6, (0, l6_j44))]) rfl ?_
          refine r_getKI hX hP rfl fl_X11_129_128 hS (x := la) la_e ?_
          refine r_ic_ge hX hP rfl (tgt := 89) rfl (by first | decide | omega) (by first | decide | omega) (by first | decide | omega) (by first | decide | omega) (fun c9 => ?_) (fun c9 => ?_)
          · skip
            refine r_ex hX hP 1 (pc' := 90) (st' := [(0, 0), (0, 0), (0, l6_j44), (0, 0), (2, this)]) (lo' := [(0, (2, this)), (1, (0, paper)), (2, (0, day)), (3, (0, strike)), (4, (0, number)), (5, (0, known)), (6, (0, l6_j44))]) rfl ?_
            refine r_callS gd hX hP rfl cs_X11_112 (d' := 0) (mc' := 0) (ms' := 0) (as' := [(0, 0), (0, l6_j44), (0, 0), (0, 0)]) (st := [(2, this)]) (by first | decide | omega) (by first | decide | omega) (by first | decide | omega) rfl rfl (Nat.le_of_ble_eq_true rfl) (c_X11_first E S G 0 l6_j44 0 0 (by first | decide | omega) (by first | decide | omega) (by first | decide | omega) (by first | decide | omega) (by first | decide | omega) (by first | decide | omega) (by first | decide | omega) (by first | decide | omega)) ?_
            rintro _ _ _ ⟨rfl, rfl, z10, rfl, (⟨rfl, f11⟩ | ⟨rfl, f12, f13⟩ | ⟨rfl, f14, f15, f16⟩ | ⟨rfl, f17, f18, f19, f20⟩ | ⟨rfl, f21, f22, f23, f24⟩)⟩
            · skip
              exfalso; omega
            · skip
              refine r_callV gd hX hP rfl cv_X11_90_128 hS (d' := 0) (mc' := 0) (ms' := 0) (as' := [(0, 2)]) (st := []) (by first | decide | omega) (by first | decide | omega) (by first | decide | omega) rfl rfl (Nat.le_of_ble_eq_true rfl) (c_X11_refused E S G this 2 hS (by first | decide | omega) (by first | decide | omega)) ?_
              rintro _ _ _ ⟨rfl, ⟨G25, rfl⟩, z26, rfl, (⟨rfl, f27⟩ | ⟨rfl, f28⟩)⟩
              · skip
                refine r_if_eq hX hP rfl (tgt := 101) rfl (by first | decide | omega) (by first | decide | omega) (fun c29 => ?_) (fun c29 => ?_)
                · skip
                  exfalso; omega
                · skip
                  refine r_ex hX hP 1 (pc' := 100) (st' := [(0, (-1))]) (lo' := [(0, (2, this)), (1, (0, paper)), (2, (0, day)), (3, (0, strike)), (4, (0, number)), (5, (0, known)), (6, (0, l6_j44))]) rfl ?_
                  have g30 : Gr [141, 152, 160, 161, 162, 163, 164, 165, 166, 167, 168, 169, 170, 171, 172, 173, 174, 175, 176, 177, 178, 179, 180, 181, 182, 183, 184, 185] [(128, 0), (128, 1), (129, 1), (152, 0), (152, 1), (152, 2), (152, 3), (152, 4), (152, 5), (152, 6), (152, 8), (158, 0), (158, 1), (158, 2), (179, -1)] S G S (hw [(128, 0)] G G25) := (gr_hw (gr_refl [141, 152, 160, 161, 162, 163, 164, 165, 166, 167, 168, 169, 170, 171, 172, 173, 174, 175, 176, 177, 178, 179, 180, 181, 182, 183, 184, 185] [(128, 0), (128, 1), (129, 1), (152, 0), (152, 1), (152, 2), (152, 3), (152, 4), (152, 5), (152, 6), (152, 8), (158, 0), (158, 1), (158, 2), (179, -1)] S G) rfl)
                  have ci31 : CI E S (hw [(128, 0)] G G25) := (ci_hw ci rfl)
                  exact r_retI hX hP rfl rfl (by first | decide | omega) (by first | decide | omega) ⟨g30, (-1), rfl, opn, opn_e, la, la_e, (by first | decide | omega), (by first | decide | omega), (by first | decide | omega), ci31⟩
              · skip
                exfalso; omega
            · skip
              exfalso; omega
            · skip
              exfalso; omega
            · skip
              refine r_callV gd hX hP rfl cv_X11_90_128 hS (d' := 0) (mc' := 0) (ms' := 0) (as' := [(0, 0)]) (st := []) (by first | decide | omega) (by first | decide | omega) (by first | decide | omega) rfl rfl (Nat.le_of_ble_eq_true rfl) (c_X11_refused E S G this 0 hS (by first | decide | omega) (by first | decide | omega)) ?_
              rintro _ _ _ ⟨rfl, ⟨G32, rfl⟩, z33, rfl, (⟨rfl, f34⟩ | ⟨rfl, f35⟩)⟩
              · skip
                exfalso; omega
              · skip
                refine r_if_eq hX hP rfl (tgt := 101) rfl (by first | decide | omega) (by first | decide | omega) (fun c36 => ?_) (fun c36 => ?_)
                · skip
                  have g37 : Gr [141, 152, 160, 161, 162, 163, 164, 165, 166, 167, 168, 169, 170, 171, 172, 173, 174, 175, 176, 177, 178, 179, 180, 181, 182, 183, 184, 185] [(128, 0), (128, 1), (129, 1), (152, 0), (152, 1), (152, 2), (152, 3), (152, 4), (152, 5), (152, 6), (152, 8), (158, 0), (158, 1), (158, 2), (179, -1)] S G S (hw [(128, 0)] G G32) := (gr_hw (gr_refl [141, 152, 160, 161, 162, 163, 164, 165, 166, 167, 168, 169, 170, 171, 172, 173, 174, 175, 176, 177, 178, 179, 180, 181, 182, 183, 184, 185] [(128, 0), (128, 1), (129, 1), (152, 0), (152, 1), (152, 2), (152, 3), (152, 4), (152, 5), (152, 6), (152, 8), (158, 0), (158, 1), (158, 2), (179, -1)] S G) rfl)
                  have ci38 : CI E S (hw [(128, 0)] G G32) := (ci_hw ci rfl)
                  refine r_tk hX (fun tk39 => ?_)
                  refine r_newA hX hP rfl (L := 152) (N := 9) nw_X11_132_152 (by first | decide | omega) (by first | decide | omega) (fun n40 S41 G42 n40z n40n n40l g43 n40v => ?_)
                  have z44 : S n40 = 0 := gr_zero g37 n40z
                  have s45 : S41 this = 128 := gr_lab g43 hS (by decide)
                  have s46 : S41 op = 158 := gr_lab g43 op_s (by decide)
                  have e47 : op = G42 128 this 10 := gr_val g43 op_e hS (by decide) rfl
                  have e48 : opn = G42 158 op 2 := gr_val g43 opn_e op_s (by decide) rfl
                  have e49 : la = G42 128 this 1 := gr_val g43 la_e hS (by decide) rfl
                  have g50 : Gr [141, 152, 160, 161, 162, 163, 164, 165, 166, 167, 168, 169, 170, 171, 172, 173, 174, 175, 176, 177, 178, 179, 180, 181, 182, 183, 184, 185] [(128, 0), (128, 1), (129, 1), (152, 0), (152, 1), (152, 2), (152, 3), (152, 4), (152, 5), (152, 6), (152, 8), (158, 0), (158, 1), (158, 2), (179, -1)] S G S41 G42 := gr_call g37 g43 rfl rfl
                  have ci51 : CI E S41 G42 := ci_gr ci38 tk39 g43 rfl rfl
                  refine r_ex hX hP 5 (pc' := 111) (st' := [(0, known), (0, number), (0, day), (0, paper), (2, n40), (2, n40)]) (lo' := [(0, (2, this)), (1, (0, paper)), (2, (0, day)), (3, (0, strike)), (4, (0, number)), (5, (0, known)), (6, (0, l6_j44))]) rfl ?_
                  refine r_callI gd hX hP rfl ci_X11_134 n40n (d' := 4) (mc' := 0) (ms' := 0) (as' := [(0, paper), (0, day), (0, number), (0, known)]) (st := [(2, n40)]) (by first | decide | omega) (by first | decide | omega) (by first | decide | omega) rfl rfl (Nat.le_of_ble_eq_true rfl) (c_X1_initT E S41 G42 n40 paper day number known n40l (by first | decide | omega) (by first | decide | omega) (by first | decide | omega) (by first | decide | omega) (by first | decide | omega) (by first | decide | omega) (by first | decide | omega) (by first | decide | omega)) ?_
                  rintro _ _ _ ⟨rfl, ⟨G52, rfl⟩, rfl, knh53, knh53e, sth54, sth54e, pah55, pah55e, dah56, dah56e, nuh57, nuh57e, f58, f59, f60, f61, f62⟩
                  refine r_peekI hX (tl_152 0 rfl (by decide)) n40l (fun o63 o63e o63a o63b => ?_)
                  obtain rfl : knh53 = o63 := knh53e.trans o63e.symm
                  refine r_peekI hX (tl_152 1 rfl (by decide)) n40l (fun o64 o64e o64a o64b => ?_)
                  obtain rfl : sth54 = o64 := sth54e.trans o64e.symm
                  refine r_peekI hX (tl_152 2 rfl (by decide)) n40l (fun o65 o65e o65a o65b => ?_)
                  obtain rfl : pah55 = o65 := pah55e.trans o65e.symm
                  refine r_peekI hX (tl_152 3 rfl (by decide)) n40l (fun o66 o66e o66a o66b => ?_)
                  obtain rfl : dah56 = o66 := dah56e.trans o66e.symm
                  refine r_peekI hX (tl_152 4 rfl (by decide)) n40l (fun o67 o67e o67a o67b => ?_)
                  obtain rfl : nuh57 = o67 := nuh57e.trans o67e.symm
                  have e68 : known = (hw [(152, 0), (152, 1), (152, 2), (152, 3), (152, 4), (152, 5), (152, 6)] G42 G52) 152 n40 0 := by rw [← f58]; exact knh53e
                  have e69 : ((-1) : Int) = (hw [(152, 0), (152, 1), (152, 2), (152, 3), (152, 4), (152, 5), (152, 6)] G42 G52) 152 n40 1 := by rw [← f59]; exact sth54e
                  have e70 : paper = (hw [(152, 0), (152, 1), (152, 2), (152, 3), (152, 4), (152, 5), (152, 6)] G42 G52) 152 n40 2 := by rw [← f60]; exact pah55e
                  have e71 : day = (hw [(152, 0), (152, 1), (152, 2), (152, 3), (152, 4), (152, 5), (152, 6)] G42 G52) 152 n40 3 := by rw [← f61]; exact dah56e
                  have e72 : number = (hw [(152, 0), (152, 1), (152, 2), (152, 3), (152, 4), (152, 5), (152, 6)] G42 G52) 152 n40 4 := by rw [← f62]; exact nuh57e
                  refine r_ex hX hP 3 (pc' := 119) (st' := [(0, strike), (2, n40)]) (lo' := [(0, (2, this)), (1, (0, paper)), (2, (0, day)), (3, (0, strike)), (4, (0, number)), (5, (0, known)), (6, (0, l6_j44)), (7, (2, n40))]) rfl ?_
                  refine r_putIK hX hP rfl fp_X11_140_152 n40l (by first | decide | omega) (by first | decide | omega) (fun h73 => ?_)
                  have g74 : Gr [141, 152, 160, 161, 162, 163, 164, 165, 166, 167, 168, 169, 170, 171, 172, 173, 174, 175, 176, 177, 178, 179, 180, 181, 182, 183, 184, 185] [(128, 0), (128, 1), (129, 1), (152, 0), (152, 1), (152, 2), (152, 3), (152, 4), (152, 5), (152, 6), (152, 8), (158, 0), (158, 1), (158, 2), (179, -1)] S G S41 (up (hw [(152, 0), (152, 1), (152, 2), (152, 3), (152, 4), (152, 5), (152, 6)] G42 G52) 152 n40 8 strike) := (gr_up (gr_hw g50 rfl) rfl)
                  refine r_finA hX (L := 152) (ci := 2) (fs := fs_152) rfl n40l (by decide) (fun hr75 => ?_)
                  have hf76 : Fnl E fs_141 152 S41 (up (hw [(152, 0), (152, 1), (152, 2), (152, 3), (152, 4), (152, 5), (152, 6)] G42 G52) 152 n40 8 strike) n40 := by
                    intro j hj
                    rcases (by have : j < 9 := hj; omega : j = 0 ∨ j = 1 ∨ j = 2 ∨ j = 3 ∨ j = 4 ∨ j = 5 ∨ j = 6 ∨ j = 7 ∨ j = 8) with rfl | rfl | rfl | rfl | rfl | rfl | rfl | rfl | rfl
                    · exact hr75 0 (by decide)
                    · exact hr75 1 (by decide)
                    · exact hr75 2 (by decide)
                    · exact hr75 3 (by decide)
                    · exact hr75 4 (by decide)
                    · exact hr75 5 (by decide)
                    · exact hr75 6 (by decide)
                    · exact hr75 7 (by decide)
                    · exact hr75 8 (by decide)
                  have ci77 : CI E S41 (up (hw [(152, 0), (152, 1), (152, 2), (152, 3), (152, 4), (152, 5), (152, 6)] G42 G52) 152 n40 8 strike) := (ci_up (ci_hw ci51 rfl) rfl)
                  refine r_tk hX (fun tk78 => ?_)
                  refine r_relabF hX (L := 152) (L' := 141) (ci := 2) (fs := fs_152) (fs' := fs_141) rfl rfl rfl (by decide) (by decide) nf_152 (by decide) n40l hf76 (fun S80 G81 r79 => ?_)
                  have s83 : S80 this = 128 := r79.lab n40l s45 (by decide)
                  have s84 : S80 op = 158 := r79.lab n40l s46 (by decide)
                  have e85 : op = G81 128 this 10 := rs_val r79 n40l e47 s45 (by decide)
                  have e86 : opn = G81 158 op 2 := rs_val r79 n40l e48 s46 (by decide)
                  have e87 : la = G81 128 this 1 := rs_val r79 n40l e49 s45 (by decide)
                  have e88 : known = G81 141 n40 0 := e68.trans (r79.2.2.1 0).symm
                  have e89 : (-1) = G81 141 n40 1 := e69.trans (r79.2.2.1 1).symm
                  have e90 : paper = G81 141 n40 2 := e70.trans (r79.2.2.1 2).symm
                  have e91 : day = G81 141 n40 3 := e71.trans (r79.2.2.1 3).symm
                  have e92 : number = G81 141 n40 4 := e72.trans (r79.2.2.1 4).symm
                  have e93 : strike = G81 141 n40 8 := h73.trans (r79.2.2.1 8).symm
                  have g94 : Gr [141, 152, 160, 161, 162, 163, 164, 165, 166, 167, 168, 169, 170, 171, 172, 173, 174, 175, 176, 177, 178, 179, 180, 181, 182, 183, 184, 185] [(128, 0), (128, 1), (129, 1), (152, 0), (152, 1), (152, 2), (152, 3), (152, 4), (152, 5), (152, 6), (152, 8), (158, 0), (158, 1), (158, 2), (179, -1)] S G S80 G81 := gr_rs g74 r79 z44 rfl
                  have ci95 : CI E S80 G81 := ci_rs ci77 tk78 r79 n40l rfl rfl (fun e => absurd e (by decide)) (fun e => absurd e (by decide))
                  refine r_ex hX hP 1 (pc' := 123) (st' := [(2, this)]) (lo' := [(0, (2, this)), (1, (0, paper)), (2, (0, day)), (3, (0, strike)), (4, (0, number)), (5, (0, known)), (6, (0, l6_j44)), (7, (2, n40))]) rfl ?_
                  refine r_getKR hX hP rfl fl_X11_45_128 s83 (x := op) e85 ?_
                  refine r_ex hX hP 1 (pc' := 128) (st' := [(2, n40), (2, op)]) (lo' := [(0, (2, this)), (1, (0, paper)), (2, (0, day)), (3, (0, strike)), (4, (0, number)), (5, (0, known)), (6, (0, l6_j44)), (7, (2, n40))]) rfl ?_
                  refine r_tk hX (fun tk96 => ?_)
                  refine r_callV gd hX hP rfl cv_X11_143_158 s84 (d' := 14) (mc' := 1) (ms' := 10) (as' := [(2, n40)]) (st := []) (by first | decide | omega) (by first | decide | omega) (by first | decide | omega) rfl rfl (Nat.le_of_ble_eq_true rfl) (c_add_LopT E S80 G81 op n40 s84 r79.1 opn e86 (by first | decide | omega) ci95) ?_
                  rintro _ S97 G98 ⟨g99, z100, rfl, z100a, z100b, ci101, q102, q103, q104⟩
                  have s105 : S97 this = 128 := gr_lab g99 s83 (by decide)
                  have s106 : S97 op = 158 := gr_lab g99 s84 (by decide)
                  have s107 : S97 n40 = 141 := gr_lab g99 r79.1 (by decide)
                  have e108 : op = G98 128 this 10 := gr_val g99 e85 s83 (by decide) rfl
                  have e109 : la = G98 128 this 1 := gr_val g99 e87 s83 (by decide) rfl
                  have e110 : known = G98 141 n40 0 := gr_val g99 e88 r79.1 (by decide) rfl
                  have e111 : (-1) = G98 141 n40 1 := gr_val g99 e89 r79.1 (by decide) rfl
                  have e112 : paper = G98 141 n40 2 := gr_val g99 e90 r79.1 (by decide) rfl
                  have e113 : day = G98 141 n40 3 := gr_val g99 e91 r79.1 (by decide) rfl
                  have e114 : number = G98 141 n40 4 := gr_val g99 e92 r79.1 (by decide) rfl
                  have e115 : strike = G98 141 n40 8 := gr_val g99 e93 r79.1 (by decide) rfl
                  have g116 : Gr [141, 152, 160, 161, 162, 163, 164, 165, 166, 167, 168, 169, 170, 171, 172, 173, 174, 175, 176, 177, 178, 179, 180, 181, 182, 183, 184, 185] [(128, 0), (128, 1), (129, 1), (152, 0), (152, 1), (152, 2), (152, 3), (152, 4), (152, 5), (152, 6), (152, 8), (158, 0), (158, 1), (158, 2), (179, -1)] S G S97 G98 := gr_call g94 g99 rfl rfl
                  refine r_ex hX hP 3 (pc' := 135) (st' := [(0, known), (2, this)]) (lo' := [(0, (2, this)), (1, (0, paper)), (2, (0, day)), (3, (0, strike)), (4, (0, number)), (5, (0, known)), (6, (0, l6_j44)), (7, (2, n40))]) rfl ?_
                  refine r_callV gd hX hP rfl cv_X11_147_128 s105 (d' := 0) (mc' := 0) (ms' := 0) (as' := [(0, known)]) (st := []) (by first | decide | omega) (by first | decide | omega) (by first | decide | omega) rfl rfl (Nat.le_of_ble_eq_true rfl) (c_X11_tellT E S97 G98 this known s105 (by first | decide | omega) (by first | decide | omega)) ?_
                  rintro _ _ _ ⟨rfl, ⟨G117, rfl⟩, rfl, lah118, lah118e, f119⟩
                  refine r_peekI hX (tl_128 1 rfl (by decide)) s105 (fun o120 o120e o120a o120b => ?_)
                  obtain rfl : lah118 = o120 := lah118e.trans o120e.symm
                  refine r_ex hX hP 1 (pc' := 139) (st' := [(2, this)]) (lo' := [(0, (2, this)), (1, (0, paper)), (2, (0, day)), (3, (0, strike)), (4, (0, number)), (5, (0, known)), (6, (0, l6_j44)), (7, (2, n40))]) rfl ?_
                  refine r_getKR hX hP rfl fl_X11_45_128 s105 (x := op) e108 ?_
                  refine r_peekI hX (tl_158 2 rfl (by decide)) s106 (fun sip121 sip121e sip121a sip121b => ?_)
                  refine r_callV gd hX hP rfl cv_X11_125_158 s106 (d' := 0) (mc' := 0) (ms' := 0) (as' := []) (st := []) (by first | decide | omega) (by first | decide | omega) (by first | decide | omega) rfl rfl (Nat.le_of_ble_eq_true rfl) (c_size_Lop E S97 (hw [(128, 1), (129, 1)] G98 G117) op  s106 sip121 sip121e) ?_
                  rintro _ _ _ ⟨rfl, rfl, z122, rfl, z122a, z122b, f123⟩
                  refine r_ex hX hP 2 (pc' := 147) (st' := [(0, (z122 - 1))]) (lo' := [(0, (2, this)), (1, (0, paper)), (2, (0, day)), (3, (0, strike)), (4, (0, number)), (5, (0, known)), (6, (0, l6_j44)), (7, (2, n40))]) rfl ?_
                  have g124 : Gr [141, 152, 160, 161, 162, 163, 164, 165, 166, 167, 168, 169, 170, 171, 172, 173, 174, 175, 176, 177, 178, 179, 180, 181, 182, 183, 184, 185] [(128, 0), (128, 1), (129, 1), (152, 0), (152, 1), (152, 2), (152, 3), (152, 4), (152, 5), (152, 6), (152, 8), (158, 0), (158, 1), (158, 2), (179, -1)] S G S97 (hw [(128, 1), (129, 1)] G98 G117) := (gr_hw g116 rfl)
                  have k125 := sip121e.trans (show (hw [(128, 1), (129, 1)] G98 G117) 158 op 2 = opn + 1 from q102)
                  have ci126 : CI E S97 (hw [(128, 1), (129, 1)] G98 G117) := (ci_hw ci101 rfl)
                  exact r_retI hX hP rfl rfl (by first | decide | omega) (by first | decide | omega) ⟨g124, (z122 - 1), rfl, sip121, sip121e, lah118, lah118e, (by first | decide | omega), (by first | decide | omega), (by first | decide | omega), ci126⟩
                · skip
                  exfalso; omega
          · skip
            refine r_ex hX hP 2 (pc' := 90) (st' := [(0, 1), (0, 0), (0, l6_j44), (0, 0), (2, this)]) (lo' := [(0, (2, this)), (1, (0, paper)), (2, (0, day)), (3, (0, strike)), (4, (0, number)), (5, (0, known)), (6, (0, l6_j44))]) rfl ?_
            refine r_callS gd hX hP rfl cs_X11_112 (d' := 0) (mc' := 0) (ms' := 0) (as' := [(0, 0), (0, l6_j44), (0, 0), (0, 1)]) (st := [(2, this)]) (by first | decide | omega) (by first | decide | omega) (by first | decide | omega) rfl rfl (Nat.le_of_ble_eq_true rfl) (c_X11_first E S G 0 l6_j44 0 1 (by first | decide | omega) (by first | decide | omega) (by first | decide | omega) (by first | decide | omega) (by first | decide | omega) (by first | decide | omega) (by first | decide | omega) (by first | decide | omega)) ?_
            rintro _ _ _ ⟨rfl, rfl, z127, rfl, (⟨rfl, f128⟩ | ⟨rfl, f129, f130⟩ | ⟨rfl, f131, f132, f133⟩ | ⟨rfl, f134, f135, f136, f137⟩ | ⟨rfl, f138, f139, f140, f141⟩)⟩
            · skip
              exfalso; omega
            · skip
              refine r_callV gd hX hP rfl cv_X11_90_128 hS (d' := 0) (mc' := 0) (ms' := 0) (as' := [(0, 2)]) (st := []) (by first | decide | omega) (by first | decide | omega) (by first | decide | omega) rfl rfl (Nat.le_of_ble_eq_true rfl) (c_X11_refused E S G this 2 hS (by first | decide | omega) (by first | decide | omega)) ?_
              rintro _ _ _ ⟨rfl, ⟨G142, rfl⟩, z143, rfl, (⟨rfl, f144⟩ | ⟨rfl, f145⟩)⟩
              · skip
                refine r_if_eq hX hP rfl (tgt := 101) rfl (by first | decide | omega) (by first | decide | omega) (fun c146 => ?_) (fun c146 => ?_)
                · skip
                  exfalso; omega
                · skip
                  refine r_ex hX hP 1 (pc' := 100) (st' := [(0, (-1))]) (lo' := [(0, (2, this)), (1, (0, paper)), (2, (0, day)), (3, (0, strike)), (4, (0, number)), (5, (0, known)), (6, (0, l6_j44))]) rfl ?_
                  have g147 : Gr [141, 152, 160, 161, 162, 163, 164, 165, 166, 167, 168, 169, 170, 171, 172, 173, 174, 175, 176, 177, 178, 179, 180, 181, 182, 183, 184, 185] [(128, 0), (128, 1), (129, 1), (152, 0), (152, 1), (152, 2), (152, 3), (152, 4), (152, 5), (152, 6), (152, 8), (158, 0), (158, 1), (158, 2), (179, -1)] S G S (hw [(128, 0)] G G142) := (gr_hw (gr_refl [141, 152, 160, 161, 162, 163, 164, 165, 166, 167, 168, 169, 170, 171, 172, 173, 174, 175, 176, 177, 178, 179, 180, 181, 182, 183, 184, 185] [(128, 0), (128, 1), (129, 1), (152, 0), (152, 1), (152, 2), (152, 3), (152, 4), (152, 5), (152, 6), (152, 8), (158, 0), (158, 1), (158, 2), (179, -1)] S G) rfl)
                  have ci148 : CI E S (hw [(128, 0)] G G142) := (ci_hw ci rfl)
                  exact r_retI hX hP rfl rfl (by first | decide | omega) (by first | decide | omega) ⟨g147, (-1), rfl, opn, opn_e, la, la_e, (by first | decide | omega), (by first | decide | omega), (by first | decide | omega), ci148⟩
              · skip
                exfalso; omega
            · skip
              exfalso; omega
            · skip
              refine r_callV gd hX hP rfl cv_X11_90_128 hS (d' := 0) (mc' := 0) (ms' := 0) (as' := [(0, 4)]) (st := []) (by first | decide | omega) (by first | decide | omega) (by first | decide | omega) rfl rfl (Nat.le_of_ble_eq_true rfl) (c_X11_refused E S G this 4 hS (by first | decide | omega) (by first | decide | omega)) ?_
              rintro _ _ _ ⟨rfl, ⟨G149, rfl⟩, z150, rfl, (⟨rfl, f151⟩ | ⟨rfl, f152⟩)⟩
              · skip
                refine r_if_eq hX hP rfl (tgt := 101) rfl (by first | decide | omega) (by first | decide | omega) (fun c153 => ?_) (fun c153 => ?_)
                · skip
                  exfalso; omega
                · skip
                  refine r_ex hX hP 1 (pc' := 100) (st' := [(0, (-1))]) (lo' := [(0, (2, this)), (1, (0, paper)), (2, (0, day)), (3, (0, strike)), (4, (0, number)), (5, (0, known)), (6, (0, l6_j44))]) rfl ?_
                  have g154 : Gr [141, 152, 160, 161, 162, 163, 164, 165, 166, 167, 168, 169, 170, 171, 172, 173, 174, 175, 176, 177, 178, 179, 180, 181, 182, 183, 184, 185] [(128, 0), (128, 1), (129, 1), (152, 0), (152, 1), (152, 2), (152, 3), (152, 4), (152, 5), (152, 6), (152, 8), (158, 0), (158, 1), (158, 2), (179, -1)] S G S (hw [(128, 0)] G G149) := (gr_hw (gr_refl [141, 152, 160, 161, 162, 163, 164, 165, 166, 167, 168, 169, 170, 171, 172, 173, 174, 175, 176, 177, 178, 179, 180, 181, 182, 183, 184, 185] [(128, 0), (128, 1), (129, 1), (152, 0), (152, 1), (152, 2), (152, 3), (152, 4), (152, 5), (152, 6), (152, 8), (158, 0), (158, 1), (158, 2), (179, -1)] S G) rfl)
                  have ci155 : CI E S (hw [(128, 0)] G G149) := (ci_hw ci rfl)
                  exact r_retI hX hP rfl rfl (by first | decide | omega) (by first | decide | omega) ⟨g154, (-1), rfl, opn, opn_e, la, la_e, (by first | decide | omega), (by first | decide | omega), (by first | decide | omega), ci155⟩
              · skip
                exfalso; omega
            · skip
              exfalso; omega
        · skip
          refine r_ex hX hP 4 (pc' := 79) (st' := [(2, this), (0, known), (0, 1), (0, l6_j44), (0, 0), (2, this)]) (lo' := [(0, (2, this)), (1, (0, paper)), (2, (0, day)), (3, (0, strike)), (4, (0, number)), (5, (0, known)), (6, (0, l6_j44))]) rfl ?_
          refine r_getKI hX hP rfl fl_X11_129_128 hS (x := la) la_e ?_
          refine r_ic_ge hX hP rfl (tgt := 89) rfl (by first | decide | omega) (by first | decide | omega) (by first | decide | omega) (by first | decide | omega) (fun c156 => ?_) (fun c156 => ?_)
          · skip
            refine r_ex hX hP 1 (pc' := 90) (st' := [(0, 0), (0, 1), (0, l6_j44), (0, 0), (2, this)]) (lo' := [(0, (2, this)), (1, (0, paper)), (2, (0, day)), (3, (0, strike)), (4, (0, number)), (5, (0, known)), (6, (0, l6_j44))]) rfl ?_
            refine r_callS gd hX hP rfl cs_X11_112 (d' := 0) (mc' := 0) (ms' := 0) (as' := [(0, 0), (0, l6_j44), (0, 1), (0, 0)]) (st := [(2, this)]) (by first | decide | omega) (by first | decide | omega) (by first | decide | omega) rfl rfl (Nat.le_of_ble_eq_true rfl) (c_X11_first E S G 0 l6_j44 1 0 (by first | decide | omega) (by first | decide | omega) (by first | decide | omega) (by first | decide | omega) (by first | decide | omega) (by first | decide | omega) (by first | decide | omega) (by first | decide | omega)) ?_
            rintro _ _ _ ⟨rfl, rfl, z157, rfl, (⟨rfl, f158⟩ | ⟨rfl, f159, f160⟩ | ⟨rfl, f161, f162, f163⟩ | ⟨rfl, f164, f165, f166, f167⟩ | ⟨rfl, f168, f169, f170, f171⟩)⟩
            · skip
              exfalso; omega
            · skip
              refine r_callV gd hX hP rfl cv_X11_90_128 hS (d' := 0) (mc' := 0) (ms' := 0) (as' := [(0, 2)]) (st := []) (by first | decide | omega) (by first | decide | omega) (by first | decide | omega) rfl rfl (Nat.le_of_ble_eq_true rfl) (c_X11_refused E S G this 2 hS (by first | decide | omega) (by first | decide | omega)) ?_
              rintro _ _ _ ⟨rfl, ⟨G172, rfl⟩, z173, rfl, (⟨rfl, f174⟩ | ⟨rfl, f175⟩)⟩
              · skip
                refine r_if_eq hX hP rfl (tgt := 101) rfl (by first | decide | omega) (by first | decide | omega) (fun c176 => ?_) (fun c176 => ?_)
                · skip
                  exfalso; omega
                · skip
                  refine r_ex hX hP 1 (pc' := 100) (st' := [(0, (-1))]) (lo' := [(0, (2, this)), (1, (0, paper)), (2, (0, day)), (3, (0, strike)), (4, (0, number)), (5, (0, known)), (6, (0, l6_j44))]) rfl ?_
                  have g177 : Gr [141, 152, 160, 161, 162, 163, 164, 165, 166, 167, 168, 169, 170, 171, 172, 173, 174, 175, 176, 177, 178, 179, 180, 181, 182, 183, 184, 185] [(128, 0), (128, 1), (129, 1), (152, 0), (152, 1), (152, 2), (152, 3), (152, 4), (152, 5), (152, 6), (152, 8), (158, 0), (158, 1), (158, 2), (179, -1)] S G S (hw [(128, 0)] G G172) := (gr_hw (gr_refl [141, 152, 160, 161, 162, 163, 164, 165, 166, 167, 168, 169, 170, 171, 172, 173, 174, 175, 176, 177, 178, 179, 180, 181, 182, 183, 184, 185] [(128, 0), (128, 1), (129, 1), (152, 0), (152, 1), (152, 2), (152, 3), (152, 4), (152, 5), (152, 6), (152, 8), (158, 0), (158, 1), (158, 2), (179, -1)] S G) rfl)
                  have ci178 : CI E S (hw [(128, 0)] G G172) := (ci_hw ci rfl)
                  exact r_retI hX hP rfl rfl (by first | decide | omega) (by first | decide | omega) ⟨g177, (-1), rfl, opn, opn_e, la, la_e, (by first | decide | omega), (by first | decide | omega), (by first | decide | omega), ci178⟩
              · skip
                exfalso; omega
            · skip
              refine r_callV gd hX hP rfl cv_X11_90_128 hS (d' := 0) (mc' := 0) (ms' := 0) (as' := [(0, 3)]) (st := []) (by first | decide | omega) (by first | decide | omega) (by first | decide | omega) rfl rfl (Nat.le_of_ble_eq_true rfl) (c_X11_refused E S G this 3 hS (by first | decide | omega) (by first | decide | omega)) ?_
              rintro _ _ _ ⟨rfl, ⟨G179, rfl⟩, z180, rfl, (⟨rfl, f181⟩ | ⟨rfl, f182⟩)⟩
              · skip
                refine r_if_eq hX hP rfl (tgt := 101) rfl (by first | decide | omega) (by first | decide | omega) (fun c183 => ?_) (fun c183 => ?_)
                · skip
                  exfalso; omega
                · skip
                  refine r_ex hX hP 1 (pc' := 100) (st' := [(0, (-1))]) (lo' := [(0, (2, this)), (1, (0, paper)), (2, (0, day)), (3, (0, strike)), (4, (0, number)), (5, (0, known)), (6, (0, l6_j44))]) rfl ?_
                  have g184 : Gr [141, 152, 160, 161, 162, 163, 164, 165, 166, 167, 168, 169, 170, 171, 172, 173, 174, 175, 176, 177, 178, 179, 180, 181, 182, 183, 184, 185] [(128, 0), (128, 1), (129, 1), (152, 0), (152, 1), (152, 2), (152, 3), (152, 4), (152, 5), (152, 6), (152, 8), (158, 0), (158, 1), (158, 2), (179, -1)] S G S (hw [(128, 0)] G G179) := (gr_hw (gr_refl [141, 152, 160, 161, 162, 163, 164, 165, 166, 167, 168, 169, 170, 171, 172, 173, 174, 175, 176, 177, 178, 179, 180, 181, 182, 183, 184, 185] [(128, 0), (128, 1), (129, 1), (152, 0), (152, 1), (152, 2), (152, 3), (152, 4), (152, 5), (152, 6), (152, 8), (158, 0), (158, 1), (158, 2), (179, -1)] S G) rfl)
                  have ci185 : CI E S (hw [(128, 0)] G G179) := (ci_hw ci rfl)
                  exact r_retI hX hP rfl rfl (by first | decide | omega) (by first | decide | omega) ⟨g184, (-1), rfl, opn, opn_e, la, la_e, (by first | decide | omega), (by first | decide | omega), (by first | decide | omega), ci185⟩
              · skip
                exfalso; omega
            · skip
              exfalso; omega
            · skip
              exfalso; omega
          · skip
            refine r_ex hX hP 2 (pc' := 90) (st' := [(0, 1), (0, 1), (0, l6_j44), (0, 0), (2, this)]) (lo' := [(0, (2, this)), (1, (0, paper)), (2, (0, day)), (3, (0, strike)), (4, (0, number)), (5, (0, known)), (6, (0, l6_j44))]) rfl ?_
            refine r_callS gd hX hP rfl cs_X11_112 (d' := 0) (mc' := 0) (ms' := 0) (as' := [(0, 0), (0, l6_j44), (0, 1), (0, 1)]) (st := [(2, this)]) (by first | decide | omega) (by first | decide | omega) (by first | decide | omega) rfl rfl (Nat.le_of_ble_eq_true rfl) (c_X11_first E S G 0 l6_j44 1 1 (by first | decide | omega) (by first | decide | omega) (by first | decide | omega) (by first | decide | omega) (by first | decide | omega) (by first | decide | omega) (by first | decide | omega) (by first | decide | omega)) ?_
            rintro _ _ _ ⟨rfl, rfl, z186, rfl, (⟨rfl, f187⟩ | ⟨rfl, f188, f189⟩ | ⟨rfl, f190, f191, f192⟩ | ⟨rfl, f193, f194, f195, f196⟩ | ⟨rfl, f197, f198, f199, f200⟩)⟩
            · skip
              exfalso; omega
            · skip
              refine r_callV gd hX hP rfl cv_X11_90_128 hS (d' := 0) (mc' := 0) (ms' := 0) (as' := [(0, 2)]) (st := []) (by first | decide | omega) (by first | decide | omega) (by first | decide | omega) rfl rfl (Nat.le_of_ble_eq_true rfl) (c_X11_refused E S G this 2 hS (by first | decide | omega) (by first | decide | omega)) ?_
              rintro _ _ _ ⟨rfl, ⟨G201, rfl⟩, z202, rfl, (⟨rfl, f203⟩ | ⟨rfl, f204⟩)⟩
              · skip
                refine r_if_eq hX hP rfl (tgt := 101) rfl (by first | decide | omega) (by first | decide | omega) (fun c205 => ?_) (fun c205 => ?_)
                · skip
                  exfalso; omega
                · skip
                  refine r_ex hX hP 1 (pc' := 100) (st' := [(0, (-1))]) (lo' := [(0, (2, this)), (1, (0, paper)), (2, (0, day)), (3, (0, strike)), (4, (0, number)), (5, (0, known)), (6, (0, l6_j44))]) rfl ?_
                  have g206 : Gr [141, 152, 160, 161, 162, 163, 164, 165, 166, 167, 168, 169, 170, 171, 172, 173, 174, 175, 176, 177, 178, 179, 180, 181, 182, 183, 184, 185] [(128, 0), (128, 1), (129, 1), (152, 0), (152, 1), (152, 2), (152, 3), (152, 4), (152, 5), (152, 6), (152, 8), (158, 0), (158, 1), (158, 2), (179, -1)] S G S (hw [(128, 0)] G G201) := (gr_hw (gr_refl [141, 152, 160, 161, 162, 163, 164, 165, 166, 167, 168, 169, 170, 171, 172, 173, 174, 175, 176, 177, 178, 179, 180, 181, 182, 183, 184, 185] [(128, 0), (128, 1), (129, 1), (152, 0), (152, 1), (152, 2), (152, 3), (152, 4), (152, 5), (152, 6), (152, 8), (158, 0), (158, 1), (158, 2), (179, -1)] S G) rfl)
                  have ci207 : CI E S (hw [(128, 0)] G G201) := (ci_hw ci rfl)
                  exact r_retI hX hP rfl rfl (by first | decide | omega) (by first | decide | omega) ⟨g206, (-1), rfl, opn, opn_e, la, la_e, (by first | decide | omega), (by first | decide | omega), (by first | decide | omega), ci207⟩
              · skip
                exfalso; omega
            · skip
              refine r_callV gd hX hP rfl cv_X11_90_128 hS (d' := 0) (mc' := 0) (ms' := 0) (as' := [(0, 3)]) (st := []) (by first | decide | omega) (by first | decide | omega) (by first | decide | omega) rfl rfl (Nat.le_of_ble_eq_true rfl) (c_X11_refused E S G this 3 hS (by first | decide | omega) (by first | decide | omega)) ?_
              rintro _ _ _ ⟨rfl, ⟨G208, rfl⟩, z209, rfl, (⟨rfl, f210⟩ | ⟨rfl, f211⟩)⟩
              · skip
                refine r_if_eq hX hP rfl (tgt := 101) rfl (by first | decide | omega) (by first | decide | omega) (fun c212 => ?_) (fun c212 => ?_)
                · skip
                  exfalso; omega
                · skip
                  refine r_ex hX hP 1 (pc' := 100) (st' := [(0, (-1))]) (lo' := [(0, (2, this)), (1, (0, paper)), (2, (0, day)), (3, (0, strike)), (4, (0, number)), (5, (0, known)), (6, (0, l6_j44))]) rfl ?_
                  have g213 : Gr [141, 152, 160, 161, 162, 163, 164, 165, 166, 167, 168, 169, 170, 171, 172, 173, 174, 175, 176, 177, 178, 179, 180, 181, 182, 183, 184, 185] [(128, 0), (128, 1), (129, 1), (152, 0), (152, 1), (152, 2), (152, 3), (152, 4), (152, 5), (152, 6), (152, 8), (158, 0), (158, 1), (158, 2), (179, -1)] S G S (hw [(128, 0)] G G208) := (gr_hw (gr_refl [141, 152, 160, 161, 162, 163, 164, 165, 166, 167, 168, 169, 170, 171, 172, 173, 174, 175, 176, 177, 178, 179, 180, 181, 182, 183, 184, 185] [(128, 0), (128, 1), (129, 1), (152, 0), (152, 1), (152, 2), (152, 3), (152, 4), (152, 5), (152, 6), (152, 8), (158, 0), (158, 1), (158, 2), (179, -1)] S G) rfl)
                  have ci214 : CI E S (hw [(128, 0)] G G208) := (ci_hw ci rfl)
                  exact r_retI hX hP rfl rfl (by first | decide | omega) (by first | decide | omega) ⟨g213, (-1), rfl, opn, opn_e, la, la_e, (by first | decide | omega), (by first | decide | omega), (by first | decide | omega), ci214⟩
              · skip
                exfalso; omega
            · skip
              exfalso; omega
            · skip
              exfalso; omega
      · skip
        exfalso; omega
    · skip
      refine r_if_ne hX hP rfl (tgt := 56) rfl (by first | decide | omega) (by first | decide | omega) (fun c215 => ?_) (fun c215 => ?_)
      · skip
        exfalso; omega
      · skip
        refine r_ex hX hP 4 (pc' := 60) (st' := [(2, this), (0, l6_j44), (0, 1), (2, this)]) (lo' := [(0, (2, this)), (1, (0, paper)), (2, (0, day)), (3, (0, strike)), (4, (0, number)), (5, (0, known)), (6, (0, l6_j44))]) rfl ?_
        refine r_getKR hX hP rfl fl_X11_45_128 hS (x := op) op_e ?_
        refine r_callV gd hX hP rfl cv_X11_125_158 op_s (d' := 0) (mc' := 0) (ms' := 0) (as' := []) (st := [(0, l6_j44), (0, 1), (2, this)]) (by first | decide | omega) (by first | decide | omega) (by first | decide | omega) rfl rfl (Nat.le_of_ble_eq_true rfl) (c_size_Lop E S G op  op_s opn opn_e) ?_
        rintro _ _ _ ⟨rfl, rfl, z216, rfl, z216a, z216b, f217⟩
        refine r_ex hX hP 1 (pc' := 68) (st' := [(0, 10), (0, z216), (0, l6_j44), (0, 1), (2, this)]) (lo' := [(0, (2, this)), (1, (0, paper)), (2, (0, day)), (3, (0, strike)), (4, (0, number)), (5, (0, known)), (6, (0, l6_j44))]) rfl ?_
        refine r_ic_lt hX hP rfl (tgt := 75) rfl (by first | decide | omega) (by first | decide | omega) (by first | decide | omega) (by first | decide | omega) (fun c218 => ?_) (fun c218 => ?_)
        · skip
          refine r_ex hX hP 3 (pc' := 79) (st' := [(2, this), (0, known), (0, 0), (0, l6_j44), (0, 1), (2, this)]) (lo' := [(0, (2, this)), (1, (0, paper)), (2, (0, day)), (3, (0, strike)), (4, (0, number)), (5, (0, known)), (6, (0, l6_j44))]) rfl ?_
          refine r_getKI hX hP rfl fl_X11_129_128 hS (x := la) la_e ?_
          refine r_ic_ge hX hP rfl (tgt := 89) rfl (by first | decide | omega) (by first | decide | omega) (by first | decide | omega) (by first | decide | omega) (fun c219 => ?_) (fun c219 => ?_)
          · skip
            refine r_ex hX hP 1 (pc' := 90) (st' := [(0, 0), (0, 0), (0, l6_j44), (0, 1), (2, this)]) (lo' := [(0, (2, this)), (1, (0, paper)), (2, (0, day)), (3, (0, strike)), (4, (0, number)), (5, (0, known)), (6, (0, l6_j44))]) rfl ?_
            refine r_callS gd hX hP rfl cs_X11_112 (d' := 0) (mc' := 0) (ms' := 0) (as' := [(0, 1), (0, l6_j44), (0, 0), (0, 0)]) (st := [(2, this)]) (by first | decide | omega) (by first | decide | omega) (by first | decide | omega) rfl rfl (Nat.le_of_ble_eq_true rfl) (c_X11_first E S G 1 l6_j44 0 0 (by first | decide | omega) (by first | decide | omega) (by first | decide | omega) (by first | decide | omega) (by first | decide | omega) (by first | decide | omega) (by first | decide | omega) (by first | decide | omega)) ?_
            rintro _ _ _ ⟨rfl, rfl, z220, rfl, (⟨rfl, f221⟩ | ⟨rfl, f222, f223⟩ | ⟨rfl, f224, f225, f226⟩ | ⟨rfl, f227, f228, f229, f230⟩ | ⟨rfl, f231, f232, f233, f234⟩)⟩
            · skip
              refine r_callV gd hX hP rfl cv_X11_90_128 hS (d' := 0) (mc' := 0) (ms' := 0) (as' := [(0, 1)]) (st := []) (by first | decide | omega) (by first | decide | omega) (by first | decide | omega) rfl rfl (Nat.le_of_ble_eq_true rfl) (c_X11_refused E S G this 1 hS (by first | decide | omega) (by first | decide | omega)) ?_
              rintro _ _ _ ⟨rfl, ⟨G235, rfl⟩, z236, rfl, (⟨rfl, f237⟩ | ⟨rfl, f238⟩)⟩
              · skip
                refine r_if_eq hX hP rfl (tgt := 101) rfl (by first | decide | omega) (by first | decide | omega) (fun c239 => ?_) (fun c239 => ?_)
                · skip
                  exfalso; omega
                · skip
                  refine r_ex hX hP 1 (pc' := 100) (st' := [(0, (-1))]) (lo' := [(0, (2, this)), (1, (0, paper)), (2, (0, day)), (3, (0, strike)), (4, (0, number)), (5, (0, known)), (6, (0, l6_j44))]) rfl ?_
                  have g240 : Gr [141, 152, 160, 161, 162, 163, 164, 165, 166, 167, 168, 169, 170, 171, 172, 173, 174, 175, 176, 177, 178, 179, 180, 181, 182, 183, 184, 185] [(128, 0), (128, 1), (129, 1), (152, 0), (152, 1), (152, 2), (152, 3), (152, 4), (152, 5), (152, 6), (152, 8), (158, 0), (158, 1), (158, 2), (179, -1)] S G S (hw [(128, 0)] G G235) := (gr_hw (gr_refl [141, 152, 160, 161, 162, 163, 164, 165, 166, 167, 168, 169, 170, 171, 172, 173, 174, 175, 176, 177, 178, 179, 180, 181, 182, 183, 184, 185] [(128, 0), (128, 1), (129, 1), (152, 0), (152, 1), (152, 2), (152, 3), (152, 4), (152, 5), (152, 6), (152, 8), (158, 0), (158, 1), (158, 2), (179, -1)] S G) rfl)
                  have ci241 : CI E S (hw [(128, 0)] G G235) := (ci_hw ci rfl)
                  exact r_retI hX hP rfl rfl (by first | decide | omega) (by first | decide | omega) ⟨g240, (-1), rfl, opn, opn_e, la, la_e, (by first | decide | omega), (by first | decide | omega), (by first | decide | omega), ci241⟩
              · skip
                exfalso; omega
            · skip
              exfalso; omega
            · skip
              exfalso; omega
            · skip
              exfalso; omega
            · skip
              exfalso; omega
          · skip
            refine r_ex hX hP 2 (pc' := 90) (st' := [(0, 1), (0, 0), (0, l6_j44), (0, 1), (2, this)]) (lo' := [(0, (2, this)), (1, (0, paper)), (2, (0, day)), (3, (0, strike)), (4, (0, number)), (5, (0, known)), (6, (0, l6_j44))]) rfl ?_
            refine r_callS gd hX hP rfl cs_X11_112 (d' := 0) (mc' := 0) (ms' := 0) (as' := [(0, 1), (0, l6_j44), (0, 0), (0, 1)]) (st := [(2, this)]) (by first | decide | omega) (by first | decide | omega) (by first | decide | omega) rfl rfl (Nat.le_of_ble_eq_true rfl) (c_X11_first E S G 1 l6_j44 0 1 (by first | decide | omega) (by first | decide | omega) (by first | decide | omega) (by first | decide | omega) (by first | decide | omega) (by first | decide | omega) (by first | decide | omega) (by first | decide | omega)) ?_
            rintro _ _ _ ⟨rfl, rfl, z242, rfl, (⟨rfl, f243⟩ | ⟨rfl, f244, f245⟩ | ⟨rfl, f246, f247, f248⟩ | ⟨rfl, f249, f250, f251, f252⟩ | ⟨rfl, f253, f254, f255, f256⟩)⟩
            · skip
              refine r_callV gd hX hP rfl cv_X11_90_128 hS (d' := 0) (mc' := 0) (ms' := 0) (as' := [(0, 1)]) (st := []) (by first | decide | omega) (by first | decide | omega) (by first | decide | omega) rfl rfl (Nat.le_of_ble_eq_true rfl) (c_X11_refused E S G this 1 hS (by first | decide | omega) (by first | decide | omega)) ?_
              rintro _ _ _ ⟨rfl, ⟨G257, rfl⟩, z258, rfl, (⟨rfl, f259⟩ | ⟨rfl, f260⟩)⟩
              · skip
                refine r_if_eq hX hP rfl (tgt := 101) rfl (by first | decide | omega) (by first | decide | omega) (fun c261 => ?_) (fun c261 => ?_)
                · skip
                  exfalso; omega
                · skip
                  refine r_ex hX hP 1 (pc' := 100) (st' := [(0, (-1))]) (lo' := [(0, (2, this)), (1, (0, paper)), (2, (0, day)), (3, (0, strike)), (4, (0, number)), (5, (0, known)), (6, (0, l6_j44))]) rfl ?_
                  have g262 : Gr [141, 152, 160, 161, 162, 163, 164, 165, 166, 167, 168, 169, 170, 171, 172, 173, 174, 175, 176, 177, 178, 179, 180, 181, 182, 183, 184, 185] [(128, 0), (128, 1), (129, 1), (152, 0), (152, 1), (152, 2), (152, 3), (152, 4), (152, 5), (152, 6), (152, 8), (158, 0), (158, 1), (158, 2), (179, -1)] S G S (hw [(128, 0)] G G257) := (gr_hw (gr_refl [141, 152, 160, 161, 162, 163, 164, 165, 166, 167, 168, 169, 170, 171, 172, 173, 174, 175, 176, 177, 178, 179, 180, 181, 182, 183, 184, 185] [(128, 0), (128, 1), (129, 1), (152, 0), (152, 1), (152, 2), (152, 3), (152, 4), (152, 5), (152, 6), (152, 8), (158, 0), (158, 1), (158, 2), (179, -1)] S G) rfl)
                  have ci263 : CI E S (hw [(128, 0)] G G257) := (ci_hw ci rfl)
                  exact r_retI hX hP rfl rfl (by first | decide | omega) (by first | decide | omega) ⟨g262, (-1), rfl, opn, opn_e, la, la_e, (by first | decide | omega), (by first | decide | omega), (by first | decide | omega), ci263⟩
              · skip
                exfalso; omega
            · skip
              exfalso; omega
            · skip
              exfalso; omega
            · skip
              exfalso; omega
            · skip
              exfalso; omega
        · skip
          refine r_ex hX hP 4 (pc' := 79) (st' := [(2, this), (0, known), (0, 1), (0, l6_j44), (0, 1), (2, this)]) (lo' := [(0, (2, this)), (1, (0, paper)), (2, (0, day)), (3, (0, strike)), (4, (0, number)), (5, (0, known)), (6, (0, l6_j44))]) rfl ?_
          refine r_getKI hX hP rfl fl_X11_129_128 hS (x := la) la_e ?_
          refine r_ic_ge hX hP rfl (tgt := 89) rfl (by first | decide | omega) (by first | decide | omega) (by first | decide | omega) (by first | decide | omega) (fun c264 => ?_) (fun c264 => ?_)
          · skip
            refine r_ex hX hP 1 (pc' := 90) (st' := [(0, 0), (0, 1), (0, l6_j44), (0, 1), (2, this)]) (lo' := [(0, (2, this)), (1, (0, paper)), (2, (0, day)), (3, (0, strike)), (4, (0, number)), (5, (0, known)), (6, (0, l6_j44))]) rfl ?_
            refine r_callS gd hX hP rfl cs_X11_112 (d' := 0) (mc' := 0) (ms' := 0) (as' := [(0, 1), (0, l6_j44), (0, 1), (0, 0)]) (st := [(2, this)]) (by first | decide | omega) (by first | decide | omega) (by first | decide | omega) rfl rfl (Nat.le_of_ble_eq_true rfl) (c_X11_first E S G 1 l6_j44 1 0 (by first | decide | omega) (by first | decide | omega) (by first | decide | omega) (by first | decide | omega) (by first | decide | omega) (by first | decide | omega) (by first | decide | omega) (by first | decide | omega)) ?_
            rintro _ _ _ ⟨rfl, rfl, z265, rfl, (⟨rfl, f266⟩ | ⟨rfl, f267, f268⟩ | ⟨rfl, f269, f270, f271⟩ | ⟨rfl, f272, f273, f274, f275⟩ | ⟨rfl, f276, f277, f278, f279⟩)⟩
            · skip
              refine r_callV gd hX hP rfl cv_X11_90_128 hS (d' := 0) (mc' := 0) (ms' := 0) (as' := [(0, 1)]) (st := []) (by first | decide | omega) (by first | decide | omega) (by first | decide | omega) rfl rfl (Nat.le_of_ble_eq_true rfl) (c_X11_refused E S G this 1 hS (by first | decide | omega) (by first | decide | omega)) ?_
              rintro _ _ _ ⟨rfl, ⟨G280, rfl⟩, z281, rfl, (⟨rfl, f282⟩ | ⟨rfl, f283⟩)⟩
              · skip
                refine r_if_eq hX hP rfl (tgt := 101) rfl (by first | decide | omega) (by first | decide | omega) (fun c284 => ?_) (fun c284 => ?_)
                · skip
                  exfalso; omega
                · skip
                  refine r_ex hX hP 1 (pc' := 100) (st' := [(0, (-1))]) (lo' := [(0, (2, this)), (1, (0, paper)), (2, (0, day)), (3, (0, strike)), (4, (0, number)), (5, (0, known)), (6, (0, l6_j44))]) rfl ?_
                  have g285 : Gr [141, 152, 160, 161, 162, 163, 164, 165, 166, 167, 168, 169, 170, 171, 172, 173, 174, 175, 176, 177, 178, 179, 180, 181, 182, 183, 184, 185] [(128, 0), (128, 1), (129, 1), (152, 0), (152, 1), (152, 2), (152, 3), (152, 4), (152, 5), (152, 6), (152, 8), (158, 0), (158, 1), (158, 2), (179, -1)] S G S (hw [(128, 0)] G G280) := (gr_hw (gr_refl [141, 152, 160, 161, 162, 163, 164, 165, 166, 167, 168, 169, 170, 171, 172, 173, 174, 175, 176, 177, 178, 179, 180, 181, 182, 183, 184, 185] [(128, 0), (128, 1), (129, 1), (152, 0), (152, 1), (152, 2), (152, 3), (152, 4), (152, 5), (152, 6), (152, 8), (158, 0), (158, 1), (158, 2), (179, -1)] S G) rfl)
                  have ci286 : CI E S (hw [(128, 0)] G G280) := (ci_hw ci rfl)
                  exact r_retI hX hP rfl rfl (by first | decide | omega) (by first | decide | omega) ⟨g285, (-1), rfl, opn, opn_e, la, la_e, (by first | decide | omega), (by first | decide | omega), (by first | decide | omega), ci286⟩
              · skip
                exfalso; omega
            · skip
              exfalso; omega
            · skip
              exfalso; omega
            · skip
              exfalso; omega
            · skip
              exfalso; omega
          · skip
            refine r_ex hX hP 2 (pc' := 90) (st' := [(0, 1), (0, 1), (0, l6_j44), (0, 1), (2, this)]) (lo' := [(0, (2, this)), (1, (0, paper)), (2, (0, day)), (3, (0, strike)), (4, (0, number)), (5, (0, known)), (6, (0, l6_j44))]) rfl ?_
            refine r_callS gd hX hP rfl cs_X11_112 (d' := 0) (mc' := 0) (ms' := 0) (as' := [(0, 1), (0, l6_j44), (0, 1), (0, 1)]) (st := [(2, this)]) (by first | decide | omega) (by first | decide | omega) (by first | decide | omega) rfl rfl (Nat.le_of_ble_eq_true rfl) (c_X11_first E S G 1 l6_j44 1 1 (by first | decide | omega) (by first | decide | omega) (by first | decide | omega) (by first | decide | omega) (by first | decide | omega) (by first | decide | omega) (by first | decide | omega) (by first | decide | omega)) ?_
            rintro _ _ _ ⟨rfl, rfl, z287, rfl, (⟨rfl, f288⟩ | ⟨rfl, f289, f290⟩ | ⟨rfl, f291, f292, f293⟩ | ⟨rfl, f294, f295, f296, f297⟩ | ⟨rfl, f298, f299, f300, f301⟩)⟩
            · skip
              refine r_callV gd hX hP rfl cv_X11_90_128 hS (d' := 0) (mc' := 0) (ms' := 0) (as' := [(0, 1)]) (st := []) (by first | decide | omega) (by first | decide | omega) (by first | decide | omega) rfl rfl (Nat.le_of_ble_eq_true rfl) (c_X11_refused E S G this 1 hS (by first | decide | omega) (by first | decide | omega)) ?_
              rintro _ _ _ ⟨rfl, ⟨G302, rfl⟩, z303, rfl, (⟨rfl, f304⟩ | ⟨rfl, f305⟩)⟩
              · skip
                refine r_if_eq hX hP rfl (tgt := 101) rfl (by first | decide | omega) (by first | decide | omega) (fun c306 => ?_) (fun c306 => ?_)
                · skip
                  exfalso; omega
                · skip
                  refine r_ex hX hP 1 (pc' := 100) (st' := [(0, (-1))]) (lo' := [(0, (2, this)), (1, (0, paper)), (2, (0, day)), (3, (0, strike)), (4, (0, number)), (5, (0, known)), (6, (0, l6_j44))]) rfl ?_
                  have g307 : Gr [141, 152, 160, 161, 162, 163, 164, 165, 166, 167, 168, 169, 170, 171, 172, 173, 174, 175, 176, 177, 178, 179, 180, 181, 182, 183, 184, 185] [(128, 0), (128, 1), (129, 1), (152, 0), (152, 1), (152, 2), (152, 3), (152, 4), (152, 5), (152, 6), (152, 8), (158, 0), (158, 1), (158, 2), (179, -1)] S G S (hw [(128, 0)] G G302) := (gr_hw (gr_refl [141, 152, 160, 161, 162, 163, 164, 165, 166, 167, 168, 169, 170, 171, 172, 173, 174, 175, 176, 177, 178, 179, 180, 181, 182, 183, 184, 185] [(128, 0), (128, 1), (129, 1), (152, 0), (152, 1), (152, 2), (152, 3), (152, 4), (152, 5), (152, 6), (152, 8), (158, 0), (158, 1), (158, 2), (179, -1)] S G) rfl)
                  have ci308 : CI E S (hw [(128, 0)] G G302) := (ci_hw ci rfl)
                  exact r_retI hX hP rfl rfl (by first | decide | omega) (by first | decide | omega) ⟨g307, (-1), rfl, opn, opn_e, la, la_e, (by first | decide | omega), (by first | decide | omega), (by first | decide | omega), ci308⟩
              · skip
                exfalso; omega
            · skip
              exfalso; omega
            · skip
              exfalso; omega
            · skip
              exfalso; omega
            · skip
              exfalso; omega
  refine r_ex hX hP 1 (pc' := 1) (st' := [(0, day)]) (lo' := [(0, (2, this)), (1, (0, paper)), (2, (0, day)), (3, (0, strike)), (4, (0, number)), (5, (0, known))]) rfl ?_
  refine r_callS gd hX hP rfl cs_X11_86 (d' := 1) (mc' := 0) (ms' := 0) (as' := [(0, day)]) (st := []) (by first | decide | omega) (by first | decide | omega) (by first | decide | omega) rfl rfl (Nat.le_of_ble_eq_true rfl) (c_X11_isDay E S G day (by first | decide | omega) (by first | decide | omega)) ?_
  rintro _ _ _ ⟨rfl, rfl, z309, rfl, (⟨rfl, f310, f311⟩ | ⟨rfl, f312⟩)⟩
  · skip
    refine r_if_eq hX hP rfl (tgt := 37) rfl (by first | decide | omega) (by first | decide | omega) (fun c313 => ?_) (fun c313 => ?_)
    · skip
      exfalso; omega
    · skip
      refine r_ex hX hP 2 (pc' := 9) (st' := [(0, 1), (0, strike)]) (lo' := [(0, (2, this)), (1, (0, paper)), (2, (0, day)), (3, (0, strike)), (4, (0, number)), (5, (0, known))]) rfl ?_
      refine r_ldc hX hP rfl (v := 1000000) (tbg sg3 10 rfl rfl) ?_
      refine r_callS gd hX hP rfl cs_X11_103 (d' := 0) (mc' := 0) (ms' := 0) (as' := [(0, strike), (0, 1), (0, 1000000)]) (st := []) (by first | decide | omega) (by first | decide | omega) (by first | decide | omega) rfl rfl (Nat.le_of_ble_eq_true rfl) (c_X11_within E S G strike 1 1000000 (by first | decide | omega) (by first | decide | omega) (by first | decide | omega) (by first | decide | omega) (by first | decide | omega) (by first | decide | omega)) ?_
      rintro _ _ _ ⟨rfl, rfl, z314, rfl, (⟨rfl, f315, f316⟩ | ⟨rfl, f317⟩)⟩
      · skip
        refine r_if_eq hX hP rfl (tgt := 37) rfl (by first | decide | omega) (by first | decide | omega) (fun c318 => ?_) (fun c318 => ?_)
        · skip
          exfalso; omega
        · skip
          refine r_ex hX hP 3 (pc' := 23) (st' := [(0, 10000), (0, 1), (0, number)]) (lo' := [(0, (2, this)), (1, (0, paper)), (2, (0, day)), (3, (0, strike)), (4, (0, number)), (5, (0, known))]) rfl ?_
          refine r_callS gd hX hP rfl cs_X11_103 (d' := 0) (mc' := 0) (ms' := 0) (as' := [(0, number), (0, 1), (0, 10000)]) (st := []) (by first | decide | omega) (by first | decide | omega) (by first | decide | omega) rfl rfl (Nat.le_of_ble_eq_true rfl) (c_X11_within E S G number 1 10000 (by first | decide | omega) (by first | decide | omega) (by first | decide | omega) (by first | decide | omega) (by first | decide | omega) (by first | decide | omega)) ?_
          rintro _ _ _ ⟨rfl, rfl, z319, rfl, (⟨rfl, f320, f321⟩ | ⟨rfl, f322⟩)⟩
          · skip
            refine r_if_eq hX hP rfl (tgt := 37) rfl (by first | decide | omega) (by first | decide | omega) (fun c323 => ?_) (fun c323 => ?_)
            · skip
              exfalso; omega
            · skip
              refine r_ex hX hP 1 (pc' := 31) (st' := [(0, known)]) (lo' := [(0, (2, this)), (1, (0, paper)), (2, (0, day)), (3, (0, strike)), (4, (0, number)), (5, (0, known))]) rfl ?_
              refine r_callS gd hX hP rfl cs_X11_86 (d' := 1) (mc' := 0) (ms' := 0) (as' := [(0, known)]) (st := []) (by first | decide | omega) (by first | decide | omega) (by first | decide | omega) rfl rfl (Nat.le_of_ble_eq_true rfl) (c_X11_isDay E S G known (by first | decide | omega) (by first | decide | omega)) ?_
              rintro _ _ _ ⟨rfl, rfl, z324, rfl, (⟨rfl, f325, f326⟩ | ⟨rfl, f327⟩)⟩
              · skip
                refine r_if_ne hX hP rfl (tgt := 41) rfl (by first | decide | omega) (by first | decide | omega) (fun c328 => ?_) (fun c328 => ?_)
                · skip
                  refine r_ex hX hP 2 (pc' := 44) (st' := []) (lo' := [(0, (2, this)), (1, (0, paper)), (2, (0, day)), (3, (0, strike)), (4, (0, number)), (5, (0, known)), (6, (0, 0))]) rfl ?_
                  exact j44 0 (by first | decide | omega) (by first | decide | omega) (by first | decide | omega)
                · skip
                  exfalso; omega
              · skip
                refine r_if_ne hX hP rfl (tgt := 41) rfl (by first | decide | omega) (by first | decide | omega) (fun c329 => ?_) (fun c329 => ?_)
                · skip
                  exfalso; omega
                · skip
                  refine r_ex hX hP 3 (pc' := 44) (st' := []) (lo' := [(0, (2, this)), (1, (0, paper)), (2, (0, day)), (3, (0, strike)), (4, (0, number)), (5, (0, known)), (6, (0, 1))]) rfl ?_
                  exact j44 1 (by first | decide | omega) (by first | decide | omega) (by first | decide | omega)
          · skip
            refine r_if_eq hX hP rfl (tgt := 37) rfl (by first | decide | omega) (by first | decide | omega) (fun c330 => ?_) (fun c330 => ?_)
            · skip
              refine r_ex hX hP 3 (pc' := 44) (st' := []) (lo' := [(0, (2, this)), (1, (0, paper)), (2, (0, day)), (3, (0, strike)), (4, (0, number)), (5, (0, known)), (6, (0, 1))]) rfl ?_
              exact j44 1 (by first | decide | omega) (by first | decide | omega) (by first | decide | omega)
            · skip
              exfalso; omega
      · skip
        refine r_if_eq hX hP rfl (tgt := 37) rfl (by first | decide | omega) (by first | decide | omega) (fun c331 => ?_) (fun c331 => ?_)
        · skip
          refine r_ex hX hP 3 (pc' := 44) (st' := []) (lo' := [(0, (2, this)), (1, (0, paper)), (2, (0, day)), (3, (0, strike)), (4, (0, number)), (5, (0, known)), (6, (0, 1))]) rfl ?_
          exact j44 1 (by first | decide | omega) (by first | decide | omega) (by first | decide | omega)
        · skip
          exfalso; omega
  · skip
    refine r_if_eq hX hP rfl (tgt := 37) rfl (by first | decide | omega) (by first | decide | omega) (fun c332 => ?_) (fun c332 => ?_)
    · skip
      refine r_ex hX hP 3 (pc' := 44) (st' := []) (lo' := [(0, (2, this)), (1, (0, paper)), (2, (0, day)), (3, (0, strike)), (4, (0, number)), (5, (0, known)), (6, (0, 1))]) rfl ?_
      exact j44 1 (by first | decide | omega) (by first | decide | omega) (by first | decide | omega)
    · skip
      exfalso; omega
