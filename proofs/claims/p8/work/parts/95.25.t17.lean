set_option maxRecDepth 100000 in
set_option maxHeartbeats 4000000 in
theorem c_X11_strikeT (E : En) (S : Sg) (G : Gh) (this : Int) (what : Int) (which : Int) (known : Int) (hS : S this = 128) (tr : Int) (tr_e : tr = G 128 this 7) (tr_s : S tr = 155) (trn : Int) (trn_e : trn = G 155 tr 2) (evl : Int) (evl_e : evl = G 128 this 8) (evl_s : S evl = 156) (evn : Int) (evn_e : evn = G 156 evl 2) (pi : Int) (pi_e : pi = G 128 this 9) (pi_s : S pi = 157) (pin : Int) (pin_e : pin = G 157 pi 2) (la : Int) (la_e : la = G 128 this 1) (what_a : (-2147483648) ≤ what) (what_b : what ≤ 2147483647) (which_a : (-2147483648) ≤ which) (which_b : which ≤ 2147483647) (known_a : (-2147483648) ≤ known) (known_b : known ≤ 2147483647) (ci : CI E S G) : Calls E mX11_strike [(2, this), (0, what), (0, which), (0, known)] S G 4 0 0 (fun r S' G' => S = S' ∧ (∃ G1, hw [(128, 0), (128, 1), (129, 1), (137, 1), (138, 1), (140, 1)] G G1 = G') ∧ ∃ z : Int, r = some (0, z) ∧ ∃ l2 : Int, l2 = G' 128 this 1 ∧ 0 ≤ z ∧ z ≤ 1 ∧ ((0 ≤ known ∧ known ≤ 40000 ∧ la ≤ known ∧ l2 = known ∧ ((z = 1 ∧ what = 0 ∧ 0 ≤ which ∧ which < trn ∧ G 140 (elm S G 155 tr which) 1 = -1 ∧ G' 140 (elm S G 155 tr which) 1 = known ∧ (∀ a : Int, a ≠ (elm S G 155 tr which) → G' 140 a 1 = G 140 a 1) ∧ (∀ a : Int, G' 137 a 1 = G 137 a 1 ∧ G' 138 a 1 = G 138 a 1)) ∨ (z = 1 ∧ what = 1 ∧ 0 ≤ which ∧ which < evn ∧ G 137 (elm S G 156 evl which) 1 = -1 ∧ G' 137 (elm S G 156 evl which) 1 = known ∧ (∀ a : Int, a ≠ (elm S G 156 evl which) → G' 137 a 1 = G 137 a 1) ∧ (∀ a : Int, G' 140 a 1 = G 140 a 1 ∧ G' 138 a 1 = G 138 a 1)) ∨ (z = 1 ∧ what = 2 ∧ 0 ≤ which ∧ which < pin ∧ G 138 (elm S G 157 pi which) 1 = -1 ∧ G' 138 (elm S G 157 pi which) 1 = known ∧ (∀ a : Int, a ≠ (elm S G 157 pi which) → G' 138 a 1 = G 138 a 1) ∧ (∀ a : Int, G' 140 a 1 = G 140 a 1 ∧ G' 137 a 1 = G 137 a 1)))) ∨ (z = 0 ∧ l2 = la ∧ (∀ a : Int, G' 140 a 1 = G 140 a 1 ∧ G' 137 a 1 = G 137 a 1 ∧ G' 138 a 1 = G 138 a 1) ∧ ¬ (0 ≤ known ∧ known ≤ 40000 ∧ la ≤ known ∧ 0 ≤ what ∧ what ≤ 2 ∧ ((what = 0 ∧ 0 ≤ which ∧ which < trn ∧ G 140 (elm S G 155 tr which) 1 = -1) ∨ (what = 1 ∧ 0 ≤ which ∧ which < evn ∧ G 137 (elm S G 156 evl which) 1 = -1) ∨ (what = 2 ∧ 0 ≤ which ∧ which < pin ∧ G 138 (elm S G 157 pi which) 1 = -1)))))) := by
  refine calls_by [(0, (2, this)), (1, (0, what)), (2, (0, which)), (3, (0, known))] rfl rfl (Nat.le_of_ble_eq_true rfl) (fun X hX => ?_)
  have hP := hPX11_strike
  refine r_peekI hX (tl_155 2 rfl (by decide)) tr_s (fun trn_o trn_oe trn_oa trn_ob => ?_)
  obtain rfl : trn = trn_o := trn_e.trans trn_oe.symm
  refine r_peekI hX (tl_156 2 rfl (by decide)) evl_s (fun evn_o evn_oe evn_oa evn_ob => ?_)
  obtain rfl : evn = evn_o := evn_e.trans evn_oe.symm
  refine r_peekI hX (tl_157 2 rfl (by decide)) pi_s (fun pin_o pin_oe pin_oa pin_ob => ?_)
  obtain rfl : pin = pin_o := pin_e.trans pin_oe.symm
  refine r_peekI hX (tl_128 1 rfl (by decide)) hS (fun la_o la_oe la_oa la_ob => ?_)
  obtain rfl : la = la_o := la_e.trans la_oe.symm
  refine r_ex hX hP 4 (pc' := 4) (st' := [(0, 2), (0, 0), (0, what), (2, this)]) (lo' := [(0, (2, this)), (1, (0, what)), (2, (0, which)), (3, (0, known))]) rfl ?_
  refine r_callS gd hX hP rfl cs_X11_103 (d' := 0) (mc' := 0) (ms' := 0) (as' := [(0, what), (0, 0), (0, 2)]) (st := [(2, this)]) (by first | decide | omega) (by first | decide | omega) (by first | decide | omega) rfl rfl (Nat.le_of_ble_eq_true rfl) (c_X11_within E S G what 0 2 (by first | decide | omega) (by first | decide | omega) (by first | decide | omega) (by first | decide | omega) (by first | decide | omega) (by first | decide | omega)) ?_
  rintro _ _ _ ⟨rfl, rfl, z1, rfl, (⟨rfl, f2, f3⟩ | ⟨rfl, f4⟩)⟩
  · skip
    refine r_if_eq hX hP rfl (tgt := 14) rfl (by first | decide | omega) (by first | decide | omega) (fun c5 => ?_) (fun c5 => ?_)
    · skip
      exfalso; omega
    · skip
      refine r_ex hX hP 2 (pc' := 15) (st' := [(0, 0), (2, this)]) (lo' := [(0, (2, this)), (1, (0, what)), (2, (0, which)), (3, (0, known))]) rfl ?_
      refine r_callV gd hX hP rfl cv_X11_90_128 hS (d' := 0) (mc' := 0) (ms' := 0) (as' := [(0, 0)]) (st := []) (by first | decide | omega) (by first | decide | omega) (by first | decide | omega) rfl rfl (Nat.le_of_ble_eq_true rfl) (c_X11_refused E S G this 0 hS (by first | decide | omega) (by first | decide | omega)) ?_
      rintro _ _ _ ⟨rfl, ⟨G6, rfl⟩, z7, rfl, (⟨rfl, f8⟩ | ⟨rfl, f9⟩)⟩
      · skip
        exfalso; omega
      · skip
        refine r_if_eq hX hP rfl (tgt := 23) rfl (by first | decide | omega) (by first | decide | omega) (fun c10 => ?_) (fun c10 => ?_)
        · skip
          refine r_ex hX hP 3 (pc' := 26) (st' := [(0, which), (0, what), (2, this)]) (lo' := [(0, (2, this)), (1, (0, what)), (2, (0, which)), (3, (0, known))]) rfl ?_
          have ci11 : CI E S (hw [(128, 0)] G G6) := (ci_hw ci rfl)
          refine r_callV gd hX hP rfl cv_X11_218_128 hS (d' := 3) (mc' := 0) (ms' := 0) (as' := [(0, what), (0, which)]) (st := []) (by first | decide | omega) (by first | decide | omega) (by first | decide | omega) rfl rfl (Nat.le_of_ble_eq_true rfl) (c_X11_toldByT E S (hw [(128, 0)] G G6) this what which hS tr tr_e tr_s trn trn_e evl evl_e evl_s evn evn_e pi pi_e pi_s pin pin_e (by first | decide | omega) (by first | decide | omega) (by first | decide | omega) (by first | decide | omega) ci11) ?_
          rintro _ _ _ ⟨rfl, rfl, z12, rfl, (⟨z12s, f13, f14, f15, f16⟩ | ⟨z12s, f17, f18, f19, f20⟩ | ⟨z12s, f21, f22, f23, f24⟩ | ⟨rfl, f25, f26, f27⟩)⟩
          · skip
            have fz28 : z12 = elm S G 155 tr which := (show z12 = elm S (hw [(128, 0)] G G6) 155 tr which from by omega).trans (elk_155 ci tr_s (frm_tr (frm_refl gk155 S G) (frm_hw rfl)) (by first | decide | omega) (by first | decide | omega))
            refine r_ex hX hP 3 (pc' := 33) (st' := [(2, this), (0, known)]) (lo' := [(0, (2, this)), (1, (0, what)), (2, (0, which)), (3, (0, known)), (4, (2, z12))]) rfl ?_
            refine r_getKI hX hP rfl fl_X11_129_128 hS (x := la) la_e ?_
            refine r_ic_lt hX hP rfl (tgt := 53) rfl (by first | decide | omega) (by first | decide | omega) (by first | decide | omega) (by first | decide | omega) (fun c29 => ?_) (fun c29 => ?_)
            · skip
              refine r_ex hX hP 5 (pc' := 63) (st' := [(2, z12), (2, this)]) (lo' := [(0, (2, this)), (1, (0, what)), (2, (0, which)), (3, (0, known)), (4, (2, z12)), (5, (0, 1))]) rfl ?_
              refine r_nn hX z12s (by decide) (fun c30n => ?_)
              refine r_ifnn hX hP rfl (tgt := 70) rfl (fun c30 => ?_) (fun c30 => ?_)
              · skip
                refine r_ex hX hP 2 (pc' := 72) (st' := [(0, known), (0, 0), (2, this)]) (lo' := [(0, (2, this)), (1, (0, what)), (2, (0, which)), (3, (0, known)), (4, (2, z12)), (5, (0, 1))]) rfl ?_
                refine r_callS gd hX hP rfl cs_X11_86 (d' := 1) (mc' := 0) (ms' := 0) (as' := [(0, known)]) (st := [(0, 0), (2, this)]) (by first | decide | omega) (by first | decide | omega) (by first | decide | omega) rfl rfl (Nat.le_of_ble_eq_true rfl) (c_X11_isDay E S (hw [(128, 0)] G G6) known (by first | decide | omega) (by first | decide | omega)) ?_
                rintro _ _ _ ⟨rfl, rfl, z31, rfl, (⟨rfl, f32, f33⟩ | ⟨rfl, f34⟩)⟩
                · skip
                  refine r_if_ne hX hP rfl (tgt := 82) rfl (by first | decide | omega) (by first | decide | omega) (fun c35 => ?_) (fun c35 => ?_)
                  · skip
                    refine r_ex hX hP 3 (pc' := 86) (st' := [(0, 1), (0, 0), (0, 0), (0, 0), (2, this)]) (lo' := [(0, (2, this)), (1, (0, what)), (2, (0, which)), (3, (0, known)), (4, (2, z12)), (5, (0, 1))]) rfl ?_
                    refine r_callS gd hX hP rfl cs_X11_112 (d' := 0) (mc' := 0) (ms' := 0) (as' := [(0, 0), (0, 0), (0, 0), (0, 1)]) (st := [(2, this)]) (by first | decide | omega) (by first | decide | omega) (by first | decide | omega) rfl rfl (Nat.le_of_ble_eq_true rfl) (c_X11_first E S (hw [(128, 0)] G G6) 0 0 0 1 (by first | decide | omega) (by first | decide | omega) (by first | decide | omega) (by first | decide | omega) (by first | decide | omega) (by first | decide | omega) (by first | decide | omega) (by first | decide | omega)) ?_
                    rintro _ _ _ ⟨rfl, rfl, z36, rfl, (⟨rfl, f37⟩ | ⟨rfl, f38, f39⟩ | ⟨rfl, f40, f41, f42⟩ | ⟨rfl, f43, f44, f45, f46⟩ | ⟨rfl, f47, f48, f49, f50⟩)⟩
                    · skip
                      exfalso; omega
                    · skip
                      exfalso; omega
                    · skip
                      exfalso; omega
                    · skip
                      refine r_callV gd hX hP rfl cv_X11_90_128 hS (d' := 0) (mc' := 0) (ms' := 0) (as' := [(0, 4)]) (st := []) (by first | decide | omega) (by first | decide | omega) (by first | decide | omega) rfl rfl (Nat.le_of_ble_eq_true rfl) (c_X11_refused E S (hw [(128, 0)] G G6) this 4 hS (by first | decide | omega) (by first | decide | omega)) ?_
                      rintro _ _ _ ⟨rfl, ⟨G51, rfl⟩, z52, rfl, (⟨rfl, f53⟩ | ⟨rfl, f54⟩)⟩
                      · skip
                        refine r_if_ne hX hP rfl (tgt := 100) rfl (by first | decide | omega) (by first | decide | omega) (fun c55 => ?_) (fun c55 => ?_)
                        · skip
                          refine r_ex hX hP 1 (pc' := 101) (st' := [(0, 0)]) (lo' := [(0, (2, this)), (1, (0, what)), (2, (0, which)), (3, (0, known)), (4, (2, z12)), (5, (0, 1))]) rfl ?_
                          exact r_retZ hX hP rfl rfl (by first | decide | omega) (by first | decide | omega) (by first | decide | omega) (by first | decide | omega) ⟨rfl, ⟨_, (hw_sub (hw_sub (hw_refl _ _) rfl) rfl).symm⟩, 0, rfl, la, la_e, (by first | decide | omega), (by first | decide | omega), (Or.inr ⟨rfl, by omega, fun a => ⟨rfl, rfl, rfl⟩, by omega⟩)⟩
                        · skip
                          exfalso; omega
                      · skip
                        exfalso; omega
                    · skip
                      exfalso; omega
                  · skip
                    exfalso; omega
                · skip
                  refine r_if_ne hX hP rfl (tgt := 82) rfl (by first | decide | omega) (by first | decide | omega) (fun c56 => ?_) (fun c56 => ?_)
                  · skip
                    exfalso; omega
                  · skip
                    refine r_ex hX hP 4 (pc' := 86) (st' := [(0, 1), (0, 0), (0, 1), (0, 0), (2, this)]) (lo' := [(0, (2, this)), (1, (0, what)), (2, (0, which)), (3, (0, known)), (4, (2, z12)), (5, (0, 1))]) rfl ?_
                    refine r_callS gd hX hP rfl cs_X11_112 (d' := 0) (mc' := 0) (ms' := 0) (as' := [(0, 0), (0, 1), (0, 0), (0, 1)]) (st := [(2, this)]) (by first | decide | omega) (by first | decide | omega) (by first | decide | omega) rfl rfl (Nat.le_of_ble_eq_true rfl) (c_X11_first E S (hw [(128, 0)] G G6) 0 1 0 1 (by first | decide | omega) (by first | decide | omega) (by first | decide | omega) (by first | decide | omega) (by first | decide | omega) (by first | decide | omega) (by first | decide | omega) (by first | decide | omega)) ?_
                    rintro _ _ _ ⟨rfl, rfl, z57, rfl, (⟨rfl, f58⟩ | ⟨rfl, f59, f60⟩ | ⟨rfl, f61, f62, f63⟩ | ⟨rfl, f64, f65, f66, f67⟩ | ⟨rfl, f68, f69, f70, f71⟩)⟩
                    · skip
                      exfalso; omega
                    · skip
                      refine r_callV gd hX hP rfl cv_X11_90_128 hS (d' := 0) (mc' := 0) (ms' := 0) (as' := [(0, 2)]) (st := []) (by first | decide | omega) (by first | decide | omega) (by first | decide | omega) rfl rfl (Nat.le_of_ble_eq_true rfl) (c_X11_refused E S (hw [(128, 0)] G G6) this 2 hS (by first | decide | omega) (by first | decide | omega)) ?_
                      rintro _ _ _ ⟨rfl, ⟨G72, rfl⟩, z73, rfl, (⟨rfl, f74⟩ | ⟨rfl, f75⟩)⟩
                      · skip
                        refine r_if_ne hX hP rfl (tgt := 100) rfl (by first | decide | omega) (by first | decide | omega) (fun c76 => ?_) (fun c76 => ?_)
                        · skip
                          refine r_ex hX hP 1 (pc' := 101) (st' := [(0, 0)]) (lo' := [(0, (2, this)), (1, (0, what)), (2, (0, which)), (3, (0, known)), (4, (2, z12)), (5, (0, 1))]) rfl ?_
                          exact r_retZ hX hP rfl rfl (by first | decide | omega) (by first | decide | omega) (by first | decide | omega) (by first | decide | omega) ⟨rfl, ⟨_, (hw_sub (hw_sub (hw_refl _ _) rfl) rfl).symm⟩, 0, rfl, la, la_e, (by first | decide | omega), (by first | decide | omega), (Or.inr ⟨rfl, by omega, fun a => ⟨rfl, rfl, rfl⟩, by omega⟩)⟩
                        · skip
                          exfalso; omega
                      · skip
                        exfalso; omega
                    · skip
                      exfalso; omega
                    · skip
                      exfalso; omega
                    · skip
                      exfalso; omega
              · skip
                exfalso; omega
            · skip
              refine r_ex hX hP 1 (pc' := 41) (st' := [(2, z12)]) (lo' := [(0, (2, this)), (1, (0, what)), (2, (0, which)), (3, (0, known)), (4, (2, z12))]) rfl ?_
              refine r_nn hX z12s (by decide) (fun c77n => ?_)
              refine r_ifnu hX hP rfl (tgt := 57) rfl (fun c77 => ?_) (fun c77 => ?_)
              · skip
                exfalso; omega
              · skip
                refine r_ex hX hP 1 (pc' := 46) (st' := [(2, z12)]) (lo' := [(0, (2, this)), (1, (0, what)), (2, (0, which)), (3, (0, known)), (4, (2, z12))]) rfl ?_
                refine r_getI hX hP rfl fl_X11_222_140 z12s (fun sf78 sf78e sf78a sf78b => ?_)
                have k79 : sf78 = G 140 (elm S G 155 tr which) 1 := sf78e.trans (congrArg (fun y : Int => G 140 y 1) fz28)
                refine r_ex hX hP 1 (pc' := 50) (st' := [(0, (-1)), (0, sf78)]) (lo' := [(0, (2, this)), (1, (0, what)), (2, (0, which)), (3, (0, known)), (4, (2, z12))]) rfl ?_
                refine r_ic_eq hX hP rfl (tgt := 57) rfl (by first | decide | omega) (by first | decide | omega) (by first | decide | omega) (by first | decide | omega) (fun c80 => ?_) (fun c80 => ?_)
                · skip
                  refine r_ex hX hP 4 (pc' := 63) (st' := [(2, z12), (2, this)]) (lo' := [(0, (2, this)), (1, (0, what)), (2, (0, which)), (3, (0, known)), (4, (2, z12)), (5, (0, 0))]) rfl ?_
                  refine r_nn hX z12s (by decide) (fun c81n => ?_)
                  refine r_ifnn hX hP rfl (tgt := 70) rfl (fun c81 => ?_) (fun c81 => ?_)
                  · skip
                    refine r_ex hX hP 2 (pc' := 72) (st' := [(0, known), (0, 0), (2, this)]) (lo' := [(0, (2, this)), (1, (0, what)), (2, (0, which)), (3, (0, known)), (4, (2, z12)), (5, (0, 0))]) rfl ?_
                    refine r_callS gd hX hP rfl cs_X11_86 (d' := 1) (mc' := 0) (ms' := 0) (as' := [(0, known)]) (st := [(0, 0), (2, this)]) (by first | decide | omega) (by first | decide | omega) (by first | decide | omega) rfl rfl (Nat.le_of_ble_eq_true rfl) (c_X11_isDay E S (hw [(128, 0)] G G6) known (by first | decide | omega) (by first | decide | omega)) ?_
                    rintro _ _ _ ⟨rfl, rfl, z82, rfl, (⟨rfl, f83, f84⟩ | ⟨rfl, f85⟩)⟩
                    · skip
                      refine r_if_ne hX hP rfl (tgt := 82) rfl (by first | decide | omega) (by first | decide | omega) (fun c86 => ?_) (fun c86 => ?_)
                      · skip
                        refine r_ex hX hP 3 (pc' := 86) (st' := [(0, 0), (0, 0), (0, 0), (0, 0), (2, this)]) (lo' := [(0, (2, this)), (1, (0, what)), (2, (0, which)), (3, (0, known)), (4, (2, z12)), (5, (0, 0))]) rfl ?_
                        refine r_callS gd hX hP rfl cs_X11_112 (d' := 0) (mc' := 0) (ms' := 0) (as' := [(0, 0), (0, 0), (0, 0), (0, 0)]) (st := [(2, this)]) (by first | decide | omega) (by first | decide | omega) (by first | decide | omega) rfl rfl (Nat.le_of_ble_eq_true rfl) (c_X11_first E S (hw [(128, 0)] G G6) 0 0 0 0 (by first | decide | omega) (by first | decide | omega) (by first | decide | omega) (by first | decide | omega) (by first | decide | omega) (by first | decide | omega) (by first | decide | omega) (by first | decide | omega)) ?_
                        rintro _ _ _ ⟨rfl, rfl, z87, rfl, (⟨rfl, f88⟩ | ⟨rfl, f89, f90⟩ | ⟨rfl, f91, f92, f93⟩ | ⟨rfl, f94, f95, f96, f97⟩ | ⟨rfl, f98, f99, f100, f101⟩)⟩
                        · skip
                          exfalso; omega
                        · skip
                          exfalso; omega
                        · skip
                          exfalso; omega
                        · skip
                          exfalso; omega
                        · skip
                          refine r_callV gd hX hP rfl cv_X11_90_128 hS (d' := 0) (mc' := 0) (ms' := 0) (as' := [(0, 0)]) (st := []) (by first | decide | omega) (by first | decide | omega) (by first | decide | omega) rfl rfl (Nat.le_of_ble_eq_true rfl) (c_X11_refused E S (hw [(128, 0)] G G6) this 0 hS (by first | decide | omega) (by first | decide | omega)) ?_
                          rintro _ _ _ ⟨rfl, ⟨G102, rfl⟩, z103, rfl, (⟨rfl, f104⟩ | ⟨rfl, f105⟩)⟩
                          · skip
                            exfalso; omega
                          · skip
                            refine r_if_ne hX hP rfl (tgt := 100) rfl (by first | decide | omega) (by first | decide | omega) (fun c106 => ?_) (fun c106 => ?_)
                            · skip
                              exfalso; omega
                            · skip
                              refine r_ex hX hP 1 (pc' := 97) (st' := [(2, z12)]) (lo' := [(0, (2, this)), (1, (0, what)), (2, (0, which)), (3, (0, known)), (4, (2, z12)), (5, (0, 0))]) rfl ?_
                              refine r_nn hX z12s (by decide) (fun c107n => ?_)
                              refine r_ifnn hX hP rfl (tgt := 102) rfl (fun c107 => ?_) (fun c107 => ?_)
                              · skip
                                refine r_ex hX hP 2 (pc' := 105) (st' := [(0, known), (2, z12)]) (lo' := [(0, (2, this)), (1, (0, what)), (2, (0, which)), (3, (0, known)), (4, (2, z12)), (5, (0, 0))]) rfl ?_
                                refine r_putIK hX hP rfl fp_X11_222_140 z12s (by first | decide | omega) (by first | decide | omega) (fun h108 => ?_)
                                refine r_ex hX hP 2 (pc' := 110) (st' := [(0, known), (2, this)]) (lo' := [(0, (2, this)), (1, (0, what)), (2, (0, which)), (3, (0, known)), (4, (2, z12)), (5, (0, 0))]) rfl ?_
                                refine r_callV gd hX hP rfl cv_X11_147_128 hS (d' := 0) (mc' := 0) (ms' := 0) (as' := [(0, known)]) (st := []) (by first | decide | omega) (by first | decide | omega) (by first | decide | omega) rfl rfl (Nat.le_of_ble_eq_true rfl) (c_X11_tellT E S (up (hw [(128, 0)] (hw [(128, 0)] G G6) G102) 140 z12 1 known) this known hS (by first | decide | omega) (by first | decide | omega)) ?_
                                rintro _ _ _ ⟨rfl, ⟨G109, rfl⟩, rfl, lah110, lah110e, f111⟩
                                refine r_peekI hX (tl_128 1 rfl (by decide)) hS (fun o112 o112e o112a o112b => ?_)
                                obtain rfl : lah110 = o112 := lah110e.trans o112e.symm
                                refine r_ex hX hP 1 (pc' := 114) (st' := [(0, 1)]) (lo' := [(0, (2, this)), (1, (0, what)), (2, (0, which)), (3, (0, known)), (4, (2, z12)), (5, (0, 0))]) rfl ?_
                                exact r_retZ hX hP rfl rfl (by first | decide | omega) (by first | decide | omega) (by first | decide | omega) (by first | decide | omega) ⟨rfl, ⟨_, (hw_sub (hw_up (hw_sub (hw_sub (hw_refl _ _) rfl) rfl) rfl) rfl).symm⟩, 1, rfl, lah110, lah110e, (by first | decide | omega), (by first | decide | omega), (Or.inl ⟨by omega, by omega, by omega, by omega, (Or.inl ⟨rfl, by omega, by omega, by omega, by omega, (congrArg (fun y : Int => (hw [(128, 1), (129, 1)] (up (hw [(128, 0)] (hw [(128, 0)] G G6) G102) 140 z12 1 known) G109) 140 y 1) fz28.symm).trans h108.symm, (fun a ha => (show (hw [(128, 1), (129, 1)] (up (hw [(128, 0)] (hw [(128, 0)] G G6) G102) 140 z12 1 known) G109) 140 a 1 = G 140 a 1 from (show (up (hw [(128, 0)] (hw [(128, 0)] G G6) G102) 140 z12 1 known) 140 a 1 = _ from up_ne (fun w => ha (w.2.1.trans fz28))))), (fun a => ⟨rfl, rfl⟩)⟩)⟩)⟩
                              · skip
                                exfalso; omega
                      · skip
                        exfalso; omega
                    · skip
                      refine r_if_ne hX hP rfl (tgt := 82) rfl (by first | decide | omega) (by first | decide | omega) (fun c113 => ?_) (fun c113 => ?_)
                      · skip
                        exfalso; omega
                      · skip
                        refine r_ex hX hP 4 (pc' := 86) (st' := [(0, 0), (0, 0), (0, 1), (0, 0), (2, this)]) (lo' := [(0, (2, this)), (1, (0, what)), (2, (0, which)), (3, (0, known)), (4, (2, z12)), (5, (0, 0))]) rfl ?_
                        refine r_callS gd hX hP rfl cs_X11_112 (d' := 0) (mc' := 0) (ms' := 0) (as' := [(0, 0), (0, 1), (0, 0), (0, 0)]) (st := [(2, this)]) (by first | decide | omega) (by first | decide | omega) (by first | decide | omega) rfl rfl (Nat.le_of_ble_eq_true rfl) (c_X11_first E S (hw [(128, 0)] G G6) 0 1 0 0 (by first | decide | omega) (by first | decide | omega) (by first | decide | omega) (by first | decide | omega) (by first | decide | omega) (by first | decide | omega) (by first | decide | omega) (by first | decide | omega)) ?_
                        rintro _ _ _ ⟨rfl, rfl, z114, rfl, (⟨rfl, f115⟩ | ⟨rfl, f116, f117⟩ | ⟨rfl, f118, f119, f120⟩ | ⟨rfl, f121, f122, f123, f124⟩ | ⟨rfl, f125, f126, f127, f128⟩)⟩
                        · skip
                          exfalso; omega
                        · skip
                          refine r_callV gd hX hP rfl cv_X11_90_128 hS (d' := 0) (mc' := 0) (ms' := 0) (as' := [(0, 2)]) (st := []) (by first | decide | omega) (by first | decide | omega) (by first | decide | omega) rfl rfl (Nat.le_of_ble_eq_true rfl) (c_X11_refused E S (hw [(128, 0)] G G6) this 2 hS (by first | decide | omega) (by first | decide | omega)) ?_
                          rintro _ _ _ ⟨rfl, ⟨G129, rfl⟩, z130, rfl, (⟨rfl, f131⟩ | ⟨rfl, f132⟩)⟩
                          · skip
                            refine r_if_ne hX hP rfl (tgt := 100) rfl (by first | decide | omega) (by first | decide | omega) (fun c133 => ?_) (fun c133 => ?_)
                            · skip
                              refine r_ex hX hP 1 (pc' := 101) (st' := [(0, 0)]) (lo' := [(0, (2, this)), (1, (0, what)), (2, (0, which)), (3, (0, known)), (4, (2, z12)), (5, (0, 0))]) rfl ?_
                              exact r_retZ hX hP rfl rfl (by first | decide | omega) (by first | decide | omega) (by first | decide | omega) (by first | decide | omega) ⟨rfl, ⟨_, (hw_sub (hw_sub (hw_refl _ _) rfl) rfl).symm⟩, 0, rfl, la, la_e, (by first | decide | omega), (by first | decide | omega), (Or.inr ⟨rfl, by omega, fun a => ⟨rfl, rfl, rfl⟩, by omega⟩)⟩
                            · skip
                              exfalso; omega
                          · skip
                            exfalso; omega
                        · skip
                          exfalso; omega
                        · skip
                          exfalso; omega
                        · skip
                          exfalso; omega
                  · skip
                    exfalso; omega
                · skip
                  refine r_ex hX hP 5 (pc' := 63) (st' := [(2, z12), (2, this)]) (lo' := [(0, (2, this)), (1, (0, what)), (2, (0, which)), (3, (0, known)), (4, (2, z12)), (5, (0, 1))]) rfl ?_
                  refine r_nn hX z12s (by decide) (fun c134n => ?_)
                  refine r_ifnn hX hP rfl (tgt := 70) rfl (fun c134 => ?_) (fun c134 => ?_)
                  · skip
                    refine r_ex hX hP 2 (pc' := 72) (st' := [(0, known), (0, 0), (2, this)]) (lo' := [(0, (2, this)), (1, (0, what)), (2, (0, which)), (3, (0, known)), (4, (2, z12)), (5, (0, 1))]) rfl ?_
                    refine r_callS gd hX hP rfl cs_X11_86 (d' := 1) (mc' := 0) (ms' := 0) (as' := [(0, known)]) (st := [(0, 0), (2, this)]) (by first | decide | omega) (by first | decide | omega) (by first | decide | omega) rfl rfl (Nat.le_of_ble_eq_true rfl) (c_X11_isDay E S (hw [(128, 0)] G G6) known (by first | decide | omega) (by first | decide | omega)) ?_
                    rintro _ _ _ ⟨rfl, rfl, z135, rfl, (⟨rfl, f136, f137⟩ | ⟨rfl, f138⟩)⟩
                    · skip
                      refine r_if_ne hX hP rfl (tgt := 82) rfl (by first | decide | omega) (by first | decide | omega) (fun c139 => ?_) (fun c139 => ?_)
                      · skip
                        refine r_ex hX hP 3 (pc' := 86) (st' := [(0, 1), (0, 0), (0, 0), (0, 0), (2, this)]) (lo' := [(0, (2, this)), (1, (0, what)), (2, (0, which)), (3, (0, known)), (4, (2, z12)), (5, (0, 1))]) rfl ?_
                        refine r_callS gd hX hP rfl cs_X11_112 (d' := 0) (mc' := 0) (ms' := 0) (as' := [(0, 0), (0, 0), (0, 0), (0, 1)]) (st := [(2, this)]) (by first | decide | omega) (by first | decide | omega) (by first | decide | omega) rfl rfl (Nat.le_of_ble_eq_true rfl) (c_X11_first E S (hw [(128, 0)] G G6) 0 0 0 1 (by first | decide | omega) (by first | decide | omega) (by first | decide | omega) (by first | decide | omega) (by first | decide | omega) (by first | decide | omega) (by first | decide | omega) (by first | decide | omega)) ?_
                        rintro _ _ _ ⟨rfl, rfl, z140, rfl, (⟨rfl, f141⟩ | ⟨rfl, f142, f143⟩ | ⟨rfl, f144, f145, f146⟩ | ⟨rfl, f147, f148, f149, f150⟩ | ⟨rfl, f151, f152, f153, f154⟩)⟩
                        · skip
                          exfalso; omega
                        · skip
                          exfalso; omega
                        · skip
                          exfalso; omega
                        · skip
                          refine r_callV gd hX hP rfl cv_X11_90_128 hS (d' := 0) (mc' := 0) (ms' := 0) (as' := [(0, 4)]) (st := []) (by first | decide | omega) (by first | decide | omega) (by first | decide | omega) rfl rfl (Nat.le_of_ble_eq_true rfl) (c_X11_refused E S (hw [(128, 0)] G G6) this 4 hS (by first | decide | omega) (by first | decide | omega)) ?_
                          rintro _ _ _ ⟨rfl, ⟨G155, rfl⟩, z156, rfl, (⟨rfl, f157⟩ | ⟨rfl, f158⟩)⟩
                          · skip
                            refine r_if_ne hX hP rfl (tgt := 100) rfl (by first | decide | omega) (by first | decide | omega) (fun c159 => ?_) (fun c159 => ?_)
                            · skip
                              refine r_ex hX hP 1 (pc' := 101) (st' := [(0, 0)]) (lo' := [(0, (2, this)), (1, (0, what)), (2, (0, which)), (3, (0, known)), (4, (2, z12)), (5, (0, 1))]) rfl ?_
                              exact r_retZ hX hP rfl rfl (by first | decide | omega) (by first | decide | omega) (by first | decide | omega) (by first | decide | omega) ⟨rfl, ⟨_, (hw_sub (hw_sub (hw_refl _ _) rfl) rfl).symm⟩, 0, rfl, la, la_e, (by first | decide | omega), (by first | decide | omega), (Or.inr ⟨rfl, by omega, fun a => ⟨rfl, rfl, rfl⟩, by omega⟩)⟩
                            · skip
                              exfalso; omega
                          · skip
                            exfalso; omega
                        · skip
                          exfalso; omega
                      · skip
                        exfalso; omega
                    · skip
                      refine r_if_ne hX hP rfl (tgt := 82) rfl (by first | decide | omega) (by first | decide | omega) (fun c160 => ?_) (fun c160 => ?_)
                      · skip
                        exfalso; omega
                      · skip
                        refine r_ex hX hP 4 (pc' := 86) (st' := [(0, 1), (0, 0), (0, 1), (0, 0), (2, this)]) (lo' := [(0, (2, this)), (1, (0, what)), (2, (0, which)), (3, (0, known)), (4, (2, z12)), (5, (0, 1))]) rfl ?_
                        refine r_callS gd hX hP rfl cs_X11_112 (d' := 0) (mc' := 0) (ms' := 0) (as' := [(0, 0), (0, 1), (0, 0), (0, 1)]) (st := [(2, this)]) (by first | decide | omega) (by first | decide | omega) (by first | decide | omega) rfl rfl (Nat.le_of_ble_eq_true rfl) (c_X11_first E S (hw [(128, 0)] G G6) 0 1 0 1 (by first | decide | omega) (by first | decide | omega) (by first | decide | omega) (by first | decide | omega) (by first | decide | omega) (by first | decide | omega) (by first | decide | omega) (by first | decide | omega)) ?_
                        rintro _ _ _ ⟨rfl, rfl, z161, rfl, (⟨rfl, f162⟩ | ⟨rfl, f163, f164⟩ | ⟨rfl, f165, f166, f167⟩ | ⟨rfl, f168, f169, f170, f171⟩ | ⟨rfl, f172, f173, f174, f175⟩)⟩
                        · skip
                          exfalso; omega
                        · skip
                          refine r_callV gd hX hP rfl cv_X11_90_128 hS (d' := 0) (mc' := 0) (ms' := 0) (as' := [(0, 2)]) (st := []) (by first | decide | omega) (by first | decide | omega) (by first | decide | omega) rfl rfl (Nat.le_of_ble_eq_true rfl) (c_X11_refused E S (hw [(128, 0)] G G6) this 2 hS (by first | decide | omega) (by first | decide | omega)) ?_
                          rintro _ _ _ ⟨rfl, ⟨G176, rfl⟩, z177, rfl, (⟨rfl, f178⟩ | ⟨rfl, f179⟩)⟩
                          · skip
                            refine r_if_ne hX hP rfl (tgt := 100) rfl (by first | decide | omega) (by first | decide | omega) (fun c180 => ?_) (fun c180 => ?_)
                            · skip
                              refine r_ex hX hP 1 (pc' := 101) (st' := [(0, 0)]) (lo' := [(0, (2, this)), (1, (0, what)), (2, (0, which)), (3, (0, known)), (4, (2, z12)), (5, (0, 1))]) rfl ?_
                              exact r_retZ hX hP rfl rfl (by first | decide | omega) (by first | decide | omega) (by first | decide | omega) (by first | decide | omega) ⟨rfl, ⟨_, (hw_sub (hw_sub (hw_refl _ _) rfl) rfl).symm⟩, 0, rfl, la, la_e, (by first | decide | omega), (by first | decide | omega), (Or.inr ⟨rfl, by omega, fun a => ⟨rfl, rfl, rfl⟩, by omega⟩)⟩
                            · skip
                              exfalso; omega
                          · skip
                            exfalso; omega
                        · skip
                          exfalso; omega
                        · skip
                          exfalso; omega
                        · skip
                          exfalso; omega
                  · skip
                    exfalso; omega
          · skip
            have fz181 : z12 = elm S G 156 evl which := (show z12 = elm S (hw [(128, 0)] G G6) 156 evl which from by omega).trans (elk_156 ci evl_s (frm_tr (frm_refl gk156 S G) (frm_hw rfl)) (by first | decide | omega) (by first | decide | omega))
            refine r_ex hX hP 3 (pc' := 33) (st' := [(2, this), (0, known)]) (lo' := [(0, (2, this)), (1, (0, what)), (2, (0, which)), (3, (0, known)), (4, (2, z12))]) rfl ?_
            refine r_getKI hX hP rfl fl_X11_129_128 hS (x := la) la_e ?_
            refine r_ic_lt hX hP rfl (tgt := 53) rfl (by first | decide | omega) (by first | decide | omega) (by first | decide | omega) (by first | decide | omega) (fun c182 => ?_) (fun c182 => ?_)
            · skip
              refine r_ex hX hP 5 (pc' := 63) (st' := [(2, z12), (2, this)]) (lo' := [(0, (2, this)), (1, (0, what)), (2, (0, which)), (3, (0, known)), (4, (2, z12)), (5, (0, 1))]) rfl ?_
              refine r_nn hX z12s (by decide) (fun c183n => ?_)
              refine r_ifnn hX hP rfl (tgt := 70) rfl (fun c183 => ?_) (fun c183 => ?_)
              · skip
                refine r_ex hX hP 2 (pc' := 72) (st' := [(0, known), (0, 0), (2, this)]) (lo' := [(0, (2, this)), (1, (0, what)), (2, (0, which)), (3, (0, known)), (4, (2, z12)), (5, (0, 1))]) rfl ?_
                refine r_callS gd hX hP rfl cs_X11_86 (d' := 1) (mc' := 0) (ms' := 0) (as' := [(0, known)]) (st := [(0, 0), (2, this)]) (by first | decide | omega) (by first | decide | omega) (by first | decide | omega) rfl rfl (Nat.le_of_ble_eq_true rfl) (c_X11_isDay E S (hw [(128, 0)] G G6) known (by first | decide | omega) (by first | decide | omega)) ?_
                rintro _ _ _ ⟨rfl, rfl, z184, rfl, (⟨rfl, f185, f186⟩ | ⟨rfl, f187⟩)⟩
                · skip
                  refine r_if_ne hX hP rfl (tgt := 82) rfl (by first | decide | omega) (by first | decide | omega) (fun c188 => ?_) (fun c188 => ?_)
                  · skip
                    refine r_ex hX hP 3 (pc' := 86) (st' := [(0, 1), (0, 0), (0, 0), (0, 0), (2, this)]) (lo' := [(0, (2, this)), (1, (0, what)), (2, (0, which)), (3, (0, known)), (4, (2, z12)), (5, (0, 1))]) rfl ?_
                    refine r_callS gd hX hP rfl cs_X11_112 (d' := 0) (mc' := 0) (ms' := 0) (as' := [(0, 0), (0, 0), (0, 0), (0, 1)]) (st := [(2, this)]) (by first | decide | omega) (by first | decide | omega) (by first | decide | omega) rfl rfl (Nat.le_of_ble_eq_true rfl) (c_X11_first E S (hw [(128, 0)] G G6) 0 0 0 1 (by first | decide | omega) (by first | decide | omega) (by first | decide | omega) (by first | decide | omega) (by first | decide | omega) (by first | decide | omega) (by first | decide | omega) (by first | decide | omega)) ?_
                    rintro _ _ _ ⟨rfl, rfl, z189, rfl, (⟨rfl, f190⟩ | ⟨rfl, f191, f192⟩ | ⟨rfl, f193, f194, f195⟩ | ⟨rfl, f196, f197, f198, f199⟩ | ⟨rfl, f200, f201, f202, f203⟩)⟩
                    · skip
                      exfalso; omega
                    · skip
                      exfalso; omega
                    · skip
                      exfalso; omega
                    · skip
                      refine r_callV gd hX hP rfl cv_X11_90_128 hS (d' := 0) (mc' := 0) (ms' := 0) (as' := [(0, 4)]) (st := []) (by first | decide | omega) (by first | decide | omega) (by first | decide | omega) rfl rfl (Nat.le_of_ble_eq_true rfl) (c_X11_refused E S (hw [(128, 0)] G G6) this 4 hS (by first | decide | omega) (by first | decide | omega)) ?_
                      rintro _ _ _ ⟨rfl, ⟨G204, rfl⟩, z205, rfl, (⟨rfl, f206⟩ | ⟨rfl, f207⟩)⟩
                      · skip
                        refine r_if_ne hX hP rfl (tgt := 100) rfl (by first | decide | omega) (by first | decide | omega) (fun c208 => ?_) (fun c208 => ?_)
                        · skip
                          refine r_ex hX hP 1 (pc' := 101) (st' := [(0, 0)]) (lo' := [(0, (2, this)), (1, (0, what)), (2, (0, which)), (3, (0, known)), (4, (2, z12)), (5, (0, 1))]) rfl ?_
                          exact r_retZ hX hP rfl rfl (by first | decide | omega) (by first | decide | omega) (by first | decide | omega) (by first | decide | omega) ⟨rfl, ⟨_, (hw_sub (hw_sub (hw_refl _ _) rfl) rfl).symm⟩, 0, rfl, la, la_e, (by first | decide | omega), (by first | decide | omega), (Or.inr ⟨rfl, by omega, fun a => ⟨rfl, rfl, rfl⟩, by omega⟩)⟩
                        · skip
                          exfalso; omega
                      · skip
                        exfalso; omega
                    · skip
                      exfalso; omega
                  · skip
                    exfalso; omega
                · skip
                  refine r_if_ne hX hP rfl (tgt := 82) rfl (by first | decide | omega) (by first | decide | omega) (fun c209 => ?_) (fun c209 => ?_)
                  · skip
                    exfalso; omega
                  · skip
                    refine r_ex hX hP 4 (pc' := 86) (st' := [(0, 1), (0, 0), (0, 1), (0, 0), (2, this)]) (lo' := [(0, (2, this)), (1, (0, what)), (2, (0, which)), (3, (0, known)), (4, (2, z12)), (5, (0, 1))]) rfl ?_
                    refine r_callS gd hX hP rfl cs_X11_112 (d' := 0) (mc' := 0) (ms' := 0) (as' := [(0, 0), (0, 1), (0, 0), (0, 1)]) (st := [(2, this)]) (by first | decide | omega) (by first | decide | omega) (by first | decide | omega) rfl rfl (Nat.le_of_ble_eq_true rfl) (c_X11_first E S (hw [(128, 0)] G G6) 0 1 0 1 (by first | decide | omega) (by first | decide | omega) (by first | decide | omega) (by first | decide | omega) (by first | decide | omega) (by first | decide | omega) (by first | decide | omega) (by first | decide | omega)) ?_
                    rintro _ _ _ ⟨rfl, rfl, z210, rfl, (⟨rfl, f211⟩ | ⟨rfl, f212, f213⟩ | ⟨rfl, f214, f215, f216⟩ | ⟨rfl, f217, f218, f219, f220⟩ | ⟨rfl, f221, f222, f223, f224⟩)⟩
                    · skip
                      exfalso; omega
                    · skip
                      refine r_callV gd hX hP rfl cv_X11_90_128 hS (d' := 0) (mc' := 0) (ms' := 0) (as' := [(0, 2)]) (st := []) (by first | decide | omega) (by first | decide | omega) (by first | decide | omega) rfl rfl (Nat.le_of_ble_eq_true rfl) (c_X11_refused E S (hw [(128, 0)] G G6) this 2 hS (by first | decide | omega) (by first | decide | omega)) ?_
                      rintro _ _ _ ⟨rfl, ⟨G225, rfl⟩, z226, rfl, (⟨rfl, f227⟩ | ⟨rfl, f228⟩)⟩
                      · skip
                        refine r_if_ne hX hP rfl (tgt := 100) rfl (by first | decide | omega) (by first | decide | omega) (fun c229 => ?_) (fun c229 => ?_)
                        · skip
                          refine r_ex hX hP 1 (pc' := 101) (st' := [(0, 0)]) (lo' := [(0, (2, this)), (1, (0, what)), (2, (0, which)), (3, (0, known)), (4, (2, z12)), (5, (0, 1))]) rfl ?_
                          exact r_retZ hX hP rfl rfl (by first | decide | omega) (by first | decide | omega) (by first | decide | omega) (by first | decide | omega) ⟨rfl, ⟨_, (hw_sub (hw_sub (hw_refl _ _) rfl) rfl).symm⟩, 0, rfl, la, la_e, (by first | decide | omega), (by first | decide | omega), (Or.inr ⟨rfl, by omega, fun a => ⟨rfl, rfl, rfl⟩, by omega⟩)⟩
                        · skip
                          exfalso; omega
                      · skip
                        exfalso; omega
                    · skip
                      exfalso; omega
                    · skip
                      exfalso; omega
                    · skip
                      exfalso; omega
              · skip
                exfalso; omega
            · skip
              refine r_ex hX hP 1 (pc' := 41) (st' := [(2, z12)]) (lo' := [(0, (2, this)), (1, (0, what)), (2, (0, which)), (3, (0, known)), (4, (2, z12))]) rfl ?_
              refine r_nn hX z12s (by decide) (fun c230n => ?_)
              refine r_ifnu hX hP rfl (tgt := 57) rfl (fun c230 => ?_) (fun c230 => ?_)
              · skip
                exfalso; omega
              · skip
                refine r_ex hX hP 1 (pc' := 46) (st' := [(2, z12)]) (lo' := [(0, (2, this)), (1, (0, what)), (2, (0, which)), (3, (0, known)), (4, (2, z12))]) rfl ?_
                refine r_getI hX hP rfl fl_X11_222_137 z12s (fun sf231 sf231e sf231a sf231b => ?_)
                have k232 : sf231 = G 137 (elm S G 156 evl which) 1 := sf231e.trans (congrArg (fun y : Int => G 137 y 1) fz181)
                refine r_ex hX hP 1 (pc' := 50) (st' := [(0, (-1)), (0, sf231)]) (lo' := [(0, (2, this)), (1, (0, what)), (2, (0, which)), (3, (0, known)), (4, (2, z12))]) rfl ?_
                refine r_ic_eq hX hP rfl (tgt := 57) rfl (by first | decide | omega) (by first | decide | omega) (by first | decide | omega) (by first | decide | omega) (fun c233 => ?_) (fun c233 => ?_)
                · skip
                  refine r_ex hX hP 4 (pc' := 63) (st' := [(2, z12), (2, this)]) (lo' := [(0, (2, this)), (1, (0, what)), (2, (0, which)), (3, (0, known)), (4, (2, z12)), (5, (0, 0))]) rfl ?_
                  refine r_nn hX z12s (by decide) (fun c234n => ?_)
                  refine r_ifnn hX hP rfl (tgt := 70) rfl (fun c234 => ?_) (fun c234 => ?_)
                  · skip
                    refine r_ex hX hP 2 (pc' := 72) (st' := [(0, known), (0, 0), (2, this)]) (lo' := [(0, (2, this)), (1, (0, what)), (2, (0, which)), (3, (0, known)), (4, (2, z12)), (5, (0, 0))]) rfl ?_
                    refine r_callS gd hX hP rfl cs_X11_86 (d' := 1) (mc' := 0) (ms' := 0) (as' := [(0, known)]) (st := [(0, 0), (2, this)]) (by first | decide | omega) (by first | decide | omega) (by first | decide | omega) rfl rfl (Nat.le_of_ble_eq_true rfl) (c_X11_isDay E S (hw [(128, 0)] G G6) known (by first | decide | omega) (by first | decide | omega)) ?_
                    rintro _ _ _ ⟨rfl, rfl, z235, rfl, (⟨rfl, f236, f237⟩ | ⟨rfl, f238⟩)⟩
                    · skip
                      refine r_if_ne hX hP rfl (tgt := 82) rfl (by first | decide | omega) (by first | decide | omega) (fun c239 => ?_) (fun c239 => ?_)
                      · skip
                        refine r_ex hX hP 3 (pc' := 86) (st' := [(0, 0), (0, 0), (0, 0), (0, 0), (2, this)]) (lo' := [(0, (2, this)), (1, (0, what)), (2, (0, which)), (3, (0, known)), (4, (2, z12)), (5, (0, 0))]) rfl ?_
                        refine r_callS gd hX hP rfl cs_X11_112 (d' := 0) (mc' := 0) (ms' := 0) (as' := [(0, 0), (0, 0), (0, 0), (0, 0)]) (st := [(2, this)]) (by first | decide | omega) (by first | decide | omega) (by first | decide | omega) rfl rfl (Nat.le_of_ble_eq_true rfl) (c_X11_first E S (hw [(128, 0)] G G6) 0 0 0 0 (by first | decide | omega) (by first | decide | omega) (by first | decide | omega) (by first | decide | omega) (by first | decide | omega) (by first | decide | omega) (by first | decide | omega) (by first | decide | omega)) ?_
                        rintro _ _ _ ⟨rfl, rfl, z240, rfl, (⟨rfl, f241⟩ | ⟨rfl, f242, f243⟩ | ⟨rfl, f244, f245, f246⟩ | ⟨rfl, f247, f248, f249, f250⟩ | ⟨rfl, f251, f252, f253, f254⟩)⟩
                        · skip
                          exfalso; omega
                        · skip
                          exfalso; omega
                        · skip
                          exfalso; omega
                        · skip
                          exfalso; omega
                        · skip
                          refine r_callV gd hX hP rfl cv_X11_90_128 hS (d' := 0) (mc' := 0) (ms' := 0) (as' := [(0, 0)]) (st := []) (by first | decide | omega) (by first | decide | omega) (by first | decide | omega) rfl rfl (Nat.le_of_ble_eq_true rfl) (c_X11_refused E S (hw [(128, 0)] G G6) this 0 hS (by first | decide | omega) (by first | decide | omega)) ?_
                          rintro _ _ _ ⟨rfl, ⟨G255, rfl⟩, z256, rfl, (⟨rfl, f257⟩ | ⟨rfl, f258⟩)⟩
                          · skip
                            exfalso; omega
                          · skip
                            refine r_if_ne hX hP rfl (tgt := 100) rfl (by first | decide | omega) (by first | decide | omega) (fun c259 => ?_) (fun c259 => ?_)
                            · skip
                              exfalso; omega
                            · skip
                              refine r_ex hX hP 1 (pc' := 97) (st' := [(2, z12)]) (lo' := [(0, (2, this)), (1, (0, what)), (2, (0, which)), (3, (0, known)), (4, (2, z12)), (5, (0, 0))]) rfl ?_
                              refine r_nn hX z12s (by decide) (fun c260n => ?_)
                              refine r_ifnn hX hP rfl (tgt := 102) rfl (fun c260 => ?_) (fun c260 => ?_)
                              · skip
                                refine r_ex hX hP 2 (pc' := 105) (st' := [(0, known), (2, z12)]) (lo' := [(0, (2, this)), (1, (0, what)), (2, (0, which)), (3, (0, known)), (4, (2, z12)), (5, (0, 0))]) rfl ?_
                                refine r_putIK hX hP rfl fp_X11_222_137 z12s (by first | decide | omega) (by first | decide | omega) (fun h261 => ?_)
                                refine r_ex hX hP 2 (pc' := 110) (st' := [(0, known), (2, this)]) (lo' := [(0, (2, this)), (1, (0, what)), (2, (0, which)), (3, (0, known)), (4, (2, z12)), (5, (0, 0))]) rfl ?_
                                refine r_callV gd hX hP rfl cv_X11_147_128 hS (d' := 0) (mc' := 0) (ms' := 0) (as' := [(0, known)]) (st := []) (by first | decide | omega) (by first | decide | omega) (by first | decide | omega) rfl rfl (Nat.le_of_ble_eq_true rfl) (c_X11_tellT E S (up (hw [(128, 0)] (hw [(128, 0)] G G6) G255) 137 z12 1 known) this known hS (by first | decide | omega) (by first | decide | omega)) ?_
                                rintro _ _ _ ⟨rfl, ⟨G262, rfl⟩, rfl, lah263, lah263e, f264⟩
                                refine r_peekI hX (tl_128 1 rfl (by decide)) hS (fun o265 o265e o265a o265b => ?_)
                                obtain rfl : lah263 = o265 := lah263e.trans o265e.symm
                                refine r_ex hX hP 1 (pc' := 114) (st' := [(0, 1)]) (lo' := [(0, (2, this)), (1, (0, what)), (2, (0, which)), (3, (0, known)), (4, (2, z12)), (5, (0, 0))]) rfl ?_
                                exact r_retZ hX hP rfl rfl (by first | decide | omega) (by first | decide | omega) (by first | decide | omega) (by first | decide | omega) ⟨rfl, ⟨_, (hw_sub (hw_up (hw_sub (hw_sub (hw_refl _ _) rfl) rfl) rfl) rfl).symm⟩, 1, rfl, lah263, lah263e, (by first | decide | omega), (by first | decide | omega), (Or.inl ⟨by omega, by omega, by omega, by omega, (Or.inr (Or.inl ⟨rfl, by omega, by omega, by omega, by omega, (congrArg (fun y : Int => (hw [(128, 1), (129, 1)] (up (hw [(128, 0)] (hw [(128, 0)] G G6) G255) 137 z12 1 known) G262) 137 y 1) fz181.symm).trans h261.symm, (fun a ha => (show (hw [(128, 1), (129, 1)] (up (hw [(128, 0)] (hw [(128, 0)] G G6) G255) 137 z12 1 known) G262) 137 a 1 = G 137 a 1 from (show (up (hw [(128, 0)] (hw [(128, 0)] G G6) G255) 137 z12 1 known) 137 a 1 = _ from up_ne (fun w => ha (w.2.1.trans fz181))))), (fun a => ⟨rfl, rfl⟩)⟩))⟩)⟩
                              · skip
                                exfalso; omega
                      · skip
                        exfalso; omega
                    · skip
                      refine r_if_ne hX hP rfl (tgt := 82) rfl (by first | decide | omega) (by first | decide | omega) (fun c266 => ?_) (fun c266 => ?_)
                      · skip
                        exfalso; omega
                      · skip
                        refine r_ex hX hP 4 (pc' := 86) (st' := [(0, 0), (0, 0), (0, 1), (0, 0), (2, this)]) (lo' := [(0, (2, this)), (1, (0, what)), (2, (0, which)), (3, (0, known)), (4, (2, z12)), (5, (0, 0))]) rfl ?_
                        refine r_callS gd hX hP rfl cs_X11_112 (d' := 0) (mc' := 0) (ms' := 0) (as' := [(0, 0), (0, 1), (0, 0), (0, 0)]) (st := [(2, this)]) (by first | decide | omega) (by first | decide | omega) (by first | decide | omega) rfl rfl (Nat.le_of_ble_eq_true rfl) (c_X11_first E S (hw [(128, 0)] G G6) 0 1 0 0 (by first | decide | omega) (by first | decide | omega) (by first | decide | omega) (by first | decide | omega) (by first | decide | omega) (by first | decide | omega) (by first | decide | omega) (by first | decide | omega)) ?_
                        rintro _ _ _ ⟨rfl, rfl, z267, rfl, (⟨rfl, f268⟩ | ⟨rfl, f269, f270⟩ | ⟨rfl, f271, f272, f273⟩ | ⟨rfl, f274, f275, f276, f277⟩ | ⟨rfl, f278, f279, f280, f281⟩)⟩
                        · skip
                          exfalso; omega
                        · skip
                          refine r_callV gd hX hP rfl cv_X11_90_128 hS (d' := 0) (mc' := 0) (ms' := 0) (as' := [(0, 2)]) (st := []) (by first | decide | omega) (by first | decide | omega) (by first | decide | omega) rfl rfl (Nat.le_of_ble_eq_true rfl) (c_X11_refused E S (hw [(128, 0)] G G6) this 2 hS (by first | decide | omega) (by first | decide | omega)) ?_
                          rintro _ _ _ ⟨rfl, ⟨G282, rfl⟩, z283, rfl, (⟨rfl, f284⟩ | ⟨rfl, f285⟩)⟩
                          · skip
                            refine r_if_ne hX hP rfl (tgt := 100) rfl (by first | decide | omega) (by first | decide | omega) (fun c286 => ?_) (fun c286 => ?_)
                            · skip
                              refine r_ex hX hP 1 (pc' := 101) (st' := [(0, 0)]) (lo' := [(0, (2, this)), (1, (0, what)), (2, (0, which)), (3, (0, known)), (4, (2, z12)), (5, (0, 0))]) rfl ?_
                              exact r_retZ hX hP rfl rfl (by first | decide | omega) (by first | decide | omega) (by first | decide | omega) (by first | decide | omega) ⟨rfl, ⟨_, (hw_sub (hw_sub (hw_refl _ _) rfl) rfl).symm⟩, 0, rfl, la, la_e, (by first | decide | omega), (by first | decide | omega), (Or.inr ⟨rfl, by omega, fun a => ⟨rfl, rfl, rfl⟩, by omega⟩)⟩
                            · skip
                              exfalso; omega
                          · skip
                            exfalso; omega
                        · skip
                          exfalso; omega
                        · skip
                          exfalso; omega
                        · skip
                          exfalso; omega
                  · skip
                    exfalso; omega
                · skip
                  refine r_ex hX hP 5 (pc' := 63) (st' := [(2, z12), (2, this)]) (lo' := [(0, (2, this)), (1, (0, what)), (2, (0, which)), (3, (0, known)), (4, (2, z12)), (5, (0, 1))]) rfl ?_
                  refine r_nn hX z12s (by decide) (fun c287n => ?_)
                  refine r_ifnn hX hP rfl (tgt := 70) rfl (fun c287 => ?_) (fun c287 => ?_)
                  · skip
                    refine r_ex hX hP 2 (pc' := 72) (st' := [(0, known), (0, 0), (2, this)]) (lo' := [(0, (2, this)), (1, (0, what)), (2, (0, which)), (3, (0, known)), (4, (2, z12)), (5, (0, 1))]) rfl ?_
                    refine r_callS gd hX hP rfl cs_X11_86 (d' := 1) (mc' := 0) (ms' := 0) (as' := [(0, known)]) (st := [(0, 0), (2, this)]) (by first | decide | omega) (by first | decide | omega) (by first | decide | omega) rfl rfl (Nat.le_of_ble_eq_true rfl) (c_X11_isDay E S (hw [(128, 0)] G G6) known (by first | decide | omega) (by first | decide | omega)) ?_
                    rintro _ _ _ ⟨rfl, rfl, z288, rfl, (⟨rfl, f289, f290⟩ | ⟨rfl, f291⟩)⟩
                    · skip
                      refine r_if_ne hX hP rfl (tgt := 82) rfl (by first | decide | omega) (by first | decide | omega) (fun c292 => ?_) (fun c292 => ?_)
                      · skip
                        refine r_ex hX hP 3 (pc' := 86) (st' := [(0, 1), (0, 0), (0, 0), (0, 0), (2, this)]) (lo' := [(0, (2, this)), (1, (0, what)), (2, (0, which)), (3, (0, known)), (4, (2, z12)), (5, (0, 1))]) rfl ?_
                        refine r_callS gd hX hP rfl cs_X11_112 (d' := 0) (mc' := 0) (ms' := 0) (as' := [(0, 0), (0, 0), (0, 0), (0, 1)]) (st := [(2, this)]) (by first | decide | omega) (by first | decide | omega) (by first | decide | omega) rfl rfl (Nat.le_of_ble_eq_true rfl) (c_X11_first E S (hw [(128, 0)] G G6) 0 0 0 1 (by first | decide | omega) (by first | decide | omega) (by first | decide | omega) (by first | decide | omega) (by first | decide | omega) (by first | decide | omega) (by first | decide | omega) (by first | decide | omega)) ?_
                        rintro _ _ _ ⟨rfl, rfl, z293, rfl, (⟨rfl, f294⟩ | ⟨rfl, f295, f296⟩ | ⟨rfl, f297, f298, f299⟩ | ⟨rfl, f300, f301, f302, f303⟩ | ⟨rfl, f304, f305, f306, f307⟩)⟩
                        · skip
                          exfalso; omega
                        · skip
                          exfalso; omega
                        · skip
                          exfalso; omega
                        · skip
                          refine r_callV gd hX hP rfl cv_X11_90_128 hS (d' := 0) (mc' := 0) (ms' := 0) (as' := [(0, 4)]) (st := []) (by first | decide | omega) (by first | decide | omega) (by first | decide | omega) rfl rfl (Nat.le_of_ble_eq_true rfl) (c_X11_refused E S (hw [(128, 0)] G G6) this 4 hS (by first | decide | omega) (by first | decide | omega)) ?_
                          rintro _ _ _ ⟨rfl, ⟨G308, rfl⟩, z309, rfl, (⟨rfl, f310⟩ | ⟨rfl, f311⟩)⟩
                          · skip
                            refine r_if_ne hX hP rfl (tgt := 100) rfl (by first | decide | omega) (by first | decide | omega) (fun c312 => ?_) (fun c312 => ?_)
                            · skip
                              refine r_ex hX hP 1 (pc' := 101) (st' := [(0, 0)]) (lo' := [(0, (2, this)), (1, (0, what)), (2, (0, which)), (3, (0, known)), (4, (2, z12)), (5, (0, 1))]) rfl ?_
                              exact r_retZ hX hP rfl rfl (by first | decide | omega) (by first | decide | omega) (by first | decide | omega) (by first | decide | omega) ⟨rfl, ⟨_, (hw_sub (hw_sub (hw_refl _ _) rfl) rfl).symm⟩, 0, rfl, la, la_e, (by first | decide | omega), (by first | decide | omega), (Or.inr ⟨rfl, by omega, fun a => ⟨rfl, rfl, rfl⟩, by omega⟩)⟩
                            · skip
                              exfalso; omega
                          · skip
                            exfalso; omega
                        · skip
                          exfalso; omega
                      · skip
                        exfalso; omega
                    · skip
                      refine r_if_ne hX hP rfl (tgt := 82) rfl (by first | decide | omega) (by first | decide | omega) (fun c313 => ?_) (fun c313 => ?_)
                      · skip
                        exfalso; omega
                      · skip
                        refine r_ex hX hP 4 (pc' := 86) (st' := [(0, 1), (0, 0), (0, 1), (0, 0), (2, this)]) (lo' := [(0, (2, this)), (1, (0, what)), (2, (0, which)), (3, (0, known)), (4, (2, z12)), (5, (0, 1))]) rfl ?_
                        refine r_callS gd hX hP rfl cs_X11_112 (d' := 0) (mc' := 0) (ms' := 0) (as' := [(0, 0), (0, 1), (0, 0), (0, 1)]) (st := [(2, this)]) (by first | decide | omega) (by first | decide | omega) (by first | decide | omega) rfl rfl (Nat.le_of_ble_eq_true rfl) (c_X11_first E S (hw [(128, 0)] G G6) 0 1 0 1 (by first | decide | omega) (by first | decide | omega) (by first | decide | omega) (by first | decide | omega) (by first | decide | omega) (by first | decide | omega) (by first | decide | omega) (by first | decide | omega)) ?_
                        rintro _ _ _ ⟨rfl, rfl, z314, rfl, (⟨rfl, f315⟩ | ⟨rfl, f316, f317⟩ | ⟨rfl, f318, f319, f320⟩ | ⟨rfl, f321, f322, f323, f324⟩ | ⟨rfl, f325, f326, f327, f328⟩)⟩
                        · skip
                          exfalso; omega
                        · skip
                          refine r_callV gd hX hP rfl cv_X11_90_128 hS (d' := 0) (mc' := 0) (ms' := 0) (as' := [(0, 2)]) (st := []) (by first | decide | omega) (by first | decide | omega) (by first | decide | omega) rfl rfl (Nat.le_of_ble_eq_true rfl) (c_X11_refused E S (hw [(128, 0)] G G6) this 2 hS (by first | decide | omega) (by first | decide | omega)) ?_
                          rintro _ _ _ ⟨rfl, ⟨G329, rfl⟩, z330, rfl, (⟨rfl, f331⟩ | ⟨rfl, f332⟩)⟩
                          · skip
                            refine r_if_ne hX hP rfl (tgt := 100) rfl (by first | decide | omega) (by first | decide | omega) (fun c333 => ?_) (fun c333 => ?_)
                            · skip
                              refine r_ex hX hP 1 (pc' := 101) (st' := [(0, 0)]) (lo' := [(0, (2, this)), (1, (0, what)), (2, (0, which)), (3, (0, known)), (4, (2, z12)), (5, (0, 1))]) rfl ?_
                              exact r_retZ hX hP rfl rfl (by first | decide | omega) (by first | decide | omega) (by first | decide | omega) (by first | decide | omega) ⟨rfl, ⟨_, (hw_sub (hw_sub (hw_refl _ _) rfl) rfl).symm⟩, 0, rfl, la, la_e, (by first | decide | omega), (by first | decide | omega), (Or.inr ⟨rfl, by omega, fun a => ⟨rfl, rfl, rfl⟩, by omega⟩)⟩
                            · skip
                              exfalso; omega
                          · skip
                            exfalso; omega
                        · skip
                          exfalso; omega
                        · skip
                          exfalso; omega
                        · skip
                          exfalso; omega
                  · skip
                    exfalso; omega
          · skip
            have fz334 : z12 = elm S G 157 pi which := (show z12 = elm S (hw [(128, 0)] G G6) 157 pi which from by omega).trans (elk_157 ci pi_s (frm_tr (frm_refl gk157 S G) (frm_hw rfl)) (by first | decide | omega) (by first | decide | omega))
            refine r_ex hX hP 3 (pc' := 33) (st' := [(2, this), (0, known)]) (lo' := [(0, (2, this)), (1, (0, what)), (2, (0, which)), (3, (0, known)), (4, (2, z12))]) rfl ?_
            refine r_getKI hX hP rfl fl_X11_129_128 hS (x := la) la_e ?_
            refine r_ic_lt hX hP rfl (tgt := 53) rfl (by first | decide | omega) (by first | decide | omega) (by first | decide | omega) (by first | decide | omega) (fun c335 => ?_) (fun c335 => ?_)
            · skip
              refine r_ex hX hP 5 (pc' := 63) (st' := [(2, z12), (2, this)]) (lo' := [(0, (2, this)), (1, (0, what)), (2, (0, which)), (3, (0, known)), (4, (2, z12)), (5, (0, 1))]) rfl ?_
              refine r_nn hX z12s (by decide) (fun c336n => ?_)
              refine r_ifnn hX hP rfl (tgt := 70) rfl (fun c336 => ?_) (fun c336 => ?_)
              · skip
                refine r_ex hX hP 2 (pc' := 72) (st' := [(0, known), (0, 0), (2, this)]) (lo' := [(0, (2, this)), (1, (0, what)), (2, (0, which)), (3, (0, known)), (4, (2, z12)), (5, (0, 1))]) rfl ?_
                refine r_callS gd hX hP rfl cs_X11_86 (d' := 1) (mc' := 0) (ms' := 0) (as' := [(0, known)]) (st := [(0, 0), (2, this)]) (by first | decide | omega) (by first | decide | omega) (by first | decide | omega) rfl rfl (Nat.le_of_ble_eq_true rfl) (c_X11_isDay E S (hw [(128, 0)] G G6) known (by first | decide | omega) (by first | decide | omega)) ?_
                rintro _ _ _ ⟨rfl, rfl, z337, rfl, (⟨rfl, f338, f339⟩ | ⟨rfl, f340⟩)⟩
                · skip
                  refine r_if_ne hX hP rfl (tgt := 82) rfl (by first | decide | omega) (by first | decide | omega) (fun c341 => ?_) (fun c341 => ?_)
                  · skip
                    refine r_ex hX hP 3 (pc' := 86) (st' := [(0, 1), (0, 0), (0, 0), (0, 0), (2, this)]) (lo' := [(0, (2, this)), (1, (0, what)), (2, (0, which)), (3, (0, known)), (4, (2, z12)), (5, (0, 1))]) rfl ?_
                    refine r_callS gd hX hP rfl cs_X11_112 (d' := 0) (mc' := 0) (ms' := 0) (as' := [(0, 0), (0, 0), (0, 0), (0, 1)]) (st := [(2, this)]) (by first | decide | omega) (by first | decide | omega) (by first | decide | omega) rfl rfl (Nat.le_of_ble_eq_true rfl) (c_X11_first E S (hw [(128, 0)] G G6) 0 0 0 1 (by first | decide | omega) (by first | decide | omega) (by first | decide | omega) (by first | decide | omega) (by first | decide | omega) (by first | decide | omega) (by first | decide | omega) (by first | decide | omega)) ?_
                    rintro _ _ _ ⟨rfl, rfl, z342, rfl, (⟨rfl, f343⟩ | ⟨rfl, f344, f345⟩ | ⟨rfl, f346, f347, f348⟩ | ⟨rfl, f349, f350, f351, f352⟩ | ⟨rfl, f353, f354, f355, f356⟩)⟩
                    · skip
                      exfalso; omega
                    · skip
                      exfalso; omega
                    · skip
                      exfalso; omega
                    · skip
                      refine r_callV gd hX hP rfl cv_X11_90_128 hS (d' := 0) (mc' := 0) (ms' := 0) (as' := [(0, 4)]) (st := []) (by first | decide | omega) (by first | decide | omega) (by first | decide | omega) rfl rfl (Nat.le_of_ble_eq_true rfl) (c_X11_refused E S (hw [(128, 0)] G G6) this 4 hS (by first | decide | omega) (by first | decide | omega)) ?_
                      rintro _ _ _ ⟨rfl, ⟨G357, rfl⟩, z358, rfl, (⟨rfl, f359⟩ | ⟨rfl, f360⟩)⟩
                      · skip
                        refine r_if_ne hX hP rfl (tgt := 100) rfl (by first | decide | omega) (by first | decide | omega) (fun c361 => ?_) (fun c361 => ?_)
                        · skip
                          refine r_ex hX hP 1 (pc' := 101) (st' := [(0, 0)]) (lo' := [(0, (2, this)), (1, (0, what)), (2, (0, which)), (3, (0, known)), (4, (2, z12)), (5, (0, 1))]) rfl ?_
                          exact r_retZ hX hP rfl rfl (by first | decide | omega) (by first | decide | omega) (by first | decide | omega) (by first | decide | omega) ⟨rfl, ⟨_, (hw_sub (hw_sub (hw_refl _ _) rfl) rfl).symm⟩, 0, rfl, la, la_e, (by first | decide | omega), (by first | decide | omega), (Or.inr ⟨rfl, by omega, fun a => ⟨rfl, rfl, rfl⟩, by omega⟩)⟩
                        · skip
                          exfalso; omega
                      · skip
                        exfalso; omega
                    · skip
                      exfalso; omega
                  · skip
                    exfalso; omega
                · skip
                  refine r_if_ne hX hP rfl (tgt := 82) rfl (by first | decide | omega) (by first | decide | omega) (fun c362 => ?_) (fun c362 => ?_)
                  · skip
                    exfalso; omega
                  · skip
                    refine r_ex hX hP 4 (pc' := 86) (st' := [(0, 1), (0, 0), (0, 1), (0, 0), (2, this)]) (lo' := [(0, (2, this)), (1, (0, what)), (2, (0, which)), (3, (0, known)), (4, (2, z12)), (5, (0, 1))]) rfl ?_
                    refine r_callS gd hX hP rfl cs_X11_112 (d' := 0) (mc' := 0) (ms' := 0) (as' := [(0, 0), (0, 1), (0, 0), (0, 1)]) (st := [(2, this)]) (by first | decide | omega) (by first | decide | omega) (by first | decide | omega) rfl rfl (Nat.le_of_ble_eq_true rfl) (c_X11_first E S (hw [(128, 0)] G G6) 0 1 0 1 (by first | decide | omega) (by first | decide | omega) (by first | decide | omega) (by first | decide | omega) (by first | decide | omega) (by first | decide | omega) (by first | decide | omega) (by first | decide | omega)) ?_
                    rintro _ _ _ ⟨rfl, rfl, z363, rfl, (⟨rfl, f364⟩ | ⟨rfl, f365, f366⟩ | ⟨rfl, f367, f368, f369⟩ | ⟨rfl, f370, f371, f372, f373⟩ | ⟨rfl, f374, f375, f376, f377⟩)⟩
                    · skip
                      exfalso; omega
                    · skip
                      refine r_callV gd hX hP rfl cv_X11_90_128 hS (d' := 0) (mc' := 0) (ms' := 0) (as' := [(0, 2)]) (st := []) (by first | decide | omega) (by first | decide | omega) (by first | decide | omega) rfl rfl (Nat.le_of_ble_eq_true rfl) (c_X11_refused E S (hw [(128, 0)] G G6) this 2 hS (by first | decide | omega) (by first | decide | omega)) ?_
                      rintro _ _ _ ⟨rfl, ⟨G378, rfl⟩, z379, rfl, (⟨rfl, f380⟩ | ⟨rfl, f381⟩)⟩
                      · skip
                        refine r_if_ne hX hP rfl (tgt := 100) rfl (by first | decide | omega) (by first | decide | omega) (fun c382 => ?_) (fun c382 => ?_)
                        · skip
                          refine r_ex hX hP 1 (pc' := 101) (st' := [(0, 0)]) (lo' := [(0, (2, this)), (1, (0, what)), (2, (0, which)), (3, (0, known)), (4, (2, z12)), (5, (0, 1))]) rfl ?_
                          exact r_retZ hX hP rfl rfl (by first | decide | omega) (by first | decide | omega) (by first | decide | omega) (by first | decide | omega) ⟨rfl, ⟨_, (hw_sub (hw_sub (hw_refl _ _) rfl) rfl).symm⟩, 0, rfl, la, la_e, (by first | decide | omega), (by first | decide | omega), (Or.inr ⟨rfl, by omega, fun a => ⟨rfl, rfl, rfl⟩, by omega⟩)⟩
                        · skip
                          exfalso; omega
                      · skip
                        exfalso; omega
                    · skip
                      exfalso; omega
                    · skip
                      exfalso; omega
                    · skip
                      exfalso; omega
              · skip
                exfalso; omega
            · skip
              refine r_ex hX hP 1 (pc' := 41) (st' := [(2, z12)]) (lo' := [(0, (2, this)), (1, (0, what)), (2, (0, which)), (3, (0, known)), (4, (2, z12))]) rfl ?_
              refine r_nn hX z12s (by decide) (fun c383n => ?_)
              refine r_ifnu hX hP rfl (tgt := 57) rfl (fun c383 => ?_) (fun c383 => ?_)
              · skip
                exfalso; omega
              · skip
                refine r_ex hX hP 1 (pc' := 46) (st' := [(2, z12)]) (lo' := [(0, (2, this)), (1, (0, what)), (2, (0, which)), (3, (0, known)), (4, (2, z12))]) rfl ?_
                refine r_getI hX hP rfl fl_X11_222_138 z12s (fun sf384 sf384e sf384a sf384b => ?_)
                have k385 : sf384 = G 138 (elm S G 157 pi which) 1 := sf384e.trans (congrArg (fun y : Int => G 138 y 1) fz334)
                refine r_ex hX hP 1 (pc' := 50) (st' := [(0, (-1)), (0, sf384)]) (lo' := [(0, (2, this)), (1, (0, what)), (2, (0, which)), (3, (0, known)), (4, (2, z12))]) rfl ?_
                refine r_ic_eq hX hP rfl (tgt := 57) rfl (by first | decide | omega) (by first | decide | omega) (by first | decide | omega) (by first | decide | omega) (fun c386 => ?_) (fun c386 => ?_)
                · skip
                  refine r_ex hX hP 4 (pc' := 63) (st' := [(2, z12), (2, this)]) (lo' := [(0, (2, this)), (1, (0, what)), (2, (0, which)), (3, (0, known)), (4, (2, z12)), (5, (0, 0))]) rfl ?_
                  refine r_nn hX z12s (by decide) (fun c387n => ?_)
                  refine r_ifnn hX hP rfl (tgt := 70) rfl (fun c387 => ?_) (fun c387 => ?_)
                  · skip
                    refine r_ex hX hP 2 (pc' := 72) (st' := [(0, known), (0, 0), (2, this)]) (lo' := [(0, (2, this)), (1, (0, what)), (2, (0, which)), (3, (0, known)), (4, (2, z12)), (5, (0, 0))]) rfl ?_
                    refine r_callS gd hX hP rfl cs_X11_86 (d' := 1) (mc' := 0) (ms' := 0) (as' := [(0, known)]) (st := [(0, 0), (2, this)]) (by first | decide | omega) (by first | decide | omega) (by first | decide | omega) rfl rfl (Nat.le_of_ble_eq_true rfl) (c_X11_isDay E S (hw [(128, 0)] G G6) known (by first | decide | omega) (by first | decide | omega)) ?_
                    rintro _ _ _ ⟨rfl, rfl, z388, rfl, (⟨rfl, f389, f390⟩ | ⟨rfl, f391⟩)⟩
                    · skip
                      refine r_if_ne hX hP rfl (tgt := 82) rfl (by first | decide | omega) (by first | decide | omega) (fun c392 => ?_) (fun c392 => ?_)
                      · skip
                        refine r_ex hX hP 3 (pc' := 86) (st' := [(0, 0), (0, 0), (0, 0), (0, 0), (2, this)]) (lo' := [(0, (2, this)), (1, (0, what)), (2, (0, which)), (3, (0, known)), (4, (2, z12)), (5, (0, 0))]) rfl ?_
                        refine r_callS gd hX hP rfl cs_X11_112 (d' := 0) (mc' := 0) (ms' := 0) (as' := [(0, 0), (0, 0), (0, 0), (0, 0)]) (st := [(2, this)]) (by first | decide | omega) (by first | decide | omega) (by first | decide | omega) rfl rfl (Nat.le_of_ble_eq_true rfl) (c_X11_first E S (hw [(128, 0)] G G6) 0 0 0 0 (by first | decide | omega) (by first | decide | omega) (by first | decide | omega) (by first | decide | omega) (by first | decide | omega) (by first | decide | omega) (by first | decide | omega) (by first | decide | omega)) ?_
                        rintro _ _ _ ⟨rfl, rfl, z393, rfl, (⟨rfl, f394⟩ | ⟨rfl, f395, f396⟩ | ⟨rfl, f397, f398, f399⟩ | ⟨rfl, f400, f401, f402, f403⟩ | ⟨rfl, f404, f405, f406, f407⟩)⟩
                        · skip
                          exfalso; omega
                        · skip
                          exfalso; omega
                        · skip
                          exfalso; omega
                        · skip
                          exfalso; omega
                        · skip
                          refine r_callV gd hX hP rfl cv_X11_90_128 hS (d' := 0) (mc' := 0) (ms' := 0) (as' := [(0, 0)]) (st := []) (by first | decide | omega) (by first | decide | omega) (by first | decide | omega) rfl rfl (Nat.le_of_ble_eq_true rfl) (c_X11_refused E S (hw [(128, 0)] G G6) this 0 hS (by first | decide | omega) (by first | decide | omega)) ?_
                          rintro _ _ _ ⟨rfl, ⟨G408, rfl⟩, z409, rfl, (⟨rfl, f410⟩ | ⟨rfl, f411⟩)⟩
                          · skip
                            exfalso; omega
                          · skip
                            refine r_if_ne hX hP rfl (tgt := 100) rfl (by first | decide | omega) (by first | decide | omega) (fun c412 => ?_) (fun c412 => ?_)
                            · skip
                              exfalso; omega
                            · skip
                              refine r_ex hX hP 1 (pc' := 97) (st' := [(2, z12)]) (lo' := [(0, (2, this)), (1, (0, what)), (2, (0, which)), (3, (0, known)), (4, (2, z12)), (5, (0, 0))]) rfl ?_
                              refine r_nn hX z12s (by decide) (fun c413n => ?_)
                              refine r_ifnn hX hP rfl (tgt := 102) rfl (fun c413 => ?_) (fun c413 => ?_)
                              · skip
                                refine r_ex hX hP 2 (pc' := 105) (st' := [(0, known), (2, z12)]) (lo' := [(0, (2, this)), (1, (0, what)), (2, (0, which)), (3, (0, known)), (4, (2, z12)), (5, (0, 0))]) rfl ?_
                                refine r_putIK hX hP rfl fp_X11_222_138 z12s (by first | decide | omega) (by first | decide | omega) (fun h414 => ?_)
                                refine r_ex hX hP 2 (pc' := 110) (st' := [(0, known), (2, this)]) (lo' := [(0, (2, this)), (1, (0, what)), (2, (0, which)), (3, (0, known)), (4, (2, z12)), (5, (0, 0))]) rfl ?_
                                refine r_callV gd hX hP rfl cv_X11_147_128 hS (d' := 0) (mc' := 0) (ms' := 0) (as' := [(0, known)]) (st := []) (by first | decide | omega) (by first | decide | omega) (by first | decide | omega) rfl rfl (Nat.le_of_ble_eq_true rfl) (c_X11_tellT E S (up (hw [(128, 0)] (hw [(128, 0)] G G6) G408) 138 z12 1 known) this known hS (by first | decide | omega) (by first | decide | omega)) ?_
                                rintro _ _ _ ⟨rfl, ⟨G415, rfl⟩, rfl, lah416, lah416e, f417⟩
                                refine r_peekI hX (tl_128 1 rfl (by decide)) hS (fun o418 o418e o418a o418b => ?_)
                                obtain rfl : lah416 = o418 := lah416e.trans o418e.symm
                                refine r_ex hX hP 1 (pc' := 114) (st' := [(0, 1)]) (lo' := [(0, (2, this)), (1, (0, what)), (2, (0, which)), (3, (0, known)), (4, (2, z12)), (5, (0, 0))]) rfl ?_
                                exact r_retZ hX hP rfl rfl (by first | decide | omega) (by first | decide | omega) (by first | decide | omega) (by first | decide | omega) ⟨rfl, ⟨_, (hw_sub (hw_up (hw_sub (hw_sub (hw_refl _ _) rfl) rfl) rfl) rfl).symm⟩, 1, rfl, lah416, lah416e, (by first | decide | omega), (by first | decide | omega), (Or.inl ⟨by omega, by omega, by omega, by omega, (Or.inr (Or.inr ⟨rfl, by omega, by omega, by omega, by omega, (congrArg (fun y : Int => (hw [(128, 1), (129, 1)] (up (hw [(128, 0)] (hw [(128, 0)] G G6) G408) 138 z12 1 known) G415) 138 y 1) fz334.symm).trans h414.symm, (fun a ha => (show (hw [(128, 1), (129, 1)] (up (hw [(128, 0)] (hw [(128, 0)] G G6) G408) 138 z12 1 known) G415) 138 a 1 = G 138 a 1 from (show (up (hw [(128, 0)] (hw [(128, 0)] G G6) G408) 138 z12 1 known) 138 a 1 = _ from up_ne (fun w => ha (w.2.1.trans fz334))))), (fun a => ⟨rfl, rfl⟩)⟩))⟩)⟩
                              · skip
                                exfalso; omega
                      · skip
                        exfalso; omega
                    · skip
                      refine r_if_ne hX hP rfl (tgt := 82) rfl (by first | decide | omega) (by first | decide | omega) (fun c419 => ?_) (fun c419 => ?_)
                      · skip
                        exfalso; omega
                      · skip
                        refine r_ex hX hP 4 (pc' := 86) (st' := [(0, 0), (0, 0), (0, 1), (0, 0), (2, this)]) (lo' := [(0, (2, this)), (1, (0, what)), (2, (0, which)), (3, (0, known)), (4, (2, z12)), (5, (0, 0))]) rfl ?_
                        refine r_callS gd hX hP rfl cs_X11_112 (d' := 0) (mc' := 0) (ms' := 0) (as' := [(0, 0), (0, 1), (0, 0), (0, 0)]) (st := [(2, this)]) (by first | decide | omega) (by first | decide | omega) (by first | decide | omega) rfl rfl (Nat.le_of_ble_eq_true rfl) (c_X11_first E S (hw [(128, 0)] G G6) 0 1 0 0 (by first | decide | omega) (by first | decide | omega) (by first | decide | omega) (by first | decide | omega) (by first | decide | omega) (by first | decide | omega) (by first | decide | omega) (by first | decide | omega)) ?_
                        rintro _ _ _ ⟨rfl, rfl, z420, rfl, (⟨rfl, f421⟩ | ⟨rfl, f422, f423⟩ | ⟨rfl, f424, f425, f426⟩ | ⟨rfl, f427, f428, f429, f430⟩ | ⟨rfl, f431, f432, f433, f434⟩)⟩
                        · skip
                          exfalso; omega
                        · skip
                          refine r_callV gd hX hP rfl cv_X11_90_128 hS (d' := 0) (mc' := 0) (ms' := 0) (as' := [(0, 2)]) (st := []) (by first | decide | omega) (by first | decide | omega) (by first | decide | omega) rfl rfl (Nat.le_of_ble_eq_true rfl) (c_X11_refused E S (hw [(128, 0)] G G6) this 2 hS (by first | decide | omega) (by first | decide | omega)) ?_
                          rintro _ _ _ ⟨rfl, ⟨G435, rfl⟩, z436, rfl, (⟨rfl, f437⟩ | ⟨rfl, f438⟩)⟩
                          · skip
                            refine r_if_ne hX hP rfl (tgt := 100) rfl (by first | decide | omega) (by first | decide | omega) (fun c439 => ?_) (fun c439 => ?_)
                            · skip
                              refine r_ex hX hP 1 (pc' := 101) (st' := [(0, 0)]) (lo' := [(0, (2, this)), (1, (0, what)), (2, (0, which)), (3, (0, known)), (4, (2, z12)), (5, (0, 0))]) rfl ?_
                              exact r_retZ hX hP rfl rfl (by first | decide | omega) (by first | decide | omega) (by first | decide | omega) (by first | decide | omega) ⟨rfl, ⟨_, (hw_sub (hw_sub (hw_refl _ _) rfl) rfl).symm⟩, 0, rfl, la, la_e, (by first | decide | omega), (by first | decide | omega), (Or.inr ⟨rfl, by omega, fun a => ⟨rfl, rfl, rfl⟩, by omega⟩)⟩
                            · skip
                              exfalso; omega
                          · skip
                            exfalso; omega
                        · skip
                          exfalso; omega
                        · skip
                          exfalso; omega
                        · skip
                          exfalso; omega
                  · skip
                    exfalso; omega
                · skip
                  refine r_ex hX hP 5 (pc' := 63) (st' := [(2, z12), (2, this)]) (lo' := [(0, (2, this)), (1, (0, what)), (2, (0, which)), (3, (0, known)), (4, (2, z12)), (5, (0, 1))]) rfl ?_
                  refine r_nn hX z12s (by decide) (fun c440n => ?_)
                  refine r_ifnn hX hP rfl (tgt := 70) rfl (fun c440 => ?_) (fun c440 => ?_)
                  · skip
                    refine r_ex hX hP 2 (pc' := 72) (st' := [(0, known), (0, 0), (2, this)]) (lo' := [(0, (2, this)), (1, (0, what)), (2, (0, which)), (3, (0, known)), (4, (2, z12)), (5, (0, 1))]) rfl ?_
                    refine r_callS gd hX hP rfl cs_X11_86 (d' := 1) (mc' := 0) (ms' := 0) (as' := [(0, known)]) (st := [(0, 0), (2, this)]) (by first | decide | omega) (by first | decide | omega) (by first | decide | omega) rfl rfl (Nat.le_of_ble_eq_true rfl) (c_X11_isDay E S (hw [(128, 0)] G G6) known (by first | decide | omega) (by first | decide | omega)) ?_
                    rintro _ _ _ ⟨rfl, rfl, z441, rfl, (⟨rfl, f442, f443⟩ | ⟨rfl, f444⟩)⟩
                    · skip
                      refine r_if_ne hX hP rfl (tgt := 82) rfl (by first | decide | omega) (by first | decide | omega) (fun c445 => ?_) (fun c445 => ?_)
                      · skip
                        refine r_ex hX hP 3 (pc' := 86) (st' := [(0, 1), (0, 0), (0, 0), (0, 0), (2, this)]) (lo' := [(0, (2, this)), (1, (0, what)), (2, (0, which)), (3, (0, known)), (4, (2, z12)), (5, (0, 1))]) rfl ?_
                        refine r_callS gd hX hP rfl cs_X11_112 (d' := 0) (mc' := 0) (ms' := 0) (as' := [(0, 0), (0, 0), (0, 0), (0, 1)]) (st := [(2, this)]) (by first | decide | omega) (by first | decide | omega) (by first | decide | omega) rfl rfl (Nat.le_of_ble_eq_true rfl) (c_X11_first E S (hw [(128, 0)] G G6) 0 0 0 1 (by first | decide | omega) (by first | decide | omega) (by first | decide | omega) (by first | decide | omega) (by first | decide | omega) (by first | decide | omega) (by first | decide | omega) (by first | decide | omega)) ?_
                        rintro _ _ _ ⟨rfl, rfl, z446, rfl, (⟨rfl, f447⟩ | ⟨rfl, f448, f449⟩ | ⟨rfl, f450, f451, f452⟩ | ⟨rfl, f453, f454, f455, f456⟩ | ⟨rfl, f457, f458, f459, f460⟩)⟩
                        · skip
                          exfalso; omega
                        · skip
                          exfalso; omega
                        · skip
                          exfalso; omega
                        · skip
                          refine r_callV gd hX hP rfl cv_X11_90_128 hS (d' := 0) (mc' := 0) (ms' := 0) (as' := [(0, 4)]) (st := []) (by first | decide | omega) (by first | decide | omega) (by first | decide | omega) rfl rfl (Nat.le_of_ble_eq_true rfl) (c_X11_refused E S (hw [(128, 0)] G G6) this 4 hS (by first | decide | omega) (by first | decide | omega)) ?_
                          rintro _ _ _ ⟨rfl, ⟨G461, rfl⟩, z462, rfl, (⟨rfl, f463⟩ | ⟨rfl, f464⟩)⟩
                          · skip
                            refine r_if_ne hX hP rfl (tgt := 100) rfl (by first | decide | omega) (by first | decide | omega) (fun c465 => ?_) (fun c465 => ?_)
                            · skip
                              refine r_ex hX hP 1 (pc' := 101) (st' := [(0, 0)]) (lo' := [(0, (2, this)), (1, (0, what)), (2, (0, which)), (3, (0, known)), (4, (2, z12)), (5, (0, 1))]) rfl ?_
                              exact r_retZ hX hP rfl rfl (by first | decide | omega) (by first | decide | omega) (by first | decide | omega) (by first | decide | omega) ⟨rfl, ⟨_, (hw_sub (hw_sub (hw_refl _ _) rfl) rfl).symm⟩, 0, rfl, la, la_e, (by first | decide | omega), (by first | decide | omega), (Or.inr ⟨rfl, by omega, fun a => ⟨rfl, rfl, rfl⟩, by omega⟩)⟩
                            · skip
                              exfalso; omega
                          · skip
                            exfalso; omega
                        · skip
                          exfalso; omega
                      · skip
                        exfalso; omega
                    · skip
                      refine r_if_ne hX hP rfl (tgt := 82) rfl (by first | decide | omega) (by first | decide | omega) (fun c466 => ?_) (fun c466 => ?_)
                      · skip
                        exfalso; omega
                      · skip
                        refine r_ex hX hP 4 (pc' := 86) (st' := [(0, 1), (0, 0), (0, 1), (0, 0), (2, this)]) (lo' := [(0, (2, this)), (1, (0, what)), (2, (0, which)), (3, (0, known)), (4, (2, z12)), (5, (0, 1))]) rfl ?_
                        refine r_callS gd hX hP rfl cs_X11_112 (d' := 0) (mc' := 0) (ms' := 0) (as' := [(0, 0), (0, 1), (0, 0), (0, 1)]) (st := [(2, this)]) (by first | decide | omega) (by first | decide | omega) (by first | decide | omega) rfl rfl (Nat.le_of_ble_eq_true rfl) (c_X11_first E S (hw [(128, 0)] G G6) 0 1 0 1 (by first | decide | omega) (by first | decide | omega) (by first | decide | omega) (by first | decide | omega) (by first | decide | omega) (by first | decide | omega) (by first | decide | omega) (by first | decide | omega)) ?_
                        rintro _ _ _ ⟨rfl, rfl, z467, rfl, (⟨rfl, f468⟩ | ⟨rfl, f469, f470⟩ | ⟨rfl, f471, f472, f473⟩ | ⟨rfl, f474, f475, f476, f477⟩ | ⟨rfl, f478, f479, f480, f481⟩)⟩
                        · skip
                          exfalso; omega
                        · skip
                          refine r_callV gd hX hP rfl cv_X11_90_128 hS (d' := 0) (mc' := 0) (ms' := 0) (as' := [(0, 2)]) (st := []) (by first | decide | omega) (by first | decide | omega) (by first | decide | omega) rfl rfl (Nat.le_of_ble_eq_true rfl) (c_X11_refused E S (hw [(128, 0)] G G6) this 2 hS (by first | decide | omega) (by first | decide | omega)) ?_
                          rintro _ _ _ ⟨rfl, ⟨G482, rfl⟩, z483, rfl, (⟨rfl, f484⟩ | ⟨rfl, f485⟩)⟩
                          · skip
                            refine r_if_ne hX hP rfl (tgt := 100) rfl (by first | decide | omega) (by first | decide | omega) (fun c486 => ?_) (fun c486 => ?_)
                            · skip
                              refine r_ex hX hP 1 (pc' := 101) (st' := [(0, 0)]) (lo' := [(0, (2, this)), (1, (0, what)), (2, (0, which)), (3, (0, known)), (4, (2, z12)), (5, (0, 1))]) rfl ?_
                              exact r_retZ hX hP rfl rfl (by first | decide | omega) (by first | decide | omega) (by first | decide | omega) (by first | decide | omega) ⟨rfl, ⟨_, (hw_sub (hw_sub (hw_refl _ _) rfl) rfl).symm⟩, 0, rfl, la, la_e, (by first | decide | omega), (by first | decide | omega), (Or.inr ⟨rfl, by omega, fun a => ⟨rfl, rfl, rfl⟩, by omega⟩)⟩
                            · skip
                              exfalso; omega
                          · skip
                            exfalso; omega
                        · skip
                          exfalso; omega
                        · skip
                          exfalso; omega
                        · skip
                          exfalso; omega
                  · skip
                    exfalso; omega
          · skip
            refine r_ex hX hP 3 (pc' := 33) (st' := [(2, this), (0, known)]) (lo' := [(0, (2, this)), (1, (0, what)), (2, (0, which)), (3, (0, known)), (4, (2, (-1)))]) rfl ?_
            refine r_getKI hX hP rfl fl_X11_129_128 hS (x := la) la_e ?_
            refine r_ic_lt hX hP rfl (tgt := 53) rfl (by first | decide | omega) (by first | decide | omega) (by first | decide | omega) (by first | decide | omega) (fun c487 => ?_) (fun c487 => ?_)
            · skip
              refine r_ex hX hP 5 (pc' := 63) (st' := [(2, (-1)), (2, this)]) (lo' := [(0, (2, this)), (1, (0, what)), (2, (0, which)), (3, (0, known)), (4, (2, (-1))), (5, (0, 1))]) rfl ?_
              refine r_ifnn hX hP rfl (tgt := 70) rfl (fun c488 => ?_) (fun c488 => ?_)
              · skip
                exfalso; omega
              · skip
                refine r_ex hX hP 3 (pc' := 72) (st' := [(0, known), (0, 1), (2, this)]) (lo' := [(0, (2, this)), (1, (0, what)), (2, (0, which)), (3, (0, known)), (4, (2, (-1))), (5, (0, 1))]) rfl ?_
                refine r_callS gd hX hP rfl cs_X11_86 (d' := 1) (mc' := 0) (ms' := 0) (as' := [(0, known)]) (st := [(0, 1), (2, this)]) (by first | decide | omega) (by first | decide | omega) (by first | decide | omega) rfl rfl (Nat.le_of_ble_eq_true rfl) (c_X11_isDay E S (hw [(128, 0)] G G6) known (by first | decide | omega) (by first | decide | omega)) ?_
                rintro _ _ _ ⟨rfl, rfl, z489, rfl, (⟨rfl, f490, f491⟩ | ⟨rfl, f492⟩)⟩
                · skip
                  refine r_if_ne hX hP rfl (tgt := 82) rfl (by first | decide | omega) (by first | decide | omega) (fun c493 => ?_) (fun c493 => ?_)
                  · skip
                    refine r_ex hX hP 3 (pc' := 86) (st' := [(0, 1), (0, 0), (0, 0), (0, 1), (2, this)]) (lo' := [(0, (2, this)), (1, (0, what)), (2, (0, which)), (3, (0, known)), (4, (2, (-1))), (5, (0, 1))]) rfl ?_
                    refine r_callS gd hX hP rfl cs_X11_112 (d' := 0) (mc' := 0) (ms' := 0) (as' := [(0, 1), (0, 0), (0, 0), (0, 1)]) (st := [(2, this)]) (by first | decide | omega) (by first | decide | omega) (by first | decide | omega) rfl rfl (Nat.le_of_ble_eq_true rfl) (c_X11_first E S (hw [(128, 0)] G G6) 1 0 0 1 (by first | decide | omega) (by first | decide | omega) (by first | decide | omega) (by first | decide | omega) (by first | decide | omega) (by first | decide | omega) (by first | decide | omega) (by first | decide | omega)) ?_
                    rintro _ _ _ ⟨rfl, rfl, z494, rfl, (⟨rfl, f495⟩ | ⟨rfl, f496, f497⟩ | ⟨rfl, f498, f499, f500⟩ | ⟨rfl, f501, f502, f503, f504⟩ | ⟨rfl, f505, f506, f507, f508⟩)⟩
                    · skip
                      refine r_callV gd hX hP rfl cv_X11_90_128 hS (d' := 0) (mc' := 0) (ms' := 0) (as' := [(0, 1)]) (st := []) (by first | decide | omega) (by first | decide | omega) (by first | decide | omega) rfl rfl (Nat.le_of_ble_eq_true rfl) (c_X11_refused E S (hw [(128, 0)] G G6) this 1 hS (by first | decide | omega) (by first | decide | omega)) ?_
                      rintro _ _ _ ⟨rfl, ⟨G509, rfl⟩, z510, rfl, (⟨rfl, f511⟩ | ⟨rfl, f512⟩)⟩
                      · skip
                        refine r_if_ne hX hP rfl (tgt := 100) rfl (by first | decide | omega) (by first | decide | omega) (fun c513 => ?_) (fun c513 => ?_)
                        · skip
                          refine r_ex hX hP 1 (pc' := 101) (st' := [(0, 0)]) (lo' := [(0, (2, this)), (1, (0, what)), (2, (0, which)), (3, (0, known)), (4, (2, (-1))), (5, (0, 1))]) rfl ?_
                          exact r_retZ hX hP rfl rfl (by first | decide | omega) (by first | decide | omega) (by first | decide | omega) (by first | decide | omega) ⟨rfl, ⟨_, (hw_sub (hw_sub (hw_refl _ _) rfl) rfl).symm⟩, 0, rfl, la, la_e, (by first | decide | omega), (by first | decide | omega), (Or.inr ⟨rfl, by omega, fun a => ⟨rfl, rfl, rfl⟩, by omega⟩)⟩
                        · skip
                          exfalso; omega
                      · skip
                        exfalso; omega
                    · skip
                      exfalso; omega
                    · skip
                      exfalso; omega
                    · skip
                      exfalso; omega
                    · skip
                      exfalso; omega
                  · skip
                    exfalso; omega
                · skip
                  refine r_if_ne hX hP rfl (tgt := 82) rfl (by first | decide | omega) (by first | decide | omega) (fun c514 => ?_) (fun c514 => ?_)
                  · skip
                    exfalso; omega
                  · skip
                    refine r_ex hX hP 4 (pc' := 86) (st' := [(0, 1), (0, 0), (0, 1), (0, 1), (2, this)]) (lo' := [(0, (2, this)), (1, (0, what)), (2, (0, which)), (3, (0, known)), (4, (2, (-1))), (5, (0, 1))]) rfl ?_
                    refine r_callS gd hX hP rfl cs_X11_112 (d' := 0) (mc' := 0) (ms' := 0) (as' := [(0, 1), (0, 1), (0, 0), (0, 1)]) (st := [(2, this)]) (by first | decide | omega) (by first | decide | omega) (by first | decide | omega) rfl rfl (Nat.le_of_ble_eq_true rfl) (c_X11_first E S (hw [(128, 0)] G G6) 1 1 0 1 (by first | decide | omega) (by first | decide | omega) (by first | decide | omega) (by first | decide | omega) (by first | decide | omega) (by first | decide | omega) (by first | decide | omega) (by first | decide | omega)) ?_
                    rintro _ _ _ ⟨rfl, rfl, z515, rfl, (⟨rfl, f516⟩ | ⟨rfl, f517, f518⟩ | ⟨rfl, f519, f520, f521⟩ | ⟨rfl, f522, f523, f524, f525⟩ | ⟨rfl, f526, f527, f528, f529⟩)⟩
                    · skip
                      refine r_callV gd hX hP rfl cv_X11_90_128 hS (d' := 0) (mc' := 0) (ms' := 0) (as' := [(0, 1)]) (st := []) (by first | decide | omega) (by first | decide | omega) (by first | decide | omega) rfl rfl (Nat.le_of_ble_eq_true rfl) (c_X11_refused E S (hw [(128, 0)] G G6) this 1 hS (by first | decide | omega) (by first | decide | omega)) ?_
                      rintro _ _ _ ⟨rfl, ⟨G530, rfl⟩, z531, rfl, (⟨rfl, f532⟩ | ⟨rfl, f533⟩)⟩
                      · skip
                        refine r_if_ne hX hP rfl (tgt := 100) rfl (by first | decide | omega) (by first | decide | omega) (fun c534 => ?_) (fun c534 => ?_)
                        · skip
                          refine r_ex hX hP 1 (pc' := 101) (st' := [(0, 0)]) (lo' := [(0, (2, this)), (1, (0, what)), (2, (0, which)), (3, (0, known)), (4, (2, (-1))), (5, (0, 1))]) rfl ?_
                          exact r_retZ hX hP rfl rfl (by first | decide | omega) (by first | decide | omega) (by first | decide | omega) (by first | decide | omega) ⟨rfl, ⟨_, (hw_sub (hw_sub (hw_refl _ _) rfl) rfl).symm⟩, 0, rfl, la, la_e, (by first | decide | omega), (by first | decide | omega), (Or.inr ⟨rfl, by omega, fun a => ⟨rfl, rfl, rfl⟩, by omega⟩)⟩
                        · skip
                          exfalso; omega
                      · skip
                        exfalso; omega
                    · skip
                      exfalso; omega
                    · skip
                      exfalso; omega
                    · skip
                      exfalso; omega
                    · skip
                      exfalso; omega
            · skip
              refine r_ex hX hP 1 (pc' := 41) (st' := [(2, (-1))]) (lo' := [(0, (2, this)), (1, (0, what)), (2, (0, which)), (3, (0, known)), (4, (2, (-1)))]) rfl ?_
              refine r_ifnu hX hP rfl (tgt := 57) rfl (fun c535 => ?_) (fun c535 => ?_)
              · skip
                refine r_ex hX hP 4 (pc' := 63) (st' := [(2, (-1)), (2, this)]) (lo' := [(0, (2, this)), (1, (0, what)), (2, (0, which)), (3, (0, known)), (4, (2, (-1))), (5, (0, 0))]) rfl ?_
                refine r_ifnn hX hP rfl (tgt := 70) rfl (fun c536 => ?_) (fun c536 => ?_)
                · skip
                  exfalso; omega
                · skip
                  refine r_ex hX hP 3 (pc' := 72) (st' := [(0, known), (0, 1), (2, this)]) (lo' := [(0, (2, this)), (1, (0, what)), (2, (0, which)), (3, (0, known)), (4, (2, (-1))), (5, (0, 0))]) rfl ?_
                  refine r_callS gd hX hP rfl cs_X11_86 (d' := 1) (mc' := 0) (ms' := 0) (as' := [(0, known)]) (st := [(0, 1), (2, this)]) (by first | decide | omega) (by first | decide | omega) (by first | decide | omega) rfl rfl (Nat.le_of_ble_eq_true rfl) (c_X11_isDay E S (hw [(128, 0)] G G6) known (by first | decide | omega) (by first | decide | omega)) ?_
                  rintro _ _ _ ⟨rfl, rfl, z537, rfl, (⟨rfl, f538, f539⟩ | ⟨rfl, f540⟩)⟩
                  · skip
                    refine r_if_ne hX hP rfl (tgt := 82) rfl (by first | decide | omega) (by first | decide | omega) (fun c541 => ?_) (fun c541 => ?_)
                    · skip
                      refine r_ex hX hP 3 (pc' := 86) (st' := [(0, 0), (0, 0), (0, 0), (0, 1), (2, this)]) (lo' := [(0, (2, this)), (1, (0, what)), (2, (0, which)), (3, (0, known)), (4, (2, (-1))), (5, (0, 0))]) rfl ?_
                      refine r_callS gd hX hP rfl cs_X11_112 (d' := 0) (mc' := 0) (ms' := 0) (as' := [(0, 1), (0, 0), (0, 0), (0, 0)]) (st := [(2, this)]) (by first | decide | omega) (by first | decide | omega) (by first | decide | omega) rfl rfl (Nat.le_of_ble_eq_true rfl) (c_X11_first E S (hw [(128, 0)] G G6) 1 0 0 0 (by first | decide | omega) (by first | decide | omega) (by first | decide | omega) (by first | decide | omega) (by first | decide | omega) (by first | decide | omega) (by first | decide | omega) (by first | decide | omega)) ?_
                      rintro _ _ _ ⟨rfl, rfl, z542, rfl, (⟨rfl, f543⟩ | ⟨rfl, f544, f545⟩ | ⟨rfl, f546, f547, f548⟩ | ⟨rfl, f549, f550, f551, f552⟩ | ⟨rfl, f553, f554, f555, f556⟩)⟩
                      · skip
                        refine r_callV gd hX hP rfl cv_X11_90_128 hS (d' := 0) (mc' := 0) (ms' := 0) (as' := [(0, 1)]) (st := []) (by first | decide | omega) (by first | decide | omega) (by first | decide | omega) rfl rfl (Nat.le_of_ble_eq_true rfl) (c_X11_refused E S (hw [(128, 0)] G G6) this 1 hS (by first | decide | omega) (by first | decide | omega)) ?_
                        rintro _ _ _ ⟨rfl, ⟨G557, rfl⟩, z558, rfl, (⟨rfl, f559⟩ | ⟨rfl, f560⟩)⟩
                        · skip
                          refine r_if_ne hX hP rfl (tgt := 100) rfl (by first | decide | omega) (by first | decide | omega) (fun c561 => ?_) (fun c561 => ?_)
                          · skip
                            refine r_ex hX hP 1 (pc' := 101) (st' := [(0, 0)]) (lo' := [(0, (2, this)), (1, (0, what)), (2, (0, which)), (3, (0, known)), (4, (2, (-1))), (5, (0, 0))]) rfl ?_
                            exact r_retZ hX hP rfl rfl (by first | decide | omega) (by first | decide | omega) (by first | decide | omega) (by first | decide | omega) ⟨rfl, ⟨_, (hw_sub (hw_sub (hw_refl _ _) rfl) rfl).symm⟩, 0, rfl, la, la_e, (by first | decide | omega), (by first | decide | omega), (Or.inr ⟨rfl, by omega, fun a => ⟨rfl, rfl, rfl⟩, by omega⟩)⟩
                          · skip
                            exfalso; omega
                        · skip
                          exfalso; omega
                      · skip
                        exfalso; omega
                      · skip
                        exfalso; omega
                      · skip
                        exfalso; omega
                      · skip
                        exfalso; omega
                    · skip
                      exfalso; omega
                  · skip
                    refine r_if_ne hX hP rfl (tgt := 82) rfl (by first | decide | omega) (by first | decide | omega) (fun c562 => ?_) (fun c562 => ?_)
                    · skip
                      exfalso; omega
                    · skip
                      refine r_ex hX hP 4 (pc' := 86) (st' := [(0, 0), (0, 0), (0, 1), (0, 1), (2, this)]) (lo' := [(0, (2, this)), (1, (0, what)), (2, (0, which)), (3, (0, known)), (4, (2, (-1))), (5, (0, 0))]) rfl ?_
                      refine r_callS gd hX hP rfl cs_X11_112 (d' := 0) (mc' := 0) (ms' := 0) (as' := [(0, 1), (0, 1), (0, 0), (0, 0)]) (st := [(2, this)]) (by first | decide | omega) (by first | decide | omega) (by first | decide | omega) rfl rfl (Nat.le_of_ble_eq_true rfl) (c_X11_first E S (hw [(128, 0)] G G6) 1 1 0 0 (by first | decide | omega) (by first | decide | omega) (by first | decide | omega) (by first | decide | omega) (by first | decide | omega) (by first | decide | omega) (by first | decide | omega) (by first | decide | omega)) ?_
                      rintro _ _ _ ⟨rfl, rfl, z563, rfl, (⟨rfl, f564⟩ | ⟨rfl, f565, f566⟩ | ⟨rfl, f567, f568, f569⟩ | ⟨rfl, f570, f571, f572, f573⟩ | ⟨rfl, f574, f575, f576, f577⟩)⟩
                      · skip
                        refine r_callV gd hX hP rfl cv_X11_90_128 hS (d' := 0) (mc' := 0) (ms' := 0) (as' := [(0, 1)]) (st := []) (by first | decide | omega) (by first | decide | omega) (by first | decide | omega) rfl rfl (Nat.le_of_ble_eq_true rfl) (c_X11_refused E S (hw [(128, 0)] G G6) this 1 hS (by first | decide | omega) (by first | decide | omega)) ?_
                        rintro _ _ _ ⟨rfl, ⟨G578, rfl⟩, z579, rfl, (⟨rfl, f580⟩ | ⟨rfl, f581⟩)⟩
                        · skip
                          refine r_if_ne hX hP rfl (tgt := 100) rfl (by first | decide | omega) (by first | decide | omega) (fun c582 => ?_) (fun c582 => ?_)
                          · skip
                            refine r_ex hX hP 1 (pc' := 101) (st' := [(0, 0)]) (lo' := [(0, (2, this)), (1, (0, what)), (2, (0, which)), (3, (0, known)), (4, (2, (-1))), (5, (0, 0))]) rfl ?_
                            exact r_retZ hX hP rfl rfl (by first | decide | omega) (by first | decide | omega) (by first | decide | omega) (by first | decide | omega) ⟨rfl, ⟨_, (hw_sub (hw_sub (hw_refl _ _) rfl) rfl).symm⟩, 0, rfl, la, la_e, (by first | decide | omega), (by first | decide | omega), (Or.inr ⟨rfl, by omega, fun a => ⟨rfl, rfl, rfl⟩, by omega⟩)⟩
                          · skip
                            exfalso; omega
                        · skip
                          exfalso; omega
                      · skip
                        exfalso; omega
                      · skip
                        exfalso; omega
                      · skip
                        exfalso; omega
                      · skip
                        exfalso; omega
              · skip
                exfalso; omega
        · skip
          exfalso; omega
  · skip
    refine r_if_eq hX hP rfl (tgt := 14) rfl (by first | decide | omega) (by first | decide | omega) (fun c583 => ?_) (fun c583 => ?_)
    · skip
      refine r_ex hX hP 1 (pc' := 15) (st' := [(0, 2), (2, this)]) (lo' := [(0, (2, this)), (1, (0, what)), (2, (0, which)), (3, (0, known))]) rfl ?_
      refine r_callV gd hX hP rfl cv_X11_90_128 hS (d' := 0) (mc' := 0) (ms' := 0) (as' := [(0, 2)]) (st := []) (by first | decide | omega) (by first | decide | omega) (by first | decide | omega) rfl rfl (Nat.le_of_ble_eq_true rfl) (c_X11_refused E S G this 2 hS (by first | decide | omega) (by first | decide | omega)) ?_
      rintro _ _ _ ⟨rfl, ⟨G584, rfl⟩, z585, rfl, (⟨rfl, f586⟩ | ⟨rfl, f587⟩)⟩
      · skip
        refine r_if_eq hX hP rfl (tgt := 23) rfl (by first | decide | omega) (by first | decide | omega) (fun c588 => ?_) (fun c588 => ?_)
        · skip
          exfalso; omega
        · skip
          refine r_ex hX hP 1 (pc' := 22) (st' := [(0, 0)]) (lo' := [(0, (2, this)), (1, (0, what)), (2, (0, which)), (3, (0, known))]) rfl ?_
          exact r_retZ hX hP rfl rfl (by first | decide | omega) (by first | decide | omega) (by first | decide | omega) (by first | decide | omega) ⟨rfl, ⟨_, (hw_sub (hw_refl _ _) rfl).symm⟩, 0, rfl, la, la_e, (by first | decide | omega), (by first | decide | omega), (Or.inr ⟨rfl, by omega, fun a => ⟨rfl, rfl, rfl⟩, by omega⟩)⟩
      · skip
        exfalso; omega
    · skip
      exfalso; omega
