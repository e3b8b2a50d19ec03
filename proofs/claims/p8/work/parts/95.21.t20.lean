set_option maxRecDepth 100000 in
set_option maxHeartbeats 4000000 in
theorem c_X11_calledT (E : En) (S : Sg) (G : Gh) (this : Int) (paper : Int) (day : Int) (hS : S this = 128) (na : Int) (na_e : na = G 128 this 11) (na_s : S na = 159) (nan : Int) (nan_e : nan = G 159 na 2) (run : Int) (run_e : run = G 128 this 17) (run_s : S run = 129) (aso : Int) (aso_e : aso = G 129 run 0) (paper_a : (-2147483648) ≤ paper) (paper_b : paper ≤ 2147483647) (day_a : (-2147483648) ≤ day) (day_b : day ≤ 2147483647) (ci : CI E S G) (t : Tz) (q4 : ∀ i : Int, 0 ≤ i → i < nan → G 141 (elm S G 159 na i) 2 = t 30 i ∧ G 141 (elm S G 159 na i) 3 = t 31 i ∧ G 141 (elm S G 159 na i) 4 = t 32 i ∧ G 141 (elm S G 159 na i) 0 = t 33 i ∧ G 141 (elm S G 159 na i) 1 = -1) (t6 : t 6 0 = nan) (t9 : aso = t 9 0) : Calls E mX11_called [(2, this), (0, paper), (0, day)] S G 4 0 0 (fun r S' G' => S = S' ∧ (∃ G1, hw [(128, 0)] G G1 = G') ∧ ∃ z : Int, r = some (0, z) ∧ (-2147483648) ≤ z ∧ z ≤ 2147483647 ∧ z = tCld t paper day) := by
  refine calls_by [(0, (2, this)), (1, (0, paper)), (2, (0, day))] rfl rfl (Nat.le_of_ble_eq_true rfl) (fun X hX => ?_)
  have hP := hPX11_called
  refine r_peekI hX (tl_159 2 rfl (by decide)) na_s (fun nan_o nan_oe nan_oa nan_ob => ?_)
  obtain rfl : nan = nan_o := nan_e.trans nan_oe.symm
  refine r_peekI hX (tl_129 0 rfl (by decide)) run_s (fun aso_o aso_oe aso_oa aso_ob => ?_)
  obtain rfl : aso = aso_o := aso_e.trans aso_oe.symm
  refine r_ex hX hP 2 (pc' := 2) (st' := [(0, paper), (2, this)]) (lo' := [(0, (2, this)), (1, (0, paper)), (2, (0, day))]) rfl ?_
  refine r_callS gd hX hP rfl cs_X11_120 (d' := 1) (mc' := 0) (ms' := 0) (as' := [(0, paper)]) (st := [(2, this)]) (by first | decide | omega) (by first | decide | omega) (by first | decide | omega) rfl rfl (Nat.le_of_ble_eq_true rfl) (c_isPaperX E S G paper (by first | decide | omega) (by first | decide | omega)) ?_
  rintro _ _ _ ⟨rfl, rfl, z1, rfl, (⟨rfl, f2, f3⟩ | ⟨rfl, f4⟩)⟩
  · skip
    refine r_if_ne hX hP rfl (tgt := 12) rfl (by first | decide | omega) (by first | decide | omega) (fun c5 => ?_) (fun c5 => ?_)
    · skip
      refine r_ex hX hP 2 (pc' := 14) (st' := [(0, day), (0, 0), (2, this)]) (lo' := [(0, (2, this)), (1, (0, paper)), (2, (0, day))]) rfl ?_
      refine r_callS gd hX hP rfl cs_X11_86 (d' := 1) (mc' := 0) (ms' := 0) (as' := [(0, day)]) (st := [(0, 0), (2, this)]) (by first | decide | omega) (by first | decide | omega) (by first | decide | omega) rfl rfl (Nat.le_of_ble_eq_true rfl) (c_X11_isDay E S G day (by first | decide | omega) (by first | decide | omega)) ?_
      rintro _ _ _ ⟨rfl, rfl, z6, rfl, (⟨rfl, f7, f8⟩ | ⟨rfl, f9⟩)⟩
      · skip
        refine r_if_ne hX hP rfl (tgt := 24) rfl (by first | decide | omega) (by first | decide | omega) (fun c10 => ?_) (fun c10 => ?_)
        · skip
          refine r_ex hX hP 3 (pc' := 27) (st' := [(0, 0), (0, 0), (0, 0), (0, 0), (2, this)]) (lo' := [(0, (2, this)), (1, (0, paper)), (2, (0, day))]) rfl ?_
          refine r_callS gd hX hP rfl cs_X11_112 (d' := 0) (mc' := 0) (ms' := 0) (as' := [(0, 0), (0, 0), (0, 0), (0, 0)]) (st := [(2, this)]) (by first | decide | omega) (by first | decide | omega) (by first | decide | omega) rfl rfl (Nat.le_of_ble_eq_true rfl) (c_X11_first E S G 0 0 0 0 (by first | decide | omega) (by first | decide | omega) (by first | decide | omega) (by first | decide | omega) (by first | decide | omega) (by first | decide | omega) (by first | decide | omega) (by first | decide | omega)) ?_
          rintro _ _ _ ⟨rfl, rfl, z11, rfl, (⟨rfl, f12⟩ | ⟨rfl, f13, f14⟩ | ⟨rfl, f15, f16, f17⟩ | ⟨rfl, f18, f19, f20, f21⟩ | ⟨rfl, f22, f23, f24, f25⟩)⟩
          · skip
            exfalso; omega
          · skip
            exfalso; omega
          · skip
            exfalso; omega
          · skip
            exfalso; omega
          · skip
            refine r_callV gd hX hP rfl cv_X11_90_128 hS (d' := 0) (mc' := 0) (ms' := 0) (as' := [(0, 0)]) (st := []) (by first | decide | omega) (by first | decide | omega) (by first | decide | omega) rfl rfl (Nat.le_of_ble_eq_true rfl) (c_X11_refused E S G this 0 hS (by first | decide | omega) (by first | decide | omega)) ?_
            rintro _ _ _ ⟨rfl, ⟨G26, rfl⟩, z27, rfl, (⟨rfl, f28⟩ | ⟨rfl, f29⟩)⟩
            · skip
              exfalso; omega
            · skip
              refine r_if_eq hX hP rfl (tgt := 38) rfl (by first | decide | omega) (by first | decide | omega) (fun c30 => ?_) (fun c30 => ?_)
              · skip
                refine r_ex hX hP 3 (pc' := 41) (st' := [(0, day), (0, paper), (2, this)]) (lo' := [(0, (2, this)), (1, (0, paper)), (2, (0, day))]) rfl ?_
                have ci31 : CI E S (hw [(128, 0)] G G26) := (ci_hw ci rfl)
                refine r_callV gd hX hP rfl cv_X11_417_128 hS (d' := 3) (mc' := 0) (ms' := 0) (as' := [(0, paper), (0, day)]) (st := []) (by first | decide | omega) (by first | decide | omega) (by first | decide | omega) rfl rfl (Nat.le_of_ble_eq_true rfl) (c_X11_nameOfT E S (hw [(128, 0)] G G26) this paper day hS na na_e na_s nan nan_e run run_e run_s aso aso_e (by first | decide | omega) (by first | decide | omega) (by first | decide | omega) (by first | decide | omega) ci31 t (fun i h0 h1 => by rw [elk_159 ci na_s (frm_tr (frm_refl gk159 S G) (frm_hw rfl)) h0 (by rw [← nan_e]; exact h1)]; exact q4 i h0 h1) t6 t9) ?_
                rintro _ _ _ ⟨rfl, rfl, z32, rfl, z32a, z32b, f33⟩
                refine r_ex hX hP 4 (pc' := 48) (st' := [(0, (-1)), (0, z32), (2, this)]) (lo' := [(0, (2, this)), (1, (0, paper)), (2, (0, day)), (3, (0, z32))]) rfl ?_
                refine r_ic_ne hX hP rfl (tgt := 55) rfl (by first | decide | omega) (by first | decide | omega) (by first | decide | omega) (by first | decide | omega) (fun c34 => ?_) (fun c34 => ?_)
                · skip
                  refine r_ex hX hP 1 (pc' := 56) (st' := [(0, 0), (2, this)]) (lo' := [(0, (2, this)), (1, (0, paper)), (2, (0, day)), (3, (0, z32))]) rfl ?_
                  refine r_callV gd hX hP rfl cv_X11_90_128 hS (d' := 0) (mc' := 0) (ms' := 0) (as' := [(0, 0)]) (st := []) (by first | decide | omega) (by first | decide | omega) (by first | decide | omega) rfl rfl (Nat.le_of_ble_eq_true rfl) (c_X11_refused E S (hw [(128, 0)] G G26) this 0 hS (by first | decide | omega) (by first | decide | omega)) ?_
                  rintro _ _ _ ⟨rfl, ⟨G35, rfl⟩, z36, rfl, (⟨rfl, f37⟩ | ⟨rfl, f38⟩)⟩
                  · skip
                    exfalso; omega
                  · skip
                    refine r_ex hX hP 2 (pc' := 61) (st' := [(0, z32)]) (lo' := [(0, (2, this)), (1, (0, paper)), (2, (0, day)), (3, (0, z32))]) rfl ?_
                    exact r_retI hX hP rfl rfl (by first | decide | omega) (by first | decide | omega) ⟨rfl, ⟨_, (hw_sub (hw_sub (hw_refl _ _) rfl) rfl).symm⟩, z32, rfl, (by first | decide | omega), (by first | decide | omega), (by rw [tCld_if]; first | (rw [if_pos (by first | decide | omega)]; omega) | rw [if_neg (by first | decide | omega)])⟩
                · skip
                  refine r_ex hX hP 2 (pc' := 56) (st' := [(0, 5), (2, this)]) (lo' := [(0, (2, this)), (1, (0, paper)), (2, (0, day)), (3, (0, z32))]) rfl ?_
                  refine r_callV gd hX hP rfl cv_X11_90_128 hS (d' := 0) (mc' := 0) (ms' := 0) (as' := [(0, 5)]) (st := []) (by first | decide | omega) (by first | decide | omega) (by first | decide | omega) rfl rfl (Nat.le_of_ble_eq_true rfl) (c_X11_refused E S (hw [(128, 0)] G G26) this 5 hS (by first | decide | omega) (by first | decide | omega)) ?_
                  rintro _ _ _ ⟨rfl, ⟨G39, rfl⟩, z40, rfl, (⟨rfl, f41⟩ | ⟨rfl, f42⟩)⟩
                  · skip
                    refine r_ex hX hP 2 (pc' := 61) (st' := [(0, z32)]) (lo' := [(0, (2, this)), (1, (0, paper)), (2, (0, day)), (3, (0, z32))]) rfl ?_
                    exact r_retI hX hP rfl rfl (by first | decide | omega) (by first | decide | omega) ⟨rfl, ⟨_, (hw_sub (hw_sub (hw_refl _ _) rfl) rfl).symm⟩, z32, rfl, (by first | decide | omega), (by first | decide | omega), (by rw [tCld_if]; first | (rw [if_pos (by first | decide | omega)]; omega) | rw [if_neg (by first | decide | omega)])⟩
                  · skip
                    exfalso; omega
              · skip
                exfalso; omega
        · skip
          exfalso; omega
      · skip
        refine r_if_ne hX hP rfl (tgt := 24) rfl (by first | decide | omega) (by first | decide | omega) (fun c43 => ?_) (fun c43 => ?_)
        · skip
          exfalso; omega
        · skip
          refine r_ex hX hP 4 (pc' := 27) (st' := [(0, 0), (0, 0), (0, 1), (0, 0), (2, this)]) (lo' := [(0, (2, this)), (1, (0, paper)), (2, (0, day))]) rfl ?_
          refine r_callS gd hX hP rfl cs_X11_112 (d' := 0) (mc' := 0) (ms' := 0) (as' := [(0, 0), (0, 1), (0, 0), (0, 0)]) (st := [(2, this)]) (by first | decide | omega) (by first | decide | omega) (by first | decide | omega) rfl rfl (Nat.le_of_ble_eq_true rfl) (c_X11_first E S G 0 1 0 0 (by first | decide | omega) (by first | decide | omega) (by first | decide | omega) (by first | decide | omega) (by first | decide | omega) (by first | decide | omega) (by first | decide | omega) (by first | decide | omega)) ?_
          rintro _ _ _ ⟨rfl, rfl, z44, rfl, (⟨rfl, f45⟩ | ⟨rfl, f46, f47⟩ | ⟨rfl, f48, f49, f50⟩ | ⟨rfl, f51, f52, f53, f54⟩ | ⟨rfl, f55, f56, f57, f58⟩)⟩
          · skip
            exfalso; omega
          · skip
            refine r_callV gd hX hP rfl cv_X11_90_128 hS (d' := 0) (mc' := 0) (ms' := 0) (as' := [(0, 2)]) (st := []) (by first | decide | omega) (by first | decide | omega) (by first | decide | omega) rfl rfl (Nat.le_of_ble_eq_true rfl) (c_X11_refused E S G this 2 hS (by first | decide | omega) (by first | decide | omega)) ?_
            rintro _ _ _ ⟨rfl, ⟨G59, rfl⟩, z60, rfl, (⟨rfl, f61⟩ | ⟨rfl, f62⟩)⟩
            · skip
              refine r_if_eq hX hP rfl (tgt := 38) rfl (by first | decide | omega) (by first | decide | omega) (fun c63 => ?_) (fun c63 => ?_)
              · skip
                exfalso; omega
              · skip
                refine r_ex hX hP 1 (pc' := 37) (st' := [(0, (-1))]) (lo' := [(0, (2, this)), (1, (0, paper)), (2, (0, day))]) rfl ?_
                exact r_retI hX hP rfl rfl (by first | decide | omega) (by first | decide | omega) ⟨rfl, ⟨_, (hw_sub (hw_refl _ _) rfl).symm⟩, (-1), rfl, (by first | decide | omega), (by first | decide | omega), (by rw [tCld_if]; first | (rw [if_pos (by first | decide | omega)]; omega) | rw [if_neg (by first | decide | omega)])⟩
            · skip
              exfalso; omega
          · skip
            exfalso; omega
          · skip
            exfalso; omega
          · skip
            exfalso; omega
    · skip
      exfalso; omega
  · skip
    refine r_if_ne hX hP rfl (tgt := 12) rfl (by first | decide | omega) (by first | decide | omega) (fun c64 => ?_) (fun c64 => ?_)
    · skip
      exfalso; omega
    · skip
      refine r_ex hX hP 3 (pc' := 14) (st' := [(0, day), (0, 1), (2, this)]) (lo' := [(0, (2, this)), (1, (0, paper)), (2, (0, day))]) rfl ?_
      refine r_callS gd hX hP rfl cs_X11_86 (d' := 1) (mc' := 0) (ms' := 0) (as' := [(0, day)]) (st := [(0, 1), (2, this)]) (by first | decide | omega) (by first | decide | omega) (by first | decide | omega) rfl rfl (Nat.le_of_ble_eq_true rfl) (c_X11_isDay E S G day (by first | decide | omega) (by first | decide | omega)) ?_
      rintro _ _ _ ⟨rfl, rfl, z65, rfl, (⟨rfl, f66, f67⟩ | ⟨rfl, f68⟩)⟩
      · skip
        refine r_if_ne hX hP rfl (tgt := 24) rfl (by first | decide | omega) (by first | decide | omega) (fun c69 => ?_) (fun c69 => ?_)
        · skip
          refine r_ex hX hP 3 (pc' := 27) (st' := [(0, 0), (0, 0), (0, 0), (0, 1), (2, this)]) (lo' := [(0, (2, this)), (1, (0, paper)), (2, (0, day))]) rfl ?_
          refine r_callS gd hX hP rfl cs_X11_112 (d' := 0) (mc' := 0) (ms' := 0) (as' := [(0, 1), (0, 0), (0, 0), (0, 0)]) (st := [(2, this)]) (by first | decide | omega) (by first | decide | omega) (by first | decide | omega) rfl rfl (Nat.le_of_ble_eq_true rfl) (c_X11_first E S G 1 0 0 0 (by first | decide | omega) (by first | decide | omega) (by first | decide | omega) (by first | decide | omega) (by first | decide | omega) (by first | decide | omega) (by first | decide | omega) (by first | decide | omega)) ?_
          rintro _ _ _ ⟨rfl, rfl, z70, rfl, (⟨rfl, f71⟩ | ⟨rfl, f72, f73⟩ | ⟨rfl, f74, f75, f76⟩ | ⟨rfl, f77, f78, f79, f80⟩ | ⟨rfl, f81, f82, f83, f84⟩)⟩
          · skip
            refine r_callV gd hX hP rfl cv_X11_90_128 hS (d' := 0) (mc' := 0) (ms' := 0) (as' := [(0, 1)]) (st := []) (by first | decide | omega) (by first | decide | omega) (by first | decide | omega) rfl rfl (Nat.le_of_ble_eq_true rfl) (c_X11_refused E S G this 1 hS (by first | decide | omega) (by first | decide | omega)) ?_
            rintro _ _ _ ⟨rfl, ⟨G85, rfl⟩, z86, rfl, (⟨rfl, f87⟩ | ⟨rfl, f88⟩)⟩
            · skip
              refine r_if_eq hX hP rfl (tgt := 38) rfl (by first | decide | omega) (by first | decide | omega) (fun c89 => ?_) (fun c89 => ?_)
              · skip
                exfalso; omega
              · skip
                refine r_ex hX hP 1 (pc' := 37) (st' := [(0, (-1))]) (lo' := [(0, (2, this)), (1, (0, paper)), (2, (0, day))]) rfl ?_
                exact r_retI hX hP rfl rfl (by first | decide | omega) (by first | decide | omega) ⟨rfl, ⟨_, (hw_sub (hw_refl _ _) rfl).symm⟩, (-1), rfl, (by first | decide | omega), (by first | decide | omega), (by rw [tCld_if]; first | (rw [if_pos (by first | decide | omega)]; omega) | rw [if_neg (by first | decide | omega)])⟩
            · skip
              exfalso; omega
          · skip
            exfalso; omega
          · skip
            exfalso; omega
          · skip
            exfalso; omega
          · skip
            exfalso; omega
        · skip
          exfalso; omega
      · skip
        refine r_if_ne hX hP rfl (tgt := 24) rfl (by first | decide | omega) (by first | decide | omega) (fun c90 => ?_) (fun c90 => ?_)
        · skip
          exfalso; omega
        · skip
          refine r_ex hX hP 4 (pc' := 27) (st' := [(0, 0), (0, 0), (0, 1), (0, 1), (2, this)]) (lo' := [(0, (2, this)), (1, (0, paper)), (2, (0, day))]) rfl ?_
          refine r_callS gd hX hP rfl cs_X11_112 (d' := 0) (mc' := 0) (ms' := 0) (as' := [(0, 1), (0, 1), (0, 0), (0, 0)]) (st := [(2, this)]) (by first | decide | omega) (by first | decide | omega) (by first | decide | omega) rfl rfl (Nat.le_of_ble_eq_true rfl) (c_X11_first E S G 1 1 0 0 (by first | decide | omega) (by first | decide | omega) (by first | decide | omega) (by first | decide | omega) (by first | decide | omega) (by first | decide | omega) (by first | decide | omega) (by first | decide | omega)) ?_
          rintro _ _ _ ⟨rfl, rfl, z91, rfl, (⟨rfl, f92⟩ | ⟨rfl, f93, f94⟩ | ⟨rfl, f95, f96, f97⟩ | ⟨rfl, f98, f99, f100, f101⟩ | ⟨rfl, f102, f103, f104, f105⟩)⟩
          · skip
            refine r_callV gd hX hP rfl cv_X11_90_128 hS (d' := 0) (mc' := 0) (ms' := 0) (as' := [(0, 1)]) (st := []) (by first | decide | omega) (by first | decide | omega) (by first | decide | omega) rfl rfl (Nat.le_of_ble_eq_true rfl) (c_X11_refused E S G this 1 hS (by first | decide | omega) (by first | decide | omega)) ?_
            rintro _ _ _ ⟨rfl, ⟨G106, rfl⟩, z107, rfl, (⟨rfl, f108⟩ | ⟨rfl, f109⟩)⟩
            · skip
              refine r_if_eq hX hP rfl (tgt := 38) rfl (by first | decide | omega) (by first | decide | omega) (fun c110 => ?_) (fun c110 => ?_)
              · skip
                exfalso; omega
              · skip
                refine r_ex hX hP 1 (pc' := 37) (st' := [(0, (-1))]) (lo' := [(0, (2, this)), (1, (0, paper)), (2, (0, day))]) rfl ?_
                exact r_retI hX hP rfl rfl (by first | decide | omega) (by first | decide | omega) ⟨rfl, ⟨_, (hw_sub (hw_refl _ _) rfl).symm⟩, (-1), rfl, (by first | decide | omega), (by first | decide | omega), (by rw [tCld_if]; first | (rw [if_pos (by first | decide | omega)]; omega) | rw [if_neg (by first | decide | omega)])⟩
            · skip
              exfalso; omega
          · skip
            exfalso; omega
          · skip
            exfalso; omega
          · skip
            exfalso; omega
          · skip
            exfalso; omega
