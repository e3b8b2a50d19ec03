set_option maxRecDepth 100000 in
set_option maxHeartbeats 4000000 in
theorem c_X11_findT (E : En) (S : Sg) (G : Gh) (this : Int) (name_ : Int) (day : Int) (k : Int) (hS : S this = 128) (na : Int) (na_e : na = G 128 this 11) (na_s : S na = 159) (nan : Int) (nan_e : nan = G 159 na 2) (run : Int) (run_e : run = G 128 this 17) (run_s : S run = 129) (aso : Int) (aso_e : aso = G 129 run 0) (name__a : (-2147483648) ≤ name_) (name__b : name_ ≤ 2147483647) (day_a : (-2147483648) ≤ day) (day_b : day ≤ 2147483647) (k_a : (-2147483648) ≤ k) (k_b : k ≤ 2147483647) (ci : CI E S G) (t : Tz) (q4 : ∀ i : Int, 0 ≤ i → i < nan → G 141 (elm S G 159 na i) 2 = t 30 i ∧ G 141 (elm S G 159 na i) 3 = t 31 i ∧ G 141 (elm S G 159 na i) 4 = t 32 i ∧ G 141 (elm S G 159 na i) 0 = t 33 i ∧ G 141 (elm S G 159 na i) 1 = -1) (t6 : t 6 0 = nan) (t9 : aso = t 9 0) : Calls E mX11_find [(2, this), (0, name_), (0, day), (0, k)] S G 4 0 0 (fun r S' G' => S = S' ∧ (∃ G1, hw [(128, 0)] G G1 = G') ∧ ∃ z : Int, r = some (0, z) ∧ (-2147483648) ≤ z ∧ z ≤ 2147483647 ∧ z = tFnd t name_ day k) := by
  refine calls_by [(0, (2, this)), (1, (0, name_)), (2, (0, day)), (3, (0, k))] rfl rfl (Nat.le_of_ble_eq_true rfl) (fun X hX => ?_)
  have hP := hPX11_find
  refine r_peekI hX (tl_159 2 rfl (by decide)) na_s (fun nan_o nan_oe nan_oa nan_ob => ?_)
  obtain rfl : nan = nan_o := nan_e.trans nan_oe.symm
  refine r_peekI hX (tl_129 0 rfl (by decide)) run_s (fun aso_o aso_oe aso_oa aso_ob => ?_)
  obtain rfl : aso = aso_o := aso_e.trans aso_oe.symm
  refine r_ex hX hP 4 (pc' := 6) (st' := [(0, 9999), (0, 0), (0, name_), (2, this)]) (lo' := [(0, (2, this)), (1, (0, name_)), (2, (0, day)), (3, (0, k))]) rfl ?_
  refine r_callS gd hX hP rfl cs_X11_103 (d' := 0) (mc' := 0) (ms' := 0) (as' := [(0, name_), (0, 0), (0, 9999)]) (st := [(2, this)]) (by first | decide | omega) (by first | decide | omega) (by first | decide | omega) rfl rfl (Nat.le_of_ble_eq_true rfl) (c_X11_within E S G name_ 0 9999 (by first | decide | omega) (by first | decide | omega) (by first | decide | omega) (by first | decide | omega) (by first | decide | omega) (by first | decide | omega)) ?_
  rintro _ _ _ ⟨rfl, rfl, z1, rfl, (⟨rfl, f2, f3⟩ | ⟨rfl, f4⟩)⟩
  · skip
    refine r_if_eq hX hP rfl (tgt := 23) rfl (by first | decide | omega) (by first | decide | omega) (fun c5 => ?_) (fun c5 => ?_)
    · skip
      exfalso; omega
    · skip
      refine r_ex hX hP 1 (pc' := 13) (st' := [(0, day), (2, this)]) (lo' := [(0, (2, this)), (1, (0, name_)), (2, (0, day)), (3, (0, k))]) rfl ?_
      refine r_callS gd hX hP rfl cs_X11_86 (d' := 1) (mc' := 0) (ms' := 0) (as' := [(0, day)]) (st := [(2, this)]) (by first | decide | omega) (by first | decide | omega) (by first | decide | omega) rfl rfl (Nat.le_of_ble_eq_true rfl) (c_X11_isDay E S G day (by first | decide | omega) (by first | decide | omega)) ?_
      rintro _ _ _ ⟨rfl, rfl, z6, rfl, (⟨rfl, f7, f8⟩ | ⟨rfl, f9⟩)⟩
      · skip
        refine r_if_eq hX hP rfl (tgt := 23) rfl (by first | decide | omega) (by first | decide | omega) (fun c10 => ?_) (fun c10 => ?_)
        · skip
          exfalso; omega
        · skip
          refine r_ex hX hP 2 (pc' := 24) (st' := [(0, 0), (2, this)]) (lo' := [(0, (2, this)), (1, (0, name_)), (2, (0, day)), (3, (0, k))]) rfl ?_
          refine r_callV gd hX hP rfl cv_X11_90_128 hS (d' := 0) (mc' := 0) (ms' := 0) (as' := [(0, 0)]) (st := []) (by first | decide | omega) (by first | decide | omega) (by first | decide | omega) rfl rfl (Nat.le_of_ble_eq_true rfl) (c_X11_refused E S G this 0 hS (by first | decide | omega) (by first | decide | omega)) ?_
          rintro _ _ _ ⟨rfl, ⟨G11, rfl⟩, z12, rfl, (⟨rfl, f13⟩ | ⟨rfl, f14⟩)⟩
          · skip
            exfalso; omega
          · skip
            refine r_if_eq hX hP rfl (tgt := 32) rfl (by first | decide | omega) (by first | decide | omega) (fun c15 => ?_) (fun c15 => ?_)
            · skip
              refine r_ex hX hP 6 (pc' := 41) (st' := []) (lo' := [(0, (2, this)), (1, (0, name_)), (2, (0, day)), (3, (0, k)), (4, (0, (-1))), (5, (0, 0)), (6, (0, 0))]) rfl ?_
              have loop41 : ∀ (nF : Nat) (l4_h41 l5_h41 l6_h41 : Int), (-1) ≤ l4_h41 → l4_h41 ≤ 19 → 0 ≤ l5_h41 → l5_h41 ≤ 20 → 0 ≤ l6_h41 → l6_h41 ≤ 20 → l5_h41 ≤ l6_h41 → ((l4_h41 = -1 ∧ fndF t name_ day (20 - l6_h41).toNat l6_h41 (k - l5_h41) = fndF t name_ day 20 0 k) ∨ (0 ≤ l4_h41 ∧ l4_h41 = fndF t name_ day 20 0 k)) → 20 - l6_h41 < (nF : Int) → X 0 0 41 [] [(0, (2, this)), (1, (0, name_)), (2, (0, day)), (3, (0, k)), (4, (0, l4_h41)), (5, (0, l5_h41)), (6, (0, l6_h41))] S (hw [(128, 0)] G G11) := by
                intro nF
                induction nF with
                | zero => intro l4_h41 l5_h41 l6_h41 yh41_0 yh41_1 yh41_2 yh41_3 yh41_4 yh41_5 yh41_6 yh41_7 ym41; exfalso; omega
                | succ nF ih41 =>
                  intro l4_h41 l5_h41 l6_h41 yh41_0 yh41_1 yh41_2 yh41_3 yh41_4 yh41_5 yh41_6 yh41_7 ym41
                  refine r_ex hX hP 2 (pc' := 45) (st' := [(0, 20), (0, l6_h41)]) (lo' := [(0, (2, this)), (1, (0, name_)), (2, (0, day)), (3, (0, k)), (4, (0, l4_h41)), (5, (0, l5_h41)), (6, (0, l6_h41))]) rfl ?_
                  refine r_ic_ge hX hP rfl (tgt := 84) rfl (by first | decide | omega) (by first | decide | omega) (by first | decide | omega) (by first | decide | omega) (fun c16 => ?_) (fun c16 => ?_)
                  · skip
                    refine r_ex hX hP 3 (pc' := 88) (st' := [(0, (-1)), (0, l4_h41), (2, this)]) (lo' := [(0, (2, this)), (1, (0, name_)), (2, (0, day)), (3, (0, k)), (4, (0, l4_h41)), (5, (0, l5_h41)), (6, (0, l6_h41))]) rfl ?_
                    refine r_ic_ne hX hP rfl (tgt := 95) rfl (by first | decide | omega) (by first | decide | omega) (by first | decide | omega) (by first | decide | omega) (fun c17 => ?_) (fun c17 => ?_)
                    · skip
                      refine r_ex hX hP 1 (pc' := 96) (st' := [(0, 0), (2, this)]) (lo' := [(0, (2, this)), (1, (0, name_)), (2, (0, day)), (3, (0, k)), (4, (0, l4_h41)), (5, (0, l5_h41)), (6, (0, l6_h41))]) rfl ?_
                      refine r_callV gd hX hP rfl cv_X11_90_128 hS (d' := 0) (mc' := 0) (ms' := 0) (as' := [(0, 0)]) (st := []) (by first | decide | omega) (by first | decide | omega) (by first | decide | omega) rfl rfl (Nat.le_of_ble_eq_true rfl) (c_X11_refused E S (hw [(128, 0)] G G11) this 0 hS (by first | decide | omega) (by first | decide | omega)) ?_
                      rintro _ _ _ ⟨rfl, ⟨G18, rfl⟩, z19, rfl, (⟨rfl, f20⟩ | ⟨rfl, f21⟩)⟩
                      · skip
                        exfalso; omega
                      · skip
                        refine r_ex hX hP 2 (pc' := 102) (st' := [(0, l4_h41)]) (lo' := [(0, (2, this)), (1, (0, name_)), (2, (0, day)), (3, (0, k)), (4, (0, l4_h41)), (5, (0, l5_h41)), (6, (0, l6_h41))]) rfl ?_
                        exact r_retI hX hP rfl rfl (by first | decide | omega) (by first | decide | omega) ⟨rfl, ⟨_, (hw_sub (hw_sub (hw_refl _ _) rfl) rfl).symm⟩, l4_h41, rfl, (by first | decide | omega), (by first | decide | omega), (by rw [tFnd_if]; first | (rw [if_neg (by first | decide | omega)]; done) | (rw [if_pos (by first | decide | omega)]; first | omega | (have q := fnd_end (t := t) (n := name_) (d := day) (p := l6_h41) (k := k - l5_h41) (by first | decide | omega); omega)))⟩
                    · skip
                      refine r_ex hX hP 2 (pc' := 96) (st' := [(0, 5), (2, this)]) (lo' := [(0, (2, this)), (1, (0, name_)), (2, (0, day)), (3, (0, k)), (4, (0, l4_h41)), (5, (0, l5_h41)), (6, (0, l6_h41))]) rfl ?_
                      refine r_callV gd hX hP rfl cv_X11_90_128 hS (d' := 0) (mc' := 0) (ms' := 0) (as' := [(0, 5)]) (st := []) (by first | decide | omega) (by first | decide | omega) (by first | decide | omega) rfl rfl (Nat.le_of_ble_eq_true rfl) (c_X11_refused E S (hw [(128, 0)] G G11) this 5 hS (by first | decide | omega) (by first | decide | omega)) ?_
                      rintro _ _ _ ⟨rfl, ⟨G22, rfl⟩, z23, rfl, (⟨rfl, f24⟩ | ⟨rfl, f25⟩)⟩
                      · skip
                        refine r_ex hX hP 2 (pc' := 102) (st' := [(0, l4_h41)]) (lo' := [(0, (2, this)), (1, (0, name_)), (2, (0, day)), (3, (0, k)), (4, (0, l4_h41)), (5, (0, l5_h41)), (6, (0, l6_h41))]) rfl ?_
                        exact r_retI hX hP rfl rfl (by first | decide | omega) (by first | decide | omega) ⟨rfl, ⟨_, (hw_sub (hw_sub (hw_refl _ _) rfl) rfl).symm⟩, l4_h41, rfl, (by first | decide | omega), (by first | decide | omega), (by rw [tFnd_if]; first | (rw [if_neg (by first | decide | omega)]; done) | (rw [if_pos (by first | decide | omega)]; first | omega | (have q := fnd_end (t := t) (n := name_) (d := day) (p := l6_h41) (k := k - l5_h41) (by first | decide | omega); omega)))⟩
                      · skip
                        exfalso; omega
                  · skip
                    refine r_ex hX hP 2 (pc' := 51) (st' := [(0, (-1)), (0, l4_h41)]) (lo' := [(0, (2, this)), (1, (0, name_)), (2, (0, day)), (3, (0, k)), (4, (0, l4_h41)), (5, (0, l5_h41)), (6, (0, l6_h41))]) rfl ?_
                    refine r_ic_ne hX hP rfl (tgt := 84) rfl (by first | decide | omega) (by first | decide | omega) (by first | decide | omega) (by first | decide | omega) (fun c26 => ?_) (fun c26 => ?_)
                    · skip
                      refine r_ex hX hP 3 (pc' := 88) (st' := [(0, (-1)), (0, l4_h41), (2, this)]) (lo' := [(0, (2, this)), (1, (0, name_)), (2, (0, day)), (3, (0, k)), (4, (0, l4_h41)), (5, (0, l5_h41)), (6, (0, l6_h41))]) rfl ?_
                      refine r_ic_ne hX hP rfl (tgt := 95) rfl (by first | decide | omega) (by first | decide | omega) (by first | decide | omega) (by first | decide | omega) (fun c27 => ?_) (fun c27 => ?_)
                      · skip
                        refine r_ex hX hP 1 (pc' := 96) (st' := [(0, 0), (2, this)]) (lo' := [(0, (2, this)), (1, (0, name_)), (2, (0, day)), (3, (0, k)), (4, (0, l4_h41)), (5, (0, l5_h41)), (6, (0, l6_h41))]) rfl ?_
                        refine r_callV gd hX hP rfl cv_X11_90_128 hS (d' := 0) (mc' := 0) (ms' := 0) (as' := [(0, 0)]) (st := []) (by first | decide | omega) (by first | decide | omega) (by first | decide | omega) rfl rfl (Nat.le_of_ble_eq_true rfl) (c_X11_refused E S (hw [(128, 0)] G G11) this 0 hS (by first | decide | omega) (by first | decide | omega)) ?_
                        rintro _ _ _ ⟨rfl, ⟨G28, rfl⟩, z29, rfl, (⟨rfl, f30⟩ | ⟨rfl, f31⟩)⟩
                        · skip
                          exfalso; omega
                        · skip
                          refine r_ex hX hP 2 (pc' := 102) (st' := [(0, l4_h41)]) (lo' := [(0, (2, this)), (1, (0, name_)), (2, (0, day)), (3, (0, k)), (4, (0, l4_h41)), (5, (0, l5_h41)), (6, (0, l6_h41))]) rfl ?_
                          exact r_retI hX hP rfl rfl (by first | decide | omega) (by first | decide | omega) ⟨rfl, ⟨_, (hw_sub (hw_sub (hw_refl _ _) rfl) rfl).symm⟩, l4_h41, rfl, (by first | decide | omega), (by first | decide | omega), (by rw [tFnd_if]; first | (rw [if_neg (by first | decide | omega)]; done) | (rw [if_pos (by first | decide | omega)]; first | omega | (have q := fnd_end (t := t) (n := name_) (d := day) (p := l6_h41) (k := k - l5_h41) (by first | decide | omega); omega)))⟩
                      · skip
                        exfalso; omega
                    · skip
                      refine r_ex hX hP 3 (pc' := 58) (st' := [(0, day), (0, l6_h41), (2, this)]) (lo' := [(0, (2, this)), (1, (0, name_)), (2, (0, day)), (3, (0, k)), (4, (0, l4_h41)), (5, (0, l5_h41)), (6, (0, l6_h41))]) rfl ?_
                      have ci32 : CI E S (hw [(128, 0)] G G11) := (ci_hw ci rfl)
                      refine r_callV gd hX hP rfl cv_X11_417_128 hS (d' := 3) (mc' := 0) (ms' := 0) (as' := [(0, l6_h41), (0, day)]) (st := []) (by first | decide | omega) (by first | decide | omega) (by first | decide | omega) rfl rfl (Nat.le_of_ble_eq_true rfl) (c_X11_nameOfT E S (hw [(128, 0)] G G11) this l6_h41 day hS na na_e na_s nan nan_e run run_e run_s aso aso_e (by first | decide | omega) (by first | decide | omega) (by first | decide | omega) (by first | decide | omega) ci32 t (fun i h0 h1 => by rw [elk_159 ci na_s (frm_tr (frm_refl gk159 S G) (frm_hw rfl)) h0 (by rw [← nan_e]; exact h1)]; exact q4 i h0 h1) t6 t9) ?_
                      rintro _ _ _ ⟨rfl, rfl, z33, rfl, z33a, z33b, f34⟩
                      have k35 := fnd_go (t := t) (n := name_) (d := day) (p := l6_h41) (k := k - l5_h41) (by first | decide | omega) (by first | decide | omega)
                      have k36 : fndF t name_ day (20 - l6_h41).toNat l6_h41 (k - l5_h41) = if cldV t l6_h41 day = name_ then (if k - l5_h41 = 0 then l6_h41 else fndF t name_ day (20 - (l6_h41 + 1)).toNat (l6_h41 + 1) (k - (l5_h41 + 1))) else fndF t name_ day (20 - (l6_h41 + 1)).toNat (l6_h41 + 1) (k - l5_h41) := by rw [show k - (l5_h41 + 1) = k - l5_h41 - 1 from by omega]; exact fnd_go (by first | decide | omega) (by first | decide | omega)
                      refine r_ex hX hP 1 (pc' := 62) (st' := [(0, name_), (0, z33)]) (lo' := [(0, (2, this)), (1, (0, name_)), (2, (0, day)), (3, (0, k)), (4, (0, l4_h41)), (5, (0, l5_h41)), (6, (0, l6_h41))]) rfl ?_
                      refine r_ic_ne hX hP rfl (tgt := 78) rfl (by first | decide | omega) (by first | decide | omega) (by first | decide | omega) (by first | decide | omega) (fun c37 => ?_) (fun c37 => ?_)
                      · skip
                        refine r_ex hX hP 2 (pc' := 41) (st' := []) (lo' := [(0, (2, this)), (1, (0, name_)), (2, (0, day)), (3, (0, k)), (4, (0, l4_h41)), (5, (0, l5_h41)), (6, (0, (l6_h41 + 1)))]) rfl ?_
                        exact ih41 l4_h41 l5_h41 (l6_h41 + 1) (by first | decide | omega) (by first | decide | omega) (by first | decide | omega) (by first | decide | omega) (by first | decide | omega) (by first | decide | omega) (by first | decide | omega) (by rw [if_neg (by first | decide | omega)] at k36; exact Or.inl ⟨by omega, by omega⟩) (by first | decide | omega)
                      · skip
                        refine r_ex hX hP 2 (pc' := 68) (st' := [(0, k), (0, l5_h41)]) (lo' := [(0, (2, this)), (1, (0, name_)), (2, (0, day)), (3, (0, k)), (4, (0, l4_h41)), (5, (0, l5_h41)), (6, (0, l6_h41))]) rfl ?_
                        refine r_ic_ne hX hP rfl (tgt := 75) rfl (by first | decide | omega) (by first | decide | omega) (by first | decide | omega) (by first | decide | omega) (fun c38 => ?_) (fun c38 => ?_)
                        · skip
                          refine r_ex hX hP 3 (pc' := 41) (st' := []) (lo' := [(0, (2, this)), (1, (0, name_)), (2, (0, day)), (3, (0, k)), (4, (0, l4_h41)), (5, (0, (l5_h41 + 1))), (6, (0, (l6_h41 + 1)))]) rfl ?_
                          exact ih41 l4_h41 (l5_h41 + 1) (l6_h41 + 1) (by first | decide | omega) (by first | decide | omega) (by first | decide | omega) (by first | decide | omega) (by first | decide | omega) (by first | decide | omega) (by first | decide | omega) (by rw [if_pos (by first | decide | omega), if_neg (by first | decide | omega)] at k36; exact Or.inl ⟨by omega, by omega⟩) (by first | decide | omega)
                        · skip
                          refine r_ex hX hP 5 (pc' := 41) (st' := []) (lo' := [(0, (2, this)), (1, (0, name_)), (2, (0, day)), (3, (0, k)), (4, (0, l6_h41)), (5, (0, (l5_h41 + 1))), (6, (0, (l6_h41 + 1)))]) rfl ?_
                          exact ih41 l6_h41 (l5_h41 + 1) (l6_h41 + 1) (by first | decide | omega) (by first | decide | omega) (by first | decide | omega) (by first | decide | omega) (by first | decide | omega) (by first | decide | omega) (by first | decide | omega) (by rw [if_pos (by first | decide | omega), if_pos (by first | decide | omega)] at k36; exact Or.inr ⟨by omega, by omega⟩) (by first | decide | omega)
              exact loop41 ((20 - 0) + 1 : Int).toNat (-1) 0 0 (by first | decide | omega) (by first | decide | omega) (by first | decide | omega) (by first | decide | omega) (by first | decide | omega) (by first | decide | omega) (by first | decide | omega) (Or.inl ⟨by omega, by rw [show k - 0 = k from by omega]; rfl⟩) (by first | decide | omega)
            · skip
              exfalso; omega
      · skip
        refine r_if_eq hX hP rfl (tgt := 23) rfl (by first | decide | omega) (by first | decide | omega) (fun c39 => ?_) (fun c39 => ?_)
        · skip
          refine r_ex hX hP 1 (pc' := 24) (st' := [(0, 2), (2, this)]) (lo' := [(0, (2, this)), (1, (0, name_)), (2, (0, day)), (3, (0, k))]) rfl ?_
          refine r_callV gd hX hP rfl cv_X11_90_128 hS (d' := 0) (mc' := 0) (ms' := 0) (as' := [(0, 2)]) (st := []) (by first | decide | omega) (by first | decide | omega) (by first | decide | omega) rfl rfl (Nat.le_of_ble_eq_true rfl) (c_X11_refused E S G this 2 hS (by first | decide | omega) (by first | decide | omega)) ?_
          rintro _ _ _ ⟨rfl, ⟨G40, rfl⟩, z41, rfl, (⟨rfl, f42⟩ | ⟨rfl, f43⟩)⟩
          · skip
            refine r_if_eq hX hP rfl (tgt := 32) rfl (by first | decide | omega) (by first | decide | omega) (fun c44 => ?_) (fun c44 => ?_)
            · skip
              exfalso; omega
            · skip
              refine r_ex hX hP 1 (pc' := 31) (st' := [(0, (-1))]) (lo' := [(0, (2, this)), (1, (0, name_)), (2, (0, day)), (3, (0, k))]) rfl ?_
              exact r_retI hX hP rfl rfl (by first | decide | omega) (by first | decide | omega) ⟨rfl, ⟨_, (hw_sub (hw_refl _ _) rfl).symm⟩, (-1), rfl, (by first | decide | omega), (by first | decide | omega), (by rw [tFnd_if]; first | (rw [if_neg (by first | decide | omega)]; done) | (rw [if_pos (by first | decide | omega)]; first | omega | (have q := fnd_end (t := t) (n := name_) (d := day) (p := 0) (k := k - 0) (by first | decide | omega); omega)))⟩
          · skip
            exfalso; omega
        · skip
          exfalso; omega
  · skip
    refine r_if_eq hX hP rfl (tgt := 23) rfl (by first | decide | omega) (by first | decide | omega) (fun c45 => ?_) (fun c45 => ?_)
    · skip
      refine r_ex hX hP 1 (pc' := 24) (st' := [(0, 2), (2, this)]) (lo' := [(0, (2, this)), (1, (0, name_)), (2, (0, day)), (3, (0, k))]) rfl ?_
      refine r_callV gd hX hP rfl cv_X11_90_128 hS (d' := 0) (mc' := 0) (ms' := 0) (as' := [(0, 2)]) (st := []) (by first | decide | omega) (by first | decide | omega) (by first | decide | omega) rfl rfl (Nat.le_of_ble_eq_true rfl) (c_X11_refused E S G this 2 hS (by first | decide | omega) (by first | decide | omega)) ?_
      rintro _ _ _ ⟨rfl, ⟨G46, rfl⟩, z47, rfl, (⟨rfl, f48⟩ | ⟨rfl, f49⟩)⟩
      · skip
        refine r_if_eq hX hP rfl (tgt := 32) rfl (by first | decide | omega) (by first | decide | omega) (fun c50 => ?_) (fun c50 => ?_)
        · skip
          exfalso; omega
        · skip
          refine r_ex hX hP 1 (pc' := 31) (st' := [(0, (-1))]) (lo' := [(0, (2, this)), (1, (0, name_)), (2, (0, day)), (3, (0, k))]) rfl ?_
          exact r_retI hX hP rfl rfl (by first | decide | omega) (by first | decide | omega) ⟨rfl, ⟨_, (hw_sub (hw_refl _ _) rfl).symm⟩, (-1), rfl, (by first | decide | omega), (by first | decide | omega), (by rw [tFnd_if]; first | (rw [if_neg (by first | decide | omega)]; done) | (rw [if_pos (by first | decide | omega)]; first | omega | (have q := fnd_end (t := t) (n := name_) (d := day) (p := 0) (k := k - 0) (by first | decide | omega); omega)))⟩
      · skip
        exfalso; omega
    · skip
      exfalso; omega
