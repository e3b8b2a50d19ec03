theorem cld_go {t : Tz} {p d k b n : Int} (e : t 6 0 = n) (h : k < n) : cldF t p d (n - k).toNat k b = cldF t p d (n - (k + 1)).toNat (k + 1) (if t 30 k = p ∧ t 33 k ≤ t 9 0 ∧ t 31 k ≤ d ∧ (b < 0 ∨ t 31 b ≤ t 31 k) then k else b) := by
  obtain ⟨j, hj⟩ : ∃ j : Nat, (n - k).toNat = j + 1 := ⟨(n - k).toNat - 1, by omega⟩
  rw [hj, show (n - (k + 1)).toNat = j by omega]
  show (if k < t 6 0 then _ else b) = _
  rw [if_pos (by first | decide | omega)]
theorem cld_end {t : Tz} {p d k b n : Int} (h : n ≤ k) : cldF t p d (n - k).toNat k b = b := by
  rw [show (n - k).toNat = 0 by omega]
  rfl
theorem tCld_if (t : Tz) (p d : Int) : tCld t p d = if (0 ≤ p ∧ p ≤ 19) ∧ (0 ≤ d ∧ d ≤ 40000) then cldV t p d else -1 := by
  unfold tCld iPap iDay
  by_cases a : 0 ≤ p ∧ p ≤ 19
  · rw [if_pos (decide_eq_true a)]
    by_cases b : 0 ≤ d ∧ d ≤ 40000
    · rw [if_pos (decide_eq_true b), if_pos ⟨a, b⟩]
    · rw [if_neg (by rw [decide_eq_false b]; decide), if_neg (fun q => b q.2)]
  · rw [if_neg (by rw [decide_eq_false a]; decide), if_neg (fun q => a q.1)]
theorem tFnd_if (t : Tz) (n d k : Int) : tFnd t n d k = if (0 ≤ n ∧ n ≤ 9999) ∧ (0 ≤ d ∧ d ≤ 40000) then fndF t n d 20 0 k else -1 := by
  unfold tFnd iDay
  by_cases a : 0 ≤ n ∧ n ≤ 9999
  · rw [if_pos a]
    by_cases b : 0 ≤ d ∧ d ≤ 40000
    · rw [if_pos (decide_eq_true b), if_pos ⟨a, b⟩]
    · rw [if_neg (by rw [decide_eq_false b]; decide), if_neg (fun q => b q.2)]
  · rw [if_neg a, if_neg (fun q => a q.1)]
theorem fnd_go {t : Tz} {n d p k : Int} (h : p < 20) (h0 : 0 ≤ p) : fndF t n d (20 - p).toNat p k = if cldV t p d = n then (if k = 0 then p else fndF t n d (20 - (p + 1)).toNat (p + 1) (k - 1)) else fndF t n d (20 - (p + 1)).toNat (p + 1) k := by
  obtain ⟨j, hj⟩ : ∃ j : Nat, (20 - p).toNat = j + 1 := ⟨(20 - p).toNat - 1, by omega⟩
  rw [hj, show (20 - (p + 1)).toNat = j by omega]
  show (if p < 20 then _ else -1) = _
  rw [if_pos h]
theorem fnd_end {t : Tz} {n d p k : Int} (h : 20 ≤ p) : fndF t n d (20 - p).toNat p k = -1 := by
  rw [show (20 - p).toNat = 0 by omega]
  rfl
theorem tl_141 (j : Nat) {t : Ty} (h : fs_141.getD j (0, 0, 0) = t) (hj : j < fs_141.length) : Tl 141 j t := ⟨2, fs_141, rfl, hj, h, by decide⟩
set_option maxRecDepth 100000 in
set_option maxHeartbeats 4000000 in
theorem c_counts_EntT (E : En) (S : Sg) (G : Gh) (this : Int) (asof : Int) (hS : S this = 141) (kn : Int) (kn_e : kn = G 141 this 0) (sk : Int) (sk_e : sk = G 141 this 1) (asof_a : (-2147483648) ≤ asof) (asof_b : asof ≤ 2147483647) : Calls E mX10_counts [(2, this), (0, asof)] S G 0 0 0 (fun r S' G' => S = S' ∧ G = G' ∧ ∃ z : Int, r = some (0, z) ∧ 0 ≤ z ∧ z ≤ 1 ∧ (((kn ≤ asof ∧ (sk = -1 ∨ asof < sk)) ∧ z = 1) ∨ (¬ (kn ≤ asof ∧ (sk = -1 ∨ asof < sk)) ∧ z = 0))) := by
  refine calls_by [(0, (2, this)), (1, (0, asof))] rfl rfl (Nat.le_of_ble_eq_true rfl) (fun X hX => ?_)
  have hP := hPX10_counts
  refine r_peekI hX (tl_141 0 rfl (by decide)) hS (fun kn_o kn_oe kn_oa kn_ob => ?_)
  obtain rfl : kn = kn_o := kn_e.trans kn_oe.symm
  refine r_peekI hX (tl_141 1 rfl (by decide)) hS (fun sk_o sk_oe sk_oa sk_ob => ?_)
  obtain rfl : sk = sk_o := sk_e.trans sk_oe.symm
  refine r_ex hX hP 1 (pc' := 1) (st' := [(2, this)]) (lo' := [(0, (2, this)), (1, (0, asof))]) rfl ?_
  refine r_getKI hX hP rfl fl_X10_15_141 hS (x := kn) kn_e ?_
  refine r_ex hX hP 1 (pc' := 5) (st' := [(0, asof), (0, kn)]) (lo' := [(0, (2, this)), (1, (0, asof))]) rfl ?_
  refine r_ic_gt hX hP rfl (tgt := 28) rfl (by first | decide | omega) (by first | decide | omega) (by first | decide | omega) (by first | decide | omega) (fun c1 => ?_) (fun c1 => ?_)
  · skip
    refine r_ex hX hP 1 (pc' := 29) (st' := [(0, 0)]) (lo' := [(0, (2, this)), (1, (0, asof))]) rfl ?_
    exact r_retZ hX hP rfl rfl (by first | decide | omega) (by first | decide | omega) (by first | decide | omega) (by first | decide | omega) ⟨rfl, rfl, 0, rfl, (by first | decide | omega), (by first | decide | omega), (by first | decide | omega)⟩
  · skip
    refine r_ex hX hP 1 (pc' := 9) (st' := [(2, this)]) (lo' := [(0, (2, this)), (1, (0, asof))]) rfl ?_
    refine r_getKI hX hP rfl fl_X10_9_141 hS (x := sk) sk_e ?_
    refine r_ex hX hP 1 (pc' := 13) (st' := [(0, (-1)), (0, sk)]) (lo' := [(0, (2, this)), (1, (0, asof))]) rfl ?_
    refine r_ic_eq hX hP rfl (tgt := 24) rfl (by first | decide | omega) (by first | decide | omega) (by first | decide | omega) (by first | decide | omega) (fun c2 => ?_) (fun c2 => ?_)
    · skip
      refine r_ex hX hP 2 (pc' := 29) (st' := [(0, 1)]) (lo' := [(0, (2, this)), (1, (0, asof))]) rfl ?_
      exact r_retZ hX hP rfl rfl (by first | decide | omega) (by first | decide | omega) (by first | decide | omega) (by first | decide | omega) ⟨rfl, rfl, 1, rfl, (by first | decide | omega), (by first | decide | omega), (by first | decide | omega)⟩
    · skip
      refine r_ex hX hP 1 (pc' := 17) (st' := [(2, this)]) (lo' := [(0, (2, this)), (1, (0, asof))]) rfl ?_
      refine r_getKI hX hP rfl fl_X10_9_141 hS (x := sk) sk_e ?_
      refine r_ex hX hP 1 (pc' := 21) (st' := [(0, asof), (0, sk)]) (lo' := [(0, (2, this)), (1, (0, asof))]) rfl ?_
      refine r_ic_le hX hP rfl (tgt := 28) rfl (by first | decide | omega) (by first | decide | omega) (by first | decide | omega) (by first | decide | omega) (fun c3 => ?_) (fun c3 => ?_)
      · skip
        refine r_ex hX hP 1 (pc' := 29) (st' := [(0, 0)]) (lo' := [(0, (2, this)), (1, (0, asof))]) rfl ?_
        exact r_retZ hX hP rfl rfl (by first | decide | omega) (by first | decide | omega) (by first | decide | omega) (by first | decide | omega) ⟨rfl, rfl, 0, rfl, (by first | decide | omega), (by first | decide | omega), (by first | decide | omega)⟩
      · skip
        refine r_ex hX hP 2 (pc' := 29) (st' := [(0, 1)]) (lo' := [(0, (2, this)), (1, (0, asof))]) rfl ?_
        exact r_retZ hX hP rfl rfl (by first | decide | omega) (by first | decide | omega) (by first | decide | omega) (by first | decide | omega) ⟨rfl, rfl, 1, rfl, (by first | decide | omega), (by first | decide | omega), (by first | decide | omega)⟩
set_option maxRecDepth 100000 in
set_option maxHeartbeats 4000000 in
theorem c_X11_nameOfT (E : En) (S : Sg) (G : Gh) (this : Int) (paper : Int) (day : Int) (hS : S this = 128) (na : Int) (na_e : na = G 128 this 11) (na_s : S na = 159) (nan : Int) (nan_e : nan = G 159 na 2) (run : Int) (run_e : run = G 128 this 17) (run_s : S run = 129) (aso : Int) (aso_e : aso = G 129 run 0) (paper_a : (-2147483648) ≤ paper) (paper_b : paper ≤ 2147483647) (day_a : (-2147483648) ≤ day) (day_b : day ≤ 2147483647) (ci : CI E S G) (t : Tz) (q4 : ∀ i : Int, 0 ≤ i → i < nan → G 141 (elm S G 159 na i) 2 = t 30 i ∧ G 141 (elm S G 159 na i) 3 = t 31 i ∧ G 141 (elm S G 159 na i) 4 = t 32 i ∧ G 141 (elm S G 159 na i) 0 = t 33 i ∧ G 141 (elm S G 159 na i) 1 = -1) (t6 : t 6 0 = nan) (t9 : aso = t 9 0) : Calls E mX11_nameOf [(2, this), (0, paper), (0, day)] S G 3 0 0 (fun r S' G' => S = S' ∧ G = G' ∧ ∃ z : Int, r = some (0, z) ∧ (-2147483648) ≤ z ∧ z ≤ 2147483647 ∧ z = cldV t paper day) := by
  refine calls_by [(0, (2, this)), (1, (0, paper)), (2, (0, day))] rfl rfl (Nat.le_of_ble_eq_true rfl) (fun X hX => ?_)
  have hP := hPX11_nameOf
  refine r_peekI hX (tl_159 2 rfl (by decide)) na_s (fun nan_o nan_oe nan_oa nan_ob => ?_)
  obtain rfl : nan = nan_o := nan_e.trans nan_oe.symm
  refine r_peekI hX (tl_129 0 rfl (by decide)) run_s (fun aso_o aso_oe aso_oa aso_ob => ?_)
  obtain rfl : aso = aso_o := aso_e.trans aso_oe.symm
  refine r_ex hX hP 6 (pc' := 8) (st' := []) (lo' := [(0, (2, this)), (1, (0, paper)), (2, (0, day)), (3, (0, (-1))), (4, (0, (-1))), (5, (0, 0))]) rfl ?_
  have loop8 : ∀ (nF : Nat) (l3_h8 l4_h8 l5_h8 : Int), (-2147483648) ≤ l3_h8 → l3_h8 ≤ 2147483647 → (-2147483648) ≤ l4_h8 → l4_h8 ≤ 2147483647 → 0 ≤ l5_h8 → l5_h8 ≤ 60 → l5_h8 ≤ nan → (∃ b : Int, b < l5_h8 ∧ ((b < 0 ∧ l3_h8 = -1 ∧ l4_h8 = -1) ∨ (0 ≤ b ∧ l3_h8 = t 32 b ∧ l4_h8 = t 31 b)) ∧ cldF t paper day (nan - l5_h8).toNat l5_h8 b = cldN t paper day) → 60 - l5_h8 < (nF : Int) → X 0 0 8 [] [(0, (2, this)), (1, (0, paper)), (2, (0, day)), (3, (0, l3_h8)), (4, (0, l4_h8)), (5, (0, l5_h8))] S G := by
    intro nF
    induction nF with
    | zero => intro l3_h8 l4_h8 l5_h8 yh8_0 yh8_1 yh8_2 yh8_3 yh8_4 yh8_5 yh8_6 yh8_7 ym8; exfalso; omega
    | succ nF ih8 =>
      intro l3_h8 l4_h8 l5_h8 yh8_0 yh8_1 yh8_2 yh8_3 yh8_4 yh8_5 yh8_6 yh8_7 ym8
      obtain ⟨b1, b11, b12, b13⟩ := yh8_7
      refine r_ex hX hP 2 (pc' := 11) (st' := [(2, this), (0, l5_h8)]) (lo' := [(0, (2, this)), (1, (0, paper)), (2, (0, day)), (3, (0, l3_h8)), (4, (0, l4_h8)), (5, (0, l5_h8))]) rfl ?_
      refine r_getKR hX hP rfl fl_X11_48_128 hS (x := na) na_e ?_
      refine r_callV gd hX hP rfl cv_X11_125_159 na_s (d' := 0) (mc' := 0) (ms' := 0) (as' := []) (st := [(0, l5_h8)]) (by first | decide | omega) (by first | decide | omega) (by first | decide | omega) rfl rfl (Nat.le_of_ble_eq_true rfl) (c_size_Lna E S G na  na_s nan nan_e) ?_
      rintro _ _ _ ⟨rfl, rfl, z2, rfl, z2a, z2b, f3⟩
      refine r_ic_ge hX hP rfl (tgt := 96) rfl (by first | decide | omega) (by first | decide | omega) (by first | decide | omega) (by first | decide | omega) (fun c4 => ?_) (fun c4 => ?_)
      · skip
        refine r_ex hX hP 1 (pc' := 97) (st' := [(0, l3_h8)]) (lo' := [(0, (2, this)), (1, (0, paper)), (2, (0, day)), (3, (0, l3_h8)), (4, (0, l4_h8)), (5, (0, l5_h8))]) rfl ?_
        have b15 : b1 = cldN t paper day := (cld_end (by first | decide | omega)).symm.trans b13
        have b16 : cldV t paper day = if cldN t paper day < 0 then -1 else t 32 (cldN t paper day) := rfl
        rw [← b15] at b16
        exact r_retI hX hP rfl rfl (by first | decide | omega) (by first | decide | omega) ⟨rfl, rfl, l3_h8, rfl, (by first | decide | omega), (by first | decide | omega), (by rw [b16]; split <;> omega)⟩
      · skip
        refine r_ex hX hP 1 (pc' := 21) (st' := [(2, this)]) (lo' := [(0, (2, this)), (1, (0, paper)), (2, (0, day)), (3, (0, l3_h8)), (4, (0, l4_h8)), (5, (0, l5_h8))]) rfl ?_
        refine r_getKR hX hP rfl fl_X11_48_128 hS (x := na) na_e ?_
        refine r_ex hX hP 1 (pc' := 26) (st' := [(0, l5_h8), (2, na)]) (lo' := [(0, (2, this)), (1, (0, paper)), (2, (0, day)), (3, (0, l3_h8)), (4, (0, l4_h8)), (5, (0, l5_h8))]) rfl ?_
        refine r_callV gd hX hP rfl cv_X11_196_159 na_s (d' := 2) (mc' := 0) (ms' := 0) (as' := [(0, l5_h8)]) (st := []) (by first | decide | omega) (by first | decide | omega) (by first | decide | omega) rfl rfl (Nat.le_of_ble_eq_true rfl) (c_get_LnaT E S G na l5_h8 na_s nan nan_e (by first | decide | omega) (by first | decide | omega) (by first | decide | omega) ci) ?_
        rintro _ _ _ ⟨rfl, rfl, z5, rfl, z5s, f6⟩
        have el7 : z5 = elm S G 159 na l5_h8 := f6
        obtain ⟨el7a, el7b, el7c, el7d, el7e⟩ := q4 l5_h8 (by first | decide | omega) (by first | decide | omega)
        rw [← el7] at el7a el7b el7c el7d el7e
        refine r_cast hX hP rfl (tbg sg3 16 rfl rfl) ck_141_X1 z5s ?_
        refine r_ex hX hP 2 (pc' := 36) (st' := [(2, z5)]) (lo' := [(0, (2, this)), (1, (0, paper)), (2, (0, day)), (3, (0, l3_h8)), (4, (0, l4_h8)), (5, (0, l5_h8)), (6, (2, z5))]) rfl ?_
        refine r_getI hX hP rfl fl_X11_289_141 z5s (fun pf8 pf8e pf8a pf8b => ?_)
        have k9 := pf8e.trans (show G 141 z5 2 = _ from el7a)
        refine r_ex hX hP 1 (pc' := 40) (st' := [(0, paper), (0, pf8)]) (lo' := [(0, (2, this)), (1, (0, paper)), (2, (0, day)), (3, (0, l3_h8)), (4, (0, l4_h8)), (5, (0, l5_h8)), (6, (2, z5))]) rfl ?_
        refine r_ic_ne hX hP rfl (tgt := 90) rfl (by first | decide | omega) (by first | decide | omega) (by first | decide | omega) (by first | decide | omega) (fun c10 => ?_) (fun c10 => ?_)
        · skip
          refine r_ex hX hP 2 (pc' := 8) (st' := []) (lo' := [(0, (2, this)), (1, (0, paper)), (2, (0, day)), (3, (0, l3_h8)), (4, (0, l4_h8)), (5, (0, (l5_h8 + 1))), (6, (2, z5))]) rfl ?_
          refine r_pick hX [0, 1, 2, 3, 4, 5] (lo' := [(0, (2, this)), (1, (0, paper)), (2, (0, day)), (3, (0, l3_h8)), (4, (0, l4_h8)), (5, (0, (l5_h8 + 1)))]) rfl ?_
          have b14 := b13
          rw [cld_go t6 (by first | decide | omega)] at b14
          rw [if_neg (by first | decide | omega)] at b14
          exact ih8 l3_h8 l4_h8 (l5_h8 + 1) (by first | decide | omega) (by first | decide | omega) (by first | decide | omega) (by first | decide | omega) (by first | decide | omega) (by first | decide | omega) (by first | decide | omega) (⟨b1, by omega, by omega, b14⟩) (by first | decide | omega)
        · skip
          refine r_ex hX hP 1 (pc' := 45) (st' := [(2, z5)]) (lo' := [(0, (2, this)), (1, (0, paper)), (2, (0, day)), (3, (0, l3_h8)), (4, (0, l4_h8)), (5, (0, l5_h8)), (6, (2, z5))]) rfl ?_
          refine r_getI hX hP rfl fl_X11_283_141 z5s (fun df11 df11e df11a df11b => ?_)
          have k12 := df11e.trans (show G 141 z5 3 = _ from el7b)
          refine r_ex hX hP 1 (pc' := 49) (st' := [(0, day), (0, df11)]) (lo' := [(0, (2, this)), (1, (0, paper)), (2, (0, day)), (3, (0, l3_h8)), (4, (0, l4_h8)), (5, (0, l5_h8)), (6, (2, z5))]) rfl ?_
          refine r_ic_gt hX hP rfl (tgt := 90) rfl (by first | decide | omega) (by first | decide | omega) (by first | decide | omega) (by first | decide | omega) (fun c13 => ?_) (fun c13 => ?_)
          · skip
            refine r_ex hX hP 2 (pc' := 8) (st' := []) (lo' := [(0, (2, this)), (1, (0, paper)), (2, (0, day)), (3, (0, l3_h8)), (4, (0, l4_h8)), (5, (0, (l5_h8 + 1))), (6, (2, z5))]) rfl ?_
            refine r_pick hX [0, 1, 2, 3, 4, 5] (lo' := [(0, (2, this)), (1, (0, paper)), (2, (0, day)), (3, (0, l3_h8)), (4, (0, l4_h8)), (5, (0, (l5_h8 + 1)))]) rfl ?_
            have b14 := b13
            rw [cld_go t6 (by first | decide | omega)] at b14
            rw [if_neg (by first | decide | omega)] at b14
            exact ih8 l3_h8 l4_h8 (l5_h8 + 1) (by first | decide | omega) (by first | decide | omega) (by first | decide | omega) (by first | decide | omega) (by first | decide | omega) (by first | decide | omega) (by first | decide | omega) (⟨b1, by omega, by omega, b14⟩) (by first | decide | omega)
          · skip
            refine r_ex hX hP 1 (pc' := 54) (st' := [(2, z5)]) (lo' := [(0, (2, this)), (1, (0, paper)), (2, (0, day)), (3, (0, l3_h8)), (4, (0, l4_h8)), (5, (0, l5_h8)), (6, (2, z5))]) rfl ?_
            refine r_getKI hX hP rfl fl_X11_283_141 z5s (x := df11) df11e ?_
            refine r_ex hX hP 1 (pc' := 59) (st' := [(0, l4_h8), (0, df11)]) (lo' := [(0, (2, this)), (1, (0, paper)), (2, (0, day)), (3, (0, l3_h8)), (4, (0, l4_h8)), (5, (0, l5_h8)), (6, (2, z5))]) rfl ?_
            refine r_ic_lt hX hP rfl (tgt := 90) rfl (by first | decide | omega) (by first | decide | omega) (by first | decide | omega) (by first | decide | omega) (fun c14 => ?_) (fun c14 => ?_)
            · skip
              refine r_ex hX hP 2 (pc' := 8) (st' := []) (lo' := [(0, (2, this)), (1, (0, paper)), (2, (0, day)), (3, (0, l3_h8)), (4, (0, l4_h8)), (5, (0, (l5_h8 + 1))), (6, (2, z5))]) rfl ?_
              refine r_pick hX [0, 1, 2, 3, 4, 5] (lo' := [(0, (2, this)), (1, (0, paper)), (2, (0, day)), (3, (0, l3_h8)), (4, (0, l4_h8)), (5, (0, (l5_h8 + 1)))]) rfl ?_
              have b14 := b13
              rw [cld_go t6 (by first | decide | omega)] at b14
              rw [if_neg (by first | decide | omega)] at b14
              exact ih8 l3_h8 l4_h8 (l5_h8 + 1) (by first | decide | omega) (by first | decide | omega) (by first | decide | omega) (by first | decide | omega) (by first | decide | omega) (by first | decide | omega) (by first | decide | omega) (⟨b1, by omega, by omega, b14⟩) (by first | decide | omega)
            · skip
              refine r_ex hX hP 2 (pc' := 65) (st' := [(2, this), (2, z5)]) (lo' := [(0, (2, this)), (1, (0, paper)), (2, (0, day)), (3, (0, l3_h8)), (4, (0, l4_h8)), (5, (0, l5_h8)), (6, (2, z5))]) rfl ?_
              refine r_getKR hX hP rfl fl_X11_16_128 hS (x := run) run_e ?_
              refine r_getKI hX hP rfl fl_X11_93_129 run_s (x := aso) aso_e ?_
              refine r_peekI hX (tl_141 0 rfl (by decide)) z5s (fun knp15 knp15e knp15a knp15b => ?_)
              refine r_peekI hX (tl_141 1 rfl (by decide)) z5s (fun stp16 stp16e stp16a stp16b => ?_)
              refine r_callU gd hX hP rfl cu_X11_282_141 z5s (d' := 0) (mc' := 0) (ms' := 0) (as' := [(0, aso)]) (st := []) (by first | decide | omega) (by first | decide | omega) (by first | decide | omega) rfl rfl (Nat.le_of_ble_eq_true rfl) (c_counts_EntT E S G z5 aso z5s knp15 knp15e stp16 stp16e (by first | decide | omega) (by first | decide | omega)) ?_
              rintro _ _ _ ⟨rfl, rfl, z17, rfl, z17a, z17b, f18⟩
              have k19 := knp15e.trans (show G 141 z5 0 = _ from el7d)
              have k20 := stp16e.trans (show G 141 z5 1 = _ from el7e)
              refine r_if_eq hX hP rfl (tgt := 90) rfl (by first | decide | omega) (by first | decide | omega) (fun c21 => ?_) (fun c21 => ?_)
              · skip
                refine r_ex hX hP 2 (pc' := 8) (st' := []) (lo' := [(0, (2, this)), (1, (0, paper)), (2, (0, day)), (3, (0, l3_h8)), (4, (0, l4_h8)), (5, (0, (l5_h8 + 1))), (6, (2, z5))]) rfl ?_
                refine r_pick hX [0, 1, 2, 3, 4, 5] (lo' := [(0, (2, this)), (1, (0, paper)), (2, (0, day)), (3, (0, l3_h8)), (4, (0, l4_h8)), (5, (0, (l5_h8 + 1)))]) rfl ?_
                have b14 := b13
                rw [cld_go t6 (by first | decide | omega)] at b14
                rw [if_neg (by first | decide | omega)] at b14
                exact ih8 l3_h8 l4_h8 (l5_h8 + 1) (by first | decide | omega) (by first | decide | omega) (by first | decide | omega) (by first | decide | omega) (by first | decide | omega) (by first | decide | omega) (by first | decide | omega) (⟨b1, by omega, by omega, b14⟩) (by first | decide | omega)
              · skip
                refine r_ex hX hP 1 (pc' := 79) (st' := [(2, z5)]) (lo' := [(0, (2, this)), (1, (0, paper)), (2, (0, day)), (3, (0, l3_h8)), (4, (0, l4_h8)), (5, (0, l5_h8)), (6, (2, z5))]) rfl ?_
                refine r_getKI hX hP rfl fl_X11_283_141 z5s (x := df11) df11e ?_
                refine r_ex hX hP 2 (pc' := 86) (st' := [(2, z5)]) (lo' := [(0, (2, this)), (1, (0, paper)), (2, (0, day)), (3, (0, l3_h8)), (4, (0, df11)), (5, (0, l5_h8)), (6, (2, z5))]) rfl ?_
                refine r_getI hX hP rfl fl_X11_313_141 z5s (fun nf22 nf22e nf22a nf22b => ?_)
                have k23 := nf22e.trans (show G 141 z5 4 = _ from el7c)
                refine r_ex hX hP 3 (pc' := 8) (st' := []) (lo' := [(0, (2, this)), (1, (0, paper)), (2, (0, day)), (3, (0, nf22)), (4, (0, df11)), (5, (0, (l5_h8 + 1))), (6, (2, z5))]) rfl ?_
                refine r_pick hX [0, 1, 2, 3, 4, 5] (lo' := [(0, (2, this)), (1, (0, paper)), (2, (0, day)), (3, (0, nf22)), (4, (0, df11)), (5, (0, (l5_h8 + 1)))]) rfl ?_
                have b14 := b13
                rw [cld_go t6 (by first | decide | omega)] at b14
                rw [if_pos (by first | decide | omega)] at b14
                exact ih8 nf22 df11 (l5_h8 + 1) (by first | decide | omega) (by first | decide | omega) (by first | decide | omega) (by first | decide | omega) (by first | decide | omega) (by first | decide | omega) (by first | decide | omega) (⟨l5_h8, by omega, by omega, b14⟩) (by first | decide | omega)
  exact loop8 ((60 - 0) + 1 : Int).toNat (-1) (-1) 0 (by first | decide | omega) (by first | decide | omega) (by first | decide | omega) (by first | decide | omega) (by first | decide | omega) (by first | decide | omega) (by first | decide | omega) (⟨-1, by omega, Or.inl ⟨by decide, rfl, rfl⟩, by rw [show nan - 0 = nan from by omega, ← t6]; rfl⟩) (by first | decide | omega)
