set_option maxRecDepth 100000 in
set_option maxHeartbeats 4000000 in
theorem c_X12_calledOfT (E : En) (S : Sg) (G : Gh) (p d : Int) (hS : S (Ad E 1) = 1) (names : Int) (names_e : names = G 1 (Ad E 1) 12) (asof : Int) (asof_e : asof = G 1 (Ad E 1) 2) (p_a : 0 ≤ p) (p_b : p ≤ 19) (d_a : (-2147483648) ≤ d) (d_b : d ≤ 2147483647) (t : Tz) (m4 : ∀ i : Int, 0 ≤ i → i < names → G 50 (Ad E 50) i = t 30 i ∧ G 52 (Ad E 52) i = t 31 i ∧ G 51 (Ad E 51) i = t 32 i ∧ G 53 (Ad E 53) i = t 33 i) (t6 : t 6 0 = names) (t9 : asof = t 9 0) : Calls E mX12_calledOf [(2, (Ad E 1)), (0, p), (0, d)] S G 0 0 0 (fun r S' G' => S = S' ∧ G = G' ∧ ∃ z : Int, r = some (0, z) ∧ (-1) ≤ z ∧ z ≤ 9999 ∧ z = cldV t p d) := by
  refine calls_by [(0, (2, (Ad E 1))), (1, (0, p)), (2, (0, d))] rfl rfl (Nat.le_of_ble_eq_true rfl) (fun X hX => ?_)
  have hP := hPX12_calledOf
  refine r_peekI hX (tl1 12 rfl (by decide)) hS (fun names_o names_oe names_oa names_ob => ?_)
  obtain rfl : names = names_o := names_e.trans names_oe.symm
  refine r_peekI hX (tl1 2 rfl (by decide)) hS (fun asof_o asof_oe asof_oa asof_ob => ?_)
  obtain rfl : asof = asof_o := asof_e.trans asof_oe.symm
  refine r_ex hX hP 4 (pc' := 5) (st' := []) (lo' := [(0, (2, (Ad E 1))), (1, (0, p)), (2, (0, d)), (3, (0, (-1))), (4, (0, 0))]) rfl ?_
  have loop5 : ∀ (nF : Nat) (l3_h5 l4_h5 : Int), (-1) ≤ l3_h5 → l3_h5 ≤ 59 → 0 ≤ l4_h5 → l4_h5 ≤ 60 → l4_h5 ≤ names → l3_h5 < l4_h5 → cldF t p d (names - l4_h5).toNat l4_h5 l3_h5 = cldN t p d → 60 - l4_h5 < (nF : Int) → X 0 0 5 [] [(0, (2, (Ad E 1))), (1, (0, p)), (2, (0, d)), (3, (0, l3_h5)), (4, (0, l4_h5))] S G := by
    intro nF
    induction nF with
    | zero => intro l3_h5 l4_h5 yh5_0 yh5_1 yh5_2 yh5_3 yh5_4 yh5_5 yh5_6 ym5; exfalso; omega
    | succ nF ih5 =>
      intro l3_h5 l4_h5 yh5_0 yh5_1 yh5_2 yh5_3 yh5_4 yh5_5 yh5_6 ym5
      refine r_ex hX hP 2 (pc' := 8) (st' := [(2, (Ad E 1)), (0, l4_h5)]) (lo' := [(0, (2, (Ad E 1))), (1, (0, p)), (2, (0, d)), (3, (0, l3_h5)), (4, (0, l4_h5))]) rfl ?_
      refine r_getKI hX hP rfl fl_12_698 hS (x := names) names_e ?_
      refine r_ic_ge hX hP rfl (tgt := 79) rfl (by first | decide | omega) (by first | decide | omega) (by first | decide | omega) (by first | decide | omega) (fun c1 => ?_) (fun c1 => ?_)
      · skip
        refine r_ex hX hP 1 (pc' := 80) (st' := [(0, l3_h5)]) (lo' := [(0, (2, (Ad E 1))), (1, (0, p)), (2, (0, d)), (3, (0, l3_h5)), (4, (0, l4_h5))]) rfl ?_
        refine r_if_ge hX hP rfl (tgt := 87) rfl (by first | decide | omega) (by first | decide | omega) (fun c2 => ?_) (fun c2 => ?_)
        · skip
          refine r_ex hX hP 1 (pc' := 88) (st' := [(2, (Ad E 1))]) (lo' := [(0, (2, (Ad E 1))), (1, (0, p)), (2, (0, d)), (3, (0, l3_h5)), (4, (0, l4_h5))]) rfl ?_
          refine r_getC hX hP rfl fl_12_167 hS (fun s3 => ?_)
          refine r_ex hX hP 1 (pc' := 92) (st' := [(0, l3_h5), (2, (Ad E 51))]) (lo' := [(0, (2, (Ad E 1))), (1, (0, p)), (2, (0, d)), (3, (0, l3_h5)), (4, (0, l4_h5))]) rfl ?_
          refine r_iald hX hP rfl al_51 s3 (by first | decide | omega) (by first | decide | omega) (fun x4 x4e x4a x4b => ?_)
          have k5 : x4 = t 32 l3_h5 := x4e.trans (m4 l3_h5 (by first | decide | omega) (by first | decide | omega)).2.2.1
          have b6 : l3_h5 = cldN t p d := (cld_end (by first | decide | omega)).symm.trans yh5_6
          have b6v : cldV t p d = if cldN t p d < 0 then -1 else t 32 (cldN t p d) := rfl
          rw [← b6] at b6v
          exact r_retI hX hP rfl rfl (by first | decide | omega) (by first | decide | omega) ⟨rfl, rfl, x4, rfl, (by first | decide | omega), (by first | decide | omega), (by rw [b6v]; split <;> omega)⟩
        · skip
          refine r_ex hX hP 2 (pc' := 93) (st' := [(0, (-1))]) (lo' := [(0, (2, (Ad E 1))), (1, (0, p)), (2, (0, d)), (3, (0, l3_h5)), (4, (0, l4_h5))]) rfl ?_
          have b7 : l3_h5 = cldN t p d := (cld_end (by first | decide | omega)).symm.trans yh5_6
          have b7v : cldV t p d = if cldN t p d < 0 then -1 else t 32 (cldN t p d) := rfl
          rw [← b7] at b7v
          exact r_retI hX hP rfl rfl (by first | decide | omega) (by first | decide | omega) ⟨rfl, rfl, (-1), rfl, (by first | decide | omega), (by first | decide | omega), (by rw [b7v]; split <;> omega)⟩
      · skip
        refine r_ex hX hP 1 (pc' := 15) (st' := [(2, (Ad E 1))]) (lo' := [(0, (2, (Ad E 1))), (1, (0, p)), (2, (0, d)), (3, (0, l3_h5)), (4, (0, l4_h5))]) rfl ?_
        refine r_getC hX hP rfl fl_12_164 hS (fun s8 => ?_)
        refine r_ex hX hP 1 (pc' := 20) (st' := [(0, l4_h5), (2, (Ad E 50))]) (lo' := [(0, (2, (Ad E 1))), (1, (0, p)), (2, (0, d)), (3, (0, l3_h5)), (4, (0, l4_h5))]) rfl ?_
        refine r_iald hX hP rfl al_50 s8 (by first | decide | omega) (by first | decide | omega) (fun x9 x9e x9a x9b => ?_)
        have k10 : x9 = t 30 l4_h5 := x9e.trans (m4 l4_h5 (by first | decide | omega) (by first | decide | omega)).1
        refine r_ex hX hP 1 (pc' := 22) (st' := [(0, p), (0, x9)]) (lo' := [(0, (2, (Ad E 1))), (1, (0, p)), (2, (0, d)), (3, (0, l3_h5)), (4, (0, l4_h5))]) rfl ?_
        refine r_ic_ne hX hP rfl (tgt := 73) rfl (by first | decide | omega) (by first | decide | omega) (by first | decide | omega) (by first | decide | omega) (fun c11 => ?_) (fun c11 => ?_)
        · skip
          refine r_ex hX hP 2 (pc' := 5) (st' := []) (lo' := [(0, (2, (Ad E 1))), (1, (0, p)), (2, (0, d)), (3, (0, l3_h5)), (4, (0, (l4_h5 + 1)))]) rfl ?_
          have b12 := yh5_6
          rw [cld_go t6 (by first | decide | omega)] at b12
          rw [if_neg (by first | decide | omega)] at b12
          exact ih5 l3_h5 (l4_h5 + 1) (by first | decide | omega) (by first | decide | omega) (by first | decide | omega) (by first | decide | omega) (by first | decide | omega) (by first | decide | omega) (b12) (by first | decide | omega)
        · skip
          refine r_ex hX hP 1 (pc' := 26) (st' := [(2, (Ad E 1))]) (lo' := [(0, (2, (Ad E 1))), (1, (0, p)), (2, (0, d)), (3, (0, l3_h5)), (4, (0, l4_h5))]) rfl ?_
          refine r_getC hX hP rfl fl_12_173 hS (fun s13 => ?_)
          refine r_ex hX hP 1 (pc' := 31) (st' := [(0, l4_h5), (2, (Ad E 53))]) (lo' := [(0, (2, (Ad E 1))), (1, (0, p)), (2, (0, d)), (3, (0, l3_h5)), (4, (0, l4_h5))]) rfl ?_
          refine r_iald hX hP rfl al_53 s13 (by first | decide | omega) (by first | decide | omega) (fun x14 x14e x14a x14b => ?_)
          have k15 : x14 = t 33 l4_h5 := x14e.trans (m4 l4_h5 (by first | decide | omega) (by first | decide | omega)).2.2.2
          refine r_ex hX hP 1 (pc' := 33) (st' := [(2, (Ad E 1)), (0, x14)]) (lo' := [(0, (2, (Ad E 1))), (1, (0, p)), (2, (0, d)), (3, (0, l3_h5)), (4, (0, l4_h5))]) rfl ?_
          refine r_getKI hX hP rfl fl_12_10 hS (x := asof) asof_e ?_
          refine r_ic_gt hX hP rfl (tgt := 73) rfl (by first | decide | omega) (by first | decide | omega) (by first | decide | omega) (by first | decide | omega) (fun c16 => ?_) (fun c16 => ?_)
          · skip
            refine r_ex hX hP 2 (pc' := 5) (st' := []) (lo' := [(0, (2, (Ad E 1))), (1, (0, p)), (2, (0, d)), (3, (0, l3_h5)), (4, (0, (l4_h5 + 1)))]) rfl ?_
            have b17 := yh5_6
            rw [cld_go t6 (by first | decide | omega)] at b17
            rw [if_neg (by first | decide | omega)] at b17
            exact ih5 l3_h5 (l4_h5 + 1) (by first | decide | omega) (by first | decide | omega) (by first | decide | omega) (by first | decide | omega) (by first | decide | omega) (by first | decide | omega) (b17) (by first | decide | omega)
          · skip
            refine r_ex hX hP 1 (pc' := 40) (st' := [(2, (Ad E 1))]) (lo' := [(0, (2, (Ad E 1))), (1, (0, p)), (2, (0, d)), (3, (0, l3_h5)), (4, (0, l4_h5))]) rfl ?_
            refine r_getC hX hP rfl fl_12_170 hS (fun s18 => ?_)
            refine r_ex hX hP 1 (pc' := 45) (st' := [(0, l4_h5), (2, (Ad E 52))]) (lo' := [(0, (2, (Ad E 1))), (1, (0, p)), (2, (0, d)), (3, (0, l3_h5)), (4, (0, l4_h5))]) rfl ?_
            refine r_iald hX hP rfl al_52 s18 (by first | decide | omega) (by first | decide | omega) (fun x19 x19e x19a x19b => ?_)
            have k20 : x19 = t 31 l4_h5 := x19e.trans (m4 l4_h5 (by first | decide | omega) (by first | decide | omega)).2.1
            refine r_ex hX hP 1 (pc' := 47) (st' := [(0, d), (0, x19)]) (lo' := [(0, (2, (Ad E 1))), (1, (0, p)), (2, (0, d)), (3, (0, l3_h5)), (4, (0, l4_h5))]) rfl ?_
            refine r_ic_gt hX hP rfl (tgt := 73) rfl (by first | decide | omega) (by first | decide | omega) (by first | decide | omega) (by first | decide | omega) (fun c21 => ?_) (fun c21 => ?_)
            · skip
              refine r_ex hX hP 2 (pc' := 5) (st' := []) (lo' := [(0, (2, (Ad E 1))), (1, (0, p)), (2, (0, d)), (3, (0, l3_h5)), (4, (0, (l4_h5 + 1)))]) rfl ?_
              have b22 := yh5_6
              rw [cld_go t6 (by first | decide | omega)] at b22
              rw [if_neg (by first | decide | omega)] at b22
              exact ih5 l3_h5 (l4_h5 + 1) (by first | decide | omega) (by first | decide | omega) (by first | decide | omega) (by first | decide | omega) (by first | decide | omega) (by first | decide | omega) (b22) (by first | decide | omega)
            · skip
              refine r_ex hX hP 1 (pc' := 51) (st' := [(0, l3_h5)]) (lo' := [(0, (2, (Ad E 1))), (1, (0, p)), (2, (0, d)), (3, (0, l3_h5)), (4, (0, l4_h5))]) rfl ?_
              refine r_if_lt hX hP rfl (tgt := 70) rfl (by first | decide | omega) (by first | decide | omega) (fun c23 => ?_) (fun c23 => ?_)
              · skip
                refine r_ex hX hP 4 (pc' := 5) (st' := []) (lo' := [(0, (2, (Ad E 1))), (1, (0, p)), (2, (0, d)), (3, (0, l4_h5)), (4, (0, (l4_h5 + 1)))]) rfl ?_
                have b24 := yh5_6
                rw [cld_go t6 (by first | decide | omega)] at b24
                rw [if_pos (by first | decide | omega)] at b24
                exact ih5 l4_h5 (l4_h5 + 1) (by first | decide | omega) (by first | decide | omega) (by first | decide | omega) (by first | decide | omega) (by first | decide | omega) (by first | decide | omega) (b24) (by first | decide | omega)
              · skip
                refine r_ex hX hP 1 (pc' := 55) (st' := [(2, (Ad E 1))]) (lo' := [(0, (2, (Ad E 1))), (1, (0, p)), (2, (0, d)), (3, (0, l3_h5)), (4, (0, l4_h5))]) rfl ?_
                refine r_getC hX hP rfl fl_12_170 hS (fun _ => ?_)
                refine r_ex hX hP 1 (pc' := 60) (st' := [(0, l4_h5), (2, (Ad E 52))]) (lo' := [(0, (2, (Ad E 1))), (1, (0, p)), (2, (0, d)), (3, (0, l3_h5)), (4, (0, l4_h5))]) rfl ?_
                refine r_ialdK hX hP rfl al_52 s18 (by first | decide | omega) (by first | decide | omega) (x := x19) x19e ?_
                refine r_ex hX hP 1 (pc' := 62) (st' := [(2, (Ad E 1)), (0, x19)]) (lo' := [(0, (2, (Ad E 1))), (1, (0, p)), (2, (0, d)), (3, (0, l3_h5)), (4, (0, l4_h5))]) rfl ?_
                refine r_getC hX hP rfl fl_12_170 hS (fun _ => ?_)
                refine r_ex hX hP 1 (pc' := 66) (st' := [(0, l3_h5), (2, (Ad E 52)), (0, x19)]) (lo' := [(0, (2, (Ad E 1))), (1, (0, p)), (2, (0, d)), (3, (0, l3_h5)), (4, (0, l4_h5))]) rfl ?_
                refine r_iald hX hP rfl al_52 s18 (by first | decide | omega) (by first | decide | omega) (fun x25 x25e x25a x25b => ?_)
                have k26 : x25 = t 31 l3_h5 := x25e.trans (m4 l3_h5 (by first | decide | omega) (by first | decide | omega)).2.1
                refine r_ic_lt hX hP rfl (tgt := 73) rfl (by first | decide | omega) (by first | decide | omega) (by first | decide | omega) (by first | decide | omega) (fun c27 => ?_) (fun c27 => ?_)
                · skip
                  refine r_ex hX hP 2 (pc' := 5) (st' := []) (lo' := [(0, (2, (Ad E 1))), (1, (0, p)), (2, (0, d)), (3, (0, l3_h5)), (4, (0, (l4_h5 + 1)))]) rfl ?_
                  have b28 := yh5_6
                  rw [cld_go t6 (by first | decide | omega)] at b28
                  rw [if_neg (by first | decide | omega)] at b28
                  exact ih5 l3_h5 (l4_h5 + 1) (by first | decide | omega) (by first | decide | omega) (by first | decide | omega) (by first | decide | omega) (by first | decide | omega) (by first | decide | omega) (b28) (by first | decide | omega)
                · skip
                  refine r_ex hX hP 4 (pc' := 5) (st' := []) (lo' := [(0, (2, (Ad E 1))), (1, (0, p)), (2, (0, d)), (3, (0, l4_h5)), (4, (0, (l4_h5 + 1)))]) rfl ?_
                  have b29 := yh5_6
                  rw [cld_go t6 (by first | decide | omega)] at b29
                  rw [if_pos (by first | decide | omega)] at b29
                  exact ih5 l4_h5 (l4_h5 + 1) (by first | decide | omega) (by first | decide | omega) (by first | decide | omega) (by first | decide | omega) (by first | decide | omega) (by first | decide | omega) (b29) (by first | decide | omega)
  exact loop5 ((60 - 0) + 1 : Int).toNat (-1) 0 (by first | decide | omega) (by first | decide | omega) (by first | decide | omega) (by first | decide | omega) (by first | decide | omega) (by first | decide | omega) (by rw [show names - 0 = names from by omega, ← t6]; rfl) (by first | decide | omega)
set_option maxRecDepth 100000 in
set_option maxHeartbeats 4000000 in
theorem c_X12_calledT (E : En) (S : Sg) (G : Gh) (p d : Int) (hS : S (Ad E 1) = 1) (names : Int) (names_e : names = G 1 (Ad E 1) 12) (asof : Int) (asof_e : asof = G 1 (Ad E 1) 2) (p_a : (-2147483648) ≤ p) (p_b : p ≤ 2147483647) (d_a : (-2147483648) ≤ d) (d_b : d ≤ 2147483647) (t : Tz) (m4 : ∀ i : Int, 0 ≤ i → i < names → G 50 (Ad E 50) i = t 30 i ∧ G 52 (Ad E 52) i = t 31 i ∧ G 51 (Ad E 51) i = t 32 i ∧ G 53 (Ad E 53) i = t 33 i) (t6 : t 6 0 = names) (t9 : asof = t 9 0) : Calls E mX12_called [(2, (Ad E 1)), (0, p), (0, d)] S G 2 0 0 (fun r S' G' => S = S' ∧ (∃ G1, hv [0, 1] [] G G1 = G') ∧ ∃ z : Int, r = some (0, z) ∧ (-2147483648) ≤ z ∧ z ≤ 2147483647 ∧ z = tCld t p d) := by
  refine calls_by [(0, (2, (Ad E 1))), (1, (0, p)), (2, (0, d))] rfl rfl (Nat.le_of_ble_eq_true rfl) (fun X hX => ?_)
  have hP := hPX12_called
  refine r_peekI hX (tl1 12 rfl (by decide)) hS (fun names_o names_oe names_oa names_ob => ?_)
  obtain rfl : names = names_o := names_e.trans names_oe.symm
  refine r_peekI hX (tl1 2 rfl (by decide)) hS (fun asof_o asof_oe asof_oa asof_ob => ?_)
  obtain rfl : asof = asof_o := asof_e.trans asof_oe.symm
  refine r_ex hX hP 2 (pc' := 2) (st' := [(0, 0), (2, (Ad E 1))]) (lo' := [(0, (2, (Ad E 1))), (1, (0, p)), (2, (0, d))]) rfl ?_
  refine r_putIK hX hP rfl fp_12_304 hS (by first | decide | omega) (by first | decide | omega) (fun h1 => ?_)
  refine r_ex hX hP 2 (pc' := 7) (st' := [(0, 0), (2, (Ad E 1))]) (lo' := [(0, (2, (Ad E 1))), (1, (0, p)), (2, (0, d))]) rfl ?_
  refine r_putIK hX hP rfl fp_12_307 hS (by first | decide | omega) (by first | decide | omega) (fun h2 => ?_)
  refine r_ex hX hP 1 (pc' := 11) (st' := [(0, p)]) (lo' := [(0, (2, (Ad E 1))), (1, (0, p)), (2, (0, d))]) rfl ?_
  refine r_callS gd hX hP rfl cs_12_331 (d' := 1) (mc' := 0) (ms' := 0) (as' := [(0, p)]) (st := []) (by first | decide | omega) (by first | decide | omega) (by first | decide | omega) rfl rfl (Nat.le_of_ble_eq_true rfl) (c_X12_isPaper E S (up (up G 1 (Ad E 1) 1 0) 1 (Ad E 1) 0 0) p (by first | decide | omega) (by first | decide | omega)) ?_
  rintro _ _ _ ⟨rfl, rfl, z3, rfl, (⟨rfl, f4, f5⟩ | ⟨rfl, f6⟩)⟩
  · skip
    refine r_if_ne hX hP rfl (tgt := 23) rfl (by first | decide | omega) (by first | decide | omega) (fun c7 => ?_) (fun c7 => ?_)
    · skip
      refine r_ex hX hP 1 (pc' := 24) (st' := [(0, d)]) (lo' := [(0, (2, (Ad E 1))), (1, (0, p)), (2, (0, d))]) rfl ?_
      refine r_callS gd hX hP rfl cs_12_317 (d' := 1) (mc' := 0) (ms' := 0) (as' := [(0, d)]) (st := []) (by first | decide | omega) (by first | decide | omega) (by first | decide | omega) rfl rfl (Nat.le_of_ble_eq_true rfl) (c_X12_isDay E S (up (up G 1 (Ad E 1) 1 0) 1 (Ad E 1) 0 0) d (by first | decide | omega) (by first | decide | omega)) ?_
      rintro _ _ _ ⟨rfl, rfl, z8, rfl, (⟨rfl, f9, f10⟩ | ⟨rfl, f11⟩)⟩
      · skip
        refine r_if_ne hX hP rfl (tgt := 36) rfl (by first | decide | omega) (by first | decide | omega) (fun c12 => ?_) (fun c12 => ?_)
        · skip
          refine r_ex hX hP 3 (pc' := 39) (st' := [(0, d), (0, p), (2, (Ad E 1))]) (lo' := [(0, (2, (Ad E 1))), (1, (0, p)), (2, (0, d))]) rfl ?_
          refine r_callV gd hX hP rfl cv_12_701 hS (d' := 0) (mc' := 0) (ms' := 0) (as' := [(0, p), (0, d)]) (st := []) (by first | decide | omega) (by first | decide | omega) (by first | decide | omega) rfl rfl (Nat.le_of_ble_eq_true rfl) (c_X12_calledOfT E S (up (up G 1 (Ad E 1) 1 0) 1 (Ad E 1) 0 0) p d hS names names_e asof asof_e (by first | decide | omega) (by first | decide | omega) (by first | decide | omega) (by first | decide | omega) t m4 t6 t9) ?_
          rintro _ _ _ ⟨rfl, rfl, z13, rfl, z13a, z13b, q14⟩
          refine r_ex hX hP 2 (pc' := 44) (st' := [(0, z13)]) (lo' := [(0, (2, (Ad E 1))), (1, (0, p)), (2, (0, d)), (3, (0, z13))]) rfl ?_
          refine r_if_ge hX hP rfl (tgt := 55) rfl (by first | decide | omega) (by first | decide | omega) (fun c15 => ?_) (fun c15 => ?_)
          · skip
            refine r_ex hX hP 1 (pc' := 56) (st' := [(0, z13)]) (lo' := [(0, (2, (Ad E 1))), (1, (0, p)), (2, (0, d)), (3, (0, z13))]) rfl ?_
            exact r_retI hX hP rfl rfl (by first | decide | omega) (by first | decide | omega) ⟨rfl, ⟨_, (hq_up (hq_up (hq_refl _ _ _) rfl) rfl).symm⟩, z13, rfl, (by first | decide | omega), (by first | decide | omega), (by rw [tCld_if]; first | (rw [if_pos (by first | decide | omega)]; omega) | rw [if_neg (by first | decide | omega)])⟩
          · skip
            refine r_ex hX hP 2 (pc' := 49) (st' := [(0, 5), (2, (Ad E 1))]) (lo' := [(0, (2, (Ad E 1))), (1, (0, p)), (2, (0, d)), (3, (0, z13))]) rfl ?_
            refine r_callV gd hX hP rfl cv_12_327 hS (d' := 0) (mc' := 0) (ms' := 0) (as' := [(0, 5)]) (st := []) (by first | decide | omega) (by first | decide | omega) (by first | decide | omega) rfl rfl (Nat.le_of_ble_eq_true rfl) (c_X12_refuse E S (up (up G 1 (Ad E 1) 1 0) 1 (Ad E 1) 0 0) 5 hS (by first | decide | omega) (by first | decide | omega)) ?_
            rintro _ _ _ ⟨rfl, ⟨G16, rfl⟩, z17, rfl, rfl⟩
            refine r_ex hX hP 1 (pc' := 56) (st' := [(0, (-1))]) (lo' := [(0, (2, (Ad E 1))), (1, (0, p)), (2, (0, d)), (3, (0, z13))]) rfl ?_
            exact r_retI hX hP rfl rfl (by first | decide | omega) (by first | decide | omega) ⟨rfl, ⟨_, (hq_call (hq_up (hq_up (hq_refl _ _ _) rfl) rfl) rfl).symm⟩, (-1), rfl, (by first | decide | omega), (by first | decide | omega), (by rw [tCld_if]; first | (rw [if_pos (by first | decide | omega)]; omega) | rw [if_neg (by first | decide | omega)])⟩
        · skip
          exfalso; omega
      · skip
        refine r_if_ne hX hP rfl (tgt := 36) rfl (by first | decide | omega) (by first | decide | omega) (fun c18 => ?_) (fun c18 => ?_)
        · skip
          exfalso; omega
        · skip
          refine r_ex hX hP 2 (pc' := 32) (st' := [(0, 2), (2, (Ad E 1))]) (lo' := [(0, (2, (Ad E 1))), (1, (0, p)), (2, (0, d))]) rfl ?_
          refine r_callV gd hX hP rfl cv_12_327 hS (d' := 0) (mc' := 0) (ms' := 0) (as' := [(0, 2)]) (st := []) (by first | decide | omega) (by first | decide | omega) (by first | decide | omega) rfl rfl (Nat.le_of_ble_eq_true rfl) (c_X12_refuse E S (up (up G 1 (Ad E 1) 1 0) 1 (Ad E 1) 0 0) 2 hS (by first | decide | omega) (by first | decide | omega)) ?_
          rintro _ _ _ ⟨rfl, ⟨G19, rfl⟩, z20, rfl, rfl⟩
          exact r_retI hX hP rfl rfl (by first | decide | omega) (by first | decide | omega) ⟨rfl, ⟨_, (hq_call (hq_up (hq_up (hq_refl _ _ _) rfl) rfl) rfl).symm⟩, (-1), rfl, (by first | decide | omega), (by first | decide | omega), (by rw [tCld_if]; first | (rw [if_pos (by first | decide | omega)]; omega) | rw [if_neg (by first | decide | omega)])⟩
    · skip
      exfalso; omega
  · skip
    refine r_if_ne hX hP rfl (tgt := 23) rfl (by first | decide | omega) (by first | decide | omega) (fun c21 => ?_) (fun c21 => ?_)
    · skip
      exfalso; omega
    · skip
      refine r_ex hX hP 2 (pc' := 19) (st' := [(0, 1), (2, (Ad E 1))]) (lo' := [(0, (2, (Ad E 1))), (1, (0, p)), (2, (0, d))]) rfl ?_
      refine r_callV gd hX hP rfl cv_12_327 hS (d' := 0) (mc' := 0) (ms' := 0) (as' := [(0, 1)]) (st := []) (by first | decide | omega) (by first | decide | omega) (by first | decide | omega) rfl rfl (Nat.le_of_ble_eq_true rfl) (c_X12_refuse E S (up (up G 1 (Ad E 1) 1 0) 1 (Ad E 1) 0 0) 1 hS (by first | decide | omega) (by first | decide | omega)) ?_
      rintro _ _ _ ⟨rfl, ⟨G22, rfl⟩, z23, rfl, rfl⟩
      exact r_retI hX hP rfl rfl (by first | decide | omega) (by first | decide | omega) ⟨rfl, ⟨_, (hq_call (hq_up (hq_up (hq_refl _ _ _) rfl) rfl) rfl).symm⟩, (-1), rfl, (by first | decide | omega), (by first | decide | omega), (by rw [tCld_if]; first | (rw [if_pos (by first | decide | omega)]; omega) | rw [if_neg (by first | decide | omega)])⟩
set_option maxRecDepth 100000 in
set_option maxHeartbeats 4000000 in
theorem c_X12_findT (E : En) (S : Sg) (G : Gh) (n d k : Int) (hS : S (Ad E 1) = 1) (names : Int) (names_e : names = G 1 (Ad E 1) 12) (asof : Int) (asof_e : asof = G 1 (Ad E 1) 2) (n_a : (-2147483648) ≤ n) (n_b : n ≤ 2147483647) (d_a : (-2147483648) ≤ d) (d_b : d ≤ 2147483647) (k_a : (-2147483648) ≤ k) (k_b : k ≤ 2147483647) (t : Tz) (m4 : ∀ i : Int, 0 ≤ i → i < names → G 50 (Ad E 50) i = t 30 i ∧ G 52 (Ad E 52) i = t 31 i ∧ G 51 (Ad E 51) i = t 32 i ∧ G 53 (Ad E 53) i = t 33 i) (t6 : t 6 0 = names) (t9 : asof = t 9 0) : Calls E mX12_find [(2, (Ad E 1)), (0, n), (0, d), (0, k)] S G 2 0 0 (fun r S' G' => S = S' ∧ (∃ G1, hv [0, 1] [] G G1 = G') ∧ ∃ z : Int, r = some (0, z) ∧ (-2147483648) ≤ z ∧ z ≤ 2147483647 ∧ z = tFnd t n d k) := by
  refine calls_by [(0, (2, (Ad E 1))), (1, (0, n)), (2, (0, d)), (3, (0, k))] rfl rfl (Nat.le_of_ble_eq_true rfl) (fun X hX => ?_)
  have hP := hPX12_find
  refine r_peekI hX (tl1 12 rfl (by decide)) hS (fun names_o names_oe names_oa names_ob => ?_)
  obtain rfl : names = names_o := names_e.trans names_oe.symm
  refine r_peekI hX (tl1 2 rfl (by decide)) hS (fun asof_o asof_oe asof_oa asof_ob => ?_)
  obtain rfl : asof = asof_o := asof_e.trans asof_oe.symm
  refine r_ex hX hP 2 (pc' := 2) (st' := [(0, 0), (2, (Ad E 1))]) (lo' := [(0, (2, (Ad E 1))), (1, (0, n)), (2, (0, d)), (3, (0, k))]) rfl ?_
  refine r_putIK hX hP rfl fp_12_304 hS (by first | decide | omega) (by first | decide | omega) (fun h1 => ?_)
  refine r_ex hX hP 2 (pc' := 7) (st' := [(0, 0), (2, (Ad E 1))]) (lo' := [(0, (2, (Ad E 1))), (1, (0, n)), (2, (0, d)), (3, (0, k))]) rfl ?_
  refine r_putIK hX hP rfl fp_12_307 hS (by first | decide | omega) (by first | decide | omega) (fun h2 => ?_)
  refine r_ex hX hP 3 (pc' := 15) (st' := [(0, 9999), (0, 0), (0, n)]) (lo' := [(0, (2, (Ad E 1))), (1, (0, n)), (2, (0, d)), (3, (0, k))]) rfl ?_
  refine r_callS gd hX hP rfl cs_12_310 (d' := 0) (mc' := 0) (ms' := 0) (as' := [(0, n), (0, 0), (0, 9999)]) (st := []) (by first | decide | omega) (by first | decide | omega) (by first | decide | omega) rfl rfl (Nat.le_of_ble_eq_true rfl) (c_X12_isIn E S (up (up G 1 (Ad E 1) 1 0) 1 (Ad E 1) 0 0) n 0 9999 (by first | decide | omega) (by first | decide | omega) (by first | decide | omega) (by first | decide | omega) (by first | decide | omega) (by first | decide | omega)) ?_
  rintro _ _ _ ⟨rfl, rfl, z3, rfl, (⟨rfl, f4, f5⟩ | ⟨rfl, f6⟩)⟩
  · skip
    refine r_if_eq hX hP rfl (tgt := 28) rfl (by first | decide | omega) (by first | decide | omega) (fun c7 => ?_) (fun c7 => ?_)
    · skip
      exfalso; omega
    · skip
      refine r_ex hX hP 1 (pc' := 22) (st' := [(0, d)]) (lo' := [(0, (2, (Ad E 1))), (1, (0, n)), (2, (0, d)), (3, (0, k))]) rfl ?_
      refine r_callS gd hX hP rfl cs_12_317 (d' := 1) (mc' := 0) (ms' := 0) (as' := [(0, d)]) (st := []) (by first | decide | omega) (by first | decide | omega) (by first | decide | omega) rfl rfl (Nat.le_of_ble_eq_true rfl) (c_X12_isDay E S (up (up G 1 (Ad E 1) 1 0) 1 (Ad E 1) 0 0) d (by first | decide | omega) (by first | decide | omega)) ?_
      rintro _ _ _ ⟨rfl, rfl, z8, rfl, (⟨rfl, f9, f10⟩ | ⟨rfl, f11⟩)⟩
      · skip
        refine r_if_ne hX hP rfl (tgt := 34) rfl (by first | decide | omega) (by first | decide | omega) (fun c12 => ?_) (fun c12 => ?_)
        · skip
          refine r_ex hX hP 4 (pc' := 40) (st' := []) (lo' := [(0, (2, (Ad E 1))), (1, (0, n)), (2, (0, d)), (3, (0, k)), (4, (0, 0)), (5, (0, 0))]) rfl ?_
          have loop40 : ∀ (nF : Nat) (l4_h40 l5_h40 : Int), 0 ≤ l4_h40 → l4_h40 ≤ 20 → 0 ≤ l5_h40 → l5_h40 ≤ 20 → l4_h40 ≤ l5_h40 → fndF t n d (20 - l5_h40).toNat l5_h40 (k - l4_h40) = fndF t n d 20 0 k → 20 - l5_h40 < (nF : Int) → X 0 0 40 [] [(0, (2, (Ad E 1))), (1, (0, n)), (2, (0, d)), (3, (0, k)), (4, (0, l4_h40)), (5, (0, l5_h40))] S (up (up G 1 (Ad E 1) 1 0) 1 (Ad E 1) 0 0) := by
            intro nF
            induction nF with
            | zero => intro l4_h40 l5_h40 yh40_0 yh40_1 yh40_2 yh40_3 yh40_4 yh40_5 ym40; exfalso; omega
            | succ nF ih40 =>
              intro l4_h40 l5_h40 yh40_0 yh40_1 yh40_2 yh40_3 yh40_4 yh40_5 ym40
              refine r_ex hX hP 2 (pc' := 44) (st' := [(0, 20), (0, l5_h40)]) (lo' := [(0, (2, (Ad E 1))), (1, (0, n)), (2, (0, d)), (3, (0, k)), (4, (0, l4_h40)), (5, (0, l5_h40))]) rfl ?_
              refine r_ic_ge hX hP rfl (tgt := 79) rfl (by first | decide | omega) (by first | decide | omega) (by first | decide | omega) (by first | decide | omega) (fun c13 => ?_) (fun c13 => ?_)
              · skip
                refine r_ex hX hP 2 (pc' := 81) (st' := [(0, 5), (2, (Ad E 1))]) (lo' := [(0, (2, (Ad E 1))), (1, (0, n)), (2, (0, d)), (3, (0, k)), (4, (0, l4_h40)), (5, (0, l5_h40))]) rfl ?_
                refine r_callV gd hX hP rfl cv_12_327 hS (d' := 0) (mc' := 0) (ms' := 0) (as' := [(0, 5)]) (st := []) (by first | decide | omega) (by first | decide | omega) (by first | decide | omega) rfl rfl (Nat.le_of_ble_eq_true rfl) (c_X12_refuse E S (up (up G 1 (Ad E 1) 1 0) 1 (Ad E 1) 0 0) 5 hS (by first | decide | omega) (by first | decide | omega)) ?_
                rintro _ _ _ ⟨rfl, ⟨G14, rfl⟩, z15, rfl, rfl⟩
                exact r_retI hX hP rfl rfl (by first | decide | omega) (by first | decide | omega) ⟨rfl, ⟨_, (hq_call (hq_up (hq_up (hq_refl _ _ _) rfl) rfl) rfl).symm⟩, (-1), rfl, (by first | decide | omega), (by first | decide | omega), (by rw [tFnd_if]; first | (rw [if_neg (by first | decide | omega)]; done) | (rw [if_pos (by first | decide | omega)]; have q := fnd_end (t := t) (n := n) (d := d) (p := l5_h40) (k := k - l4_h40) (by first | decide | omega); omega))⟩
              · skip
                refine r_ex hX hP 3 (pc' := 51) (st' := [(0, d), (0, l5_h40), (2, (Ad E 1))]) (lo' := [(0, (2, (Ad E 1))), (1, (0, n)), (2, (0, d)), (3, (0, k)), (4, (0, l4_h40)), (5, (0, l5_h40))]) rfl ?_
                refine r_callV gd hX hP rfl cv_12_701 hS (d' := 0) (mc' := 0) (ms' := 0) (as' := [(0, l5_h40), (0, d)]) (st := []) (by first | decide | omega) (by first | decide | omega) (by first | decide | omega) rfl rfl (Nat.le_of_ble_eq_true rfl) (c_X12_calledOfT E S (up (up G 1 (Ad E 1) 1 0) 1 (Ad E 1) 0 0) l5_h40 d hS names names_e asof asof_e (by first | decide | omega) (by first | decide | omega) (by first | decide | omega) (by first | decide | omega) t m4 t6 t9) ?_
                rintro _ _ _ ⟨rfl, rfl, z16, rfl, z16a, z16b, q17⟩
                have k18 : fndF t n d (20 - l5_h40).toNat l5_h40 (k - l4_h40) = if cldV t l5_h40 d = n then (if k - l4_h40 = 0 then l5_h40 else fndF t n d (20 - (l5_h40 + 1)).toNat (l5_h40 + 1) (k - (l4_h40 + 1))) else fndF t n d (20 - (l5_h40 + 1)).toNat (l5_h40 + 1) (k - l4_h40) := by rw [show k - (l4_h40 + 1) = k - l4_h40 - 1 from by omega]; exact fnd_go (by first | decide | omega) (by first | decide | omega)
                refine r_ex hX hP 1 (pc' := 55) (st' := [(0, n), (0, z16)]) (lo' := [(0, (2, (Ad E 1))), (1, (0, n)), (2, (0, d)), (3, (0, k)), (4, (0, l4_h40)), (5, (0, l5_h40))]) rfl ?_
                refine r_ic_eq hX hP rfl (tgt := 61) rfl (by first | decide | omega) (by first | decide | omega) (by first | decide | omega) (by first | decide | omega) (fun c19 => ?_) (fun c19 => ?_)
                · skip
                  refine r_ex hX hP 2 (pc' := 64) (st' := [(0, k), (0, l4_h40)]) (lo' := [(0, (2, (Ad E 1))), (1, (0, n)), (2, (0, d)), (3, (0, k)), (4, (0, l4_h40)), (5, (0, l5_h40))]) rfl ?_
                  refine r_ic_ne hX hP rfl (tgt := 70) rfl (by first | decide | omega) (by first | decide | omega) (by first | decide | omega) (by first | decide | omega) (fun c20 => ?_) (fun c20 => ?_)
                  · skip
                    refine r_ex hX hP 3 (pc' := 40) (st' := []) (lo' := [(0, (2, (Ad E 1))), (1, (0, n)), (2, (0, d)), (3, (0, k)), (4, (0, (l4_h40 + 1))), (5, (0, (l5_h40 + 1)))]) rfl ?_
                    exact ih40 (l4_h40 + 1) (l5_h40 + 1) (by first | decide | omega) (by first | decide | omega) (by first | decide | omega) (by first | decide | omega) (by first | decide | omega) (by rw [if_pos (by first | decide | omega), if_neg (by first | decide | omega)] at k18; omega) (by first | decide | omega)
                  · skip
                    refine r_ex hX hP 1 (pc' := 69) (st' := [(0, l5_h40)]) (lo' := [(0, (2, (Ad E 1))), (1, (0, n)), (2, (0, d)), (3, (0, k)), (4, (0, l4_h40)), (5, (0, l5_h40))]) rfl ?_
                    exact r_retI hX hP rfl rfl (by first | decide | omega) (by first | decide | omega) ⟨rfl, ⟨_, (hq_up (hq_up (hq_refl _ _ _) rfl) rfl).symm⟩, l5_h40, rfl, (by first | decide | omega), (by first | decide | omega), (by rw [tFnd_if, if_pos (by first | decide | omega)]; rw [if_pos (by first | decide | omega), if_pos (by first | decide | omega)] at k18; omega)⟩
                · skip
                  refine r_ex hX hP 3 (pc' := 40) (st' := []) (lo' := [(0, (2, (Ad E 1))), (1, (0, n)), (2, (0, d)), (3, (0, k)), (4, (0, l4_h40)), (5, (0, (l5_h40 + 1)))]) rfl ?_
                  exact ih40 l4_h40 (l5_h40 + 1) (by first | decide | omega) (by first | decide | omega) (by first | decide | omega) (by first | decide | omega) (by first | decide | omega) (by rw [if_neg (by first | decide | omega)] at k18; omega) (by first | decide | omega)
          exact loop40 ((20 - 0) + 1 : Int).toNat 0 0 (by first | decide | omega) (by first | decide | omega) (by first | decide | omega) (by first | decide | omega) (by first | decide | omega) (by rw [show k - 0 = k from by omega]; rfl) (by first | decide | omega)
        · skip
          exfalso; omega
      · skip
        refine r_if_ne hX hP rfl (tgt := 34) rfl (by first | decide | omega) (by first | decide | omega) (fun c21 => ?_) (fun c21 => ?_)
        · skip
          exfalso; omega
        · skip
          refine r_ex hX hP 2 (pc' := 30) (st' := [(0, 2), (2, (Ad E 1))]) (lo' := [(0, (2, (Ad E 1))), (1, (0, n)), (2, (0, d)), (3, (0, k))]) rfl ?_
          refine r_callV gd hX hP rfl cv_12_327 hS (d' := 0) (mc' := 0) (ms' := 0) (as' := [(0, 2)]) (st := []) (by first | decide | omega) (by first | decide | omega) (by first | decide | omega) rfl rfl (Nat.le_of_ble_eq_true rfl) (c_X12_refuse E S (up (up G 1 (Ad E 1) 1 0) 1 (Ad E 1) 0 0) 2 hS (by first | decide | omega) (by first | decide | omega)) ?_
          rintro _ _ _ ⟨rfl, ⟨G22, rfl⟩, z23, rfl, rfl⟩
          exact r_retI hX hP rfl rfl (by first | decide | omega) (by first | decide | omega) ⟨rfl, ⟨_, (hq_call (hq_up (hq_up (hq_refl _ _ _) rfl) rfl) rfl).symm⟩, (-1), rfl, (by first | decide | omega), (by first | decide | omega), (by rw [tFnd_if]; first | (rw [if_neg (by first | decide | omega)]; done) | (rw [if_pos (by first | decide | omega)]; have q := fnd_end (t := t) (n := n) (d := d) (p := 0) (k := k - 0) (by first | decide | omega); omega))⟩
  · skip
    refine r_if_eq hX hP rfl (tgt := 28) rfl (by first | decide | omega) (by first | decide | omega) (fun c24 => ?_) (fun c24 => ?_)
    · skip
      refine r_ex hX hP 2 (pc' := 30) (st' := [(0, 2), (2, (Ad E 1))]) (lo' := [(0, (2, (Ad E 1))), (1, (0, n)), (2, (0, d)), (3, (0, k))]) rfl ?_
      refine r_callV gd hX hP rfl cv_12_327 hS (d' := 0) (mc' := 0) (ms' := 0) (as' := [(0, 2)]) (st := []) (by first | decide | omega) (by first | decide | omega) (by first | decide | omega) rfl rfl (Nat.le_of_ble_eq_true rfl) (c_X12_refuse E S (up (up G 1 (Ad E 1) 1 0) 1 (Ad E 1) 0 0) 2 hS (by first | decide | omega) (by first | decide | omega)) ?_
      rintro _ _ _ ⟨rfl, ⟨G25, rfl⟩, z26, rfl, rfl⟩
      exact r_retI hX hP rfl rfl (by first | decide | omega) (by first | decide | omega) ⟨rfl, ⟨_, (hq_call (hq_up (hq_up (hq_refl _ _ _) rfl) rfl) rfl).symm⟩, (-1), rfl, (by first | decide | omega), (by first | decide | omega), (by rw [tFnd_if]; first | (rw [if_neg (by first | decide | omega)]; done) | (rw [if_pos (by first | decide | omega)]; have q := fnd_end (t := t) (n := n) (d := d) (p := 0) (k := k - 0) (by first | decide | omega); omega))⟩
    · skip
      exfalso; omega
