set_option maxRecDepth 100000 in
set_option maxHeartbeats 4000000 in
theorem c_X12_common (E : En) (S : Sg) (G : Gh) (a b : Int) (a_a : (-4611686018427387904) ≤ a) (a_b : a ≤ 4611686018427387904) (b_a : 1 ≤ b) (b_b : b ≤ 4611686018427387904) : Calls E mX12_common [(1, a), (1, b)] S G 3 0 0 (fun r S' G' => S = S' ∧ G = G' ∧ ∃ z : Int, r = some (1, z) ∧ (1 ≤ z ∧ z ≤ 4611686018427387904 ∧ z ≤ b ∧ (1 ≤ a → z ≤ a))) := by
  refine calls_by [(0, (1, a)), (2, (1, b))] rfl rfl (Nat.le_of_ble_eq_true rfl) (fun X hX => ?_)
  have hP := hPX12_common
  refine r_ex hX hP 1 (pc' := 1) (st' := [(1, a)]) (lo' := [(0, (1, a)), (2, (1, b))]) rfl ?_
  refine r_mabsL hX hP rfl (tbg sg10 192 rfl rfl) (tbg sg5 194 rfl rfl) (tbg sg1 14 rfl rfl) (tbg sg5 195 rfl rfl) (by decide) (by decide) (by decide) (Nat.le_of_ble_eq_true rfl) (by first | decide | omega) (by first | decide | omega) (fun c1 => ?_) (fun c1 => ?_)
  · skip
    refine r_ex hX hP 2 (pc' := 7) (st' := [(1, b)]) (lo' := [(0, (1, a)), (2, (1, b)), (4, (1, a))]) rfl ?_
    refine r_mabsL hX hP rfl (tbg sg10 192 rfl rfl) (tbg sg5 194 rfl rfl) (tbg sg1 14 rfl rfl) (tbg sg5 195 rfl rfl) (by decide) (by decide) (by decide) (Nat.le_of_ble_eq_true rfl) (by first | decide | omega) (by first | decide | omega) (fun c2 => ?_) (fun c2 => ?_)
    · skip
      refine r_ex hX hP 1 (pc' := 12) (st' := []) (lo' := [(0, (1, a)), (2, (1, b)), (4, (1, a)), (6, (1, b))]) rfl ?_
      have loop12 : ∀ (nF : Nat) (l4_h12 l6_h12 : Int), 0 ≤ l4_h12 → l4_h12 ≤ 4611686018427387904 → 0 ≤ l6_h12 → l6_h12 ≤ 4611686018427387904 → Int.gcd l4_h12 l6_h12 = Int.gcd a b → l6_h12 < (nF : Int) → X 0 0 12 [] [(0, (1, a)), (2, (1, b)), (4, (1, l4_h12)), (6, (1, l6_h12))] S G := by
        intro nF
        induction nF with
        | zero => intro l4_h12 l6_h12 yh12_0 yh12_1 yh12_2 yh12_3 yh12_4 ym12; exfalso; omega
        | succ nF ih12 =>
          intro l4_h12 l6_h12 yh12_0 yh12_1 yh12_2 yh12_3 yh12_4 ym12
          refine r_ex hX hP 2 (pc' := 15) (st' := [(1, 0), (1, l6_h12)]) (lo' := [(0, (1, a)), (2, (1, b)), (4, (1, l4_h12)), (6, (1, l6_h12))]) rfl ?_
          refine r_lc_eq hX hP rfl rfl (tgt := 37) rfl (by first | decide | omega) (by first | decide | omega) (by first | decide | omega) (by first | decide | omega) (fun c3 => ?_) (fun c3 => ?_)
          · skip
            have g4 := gcd_end yh12_4 (by first | decide | omega) (by first | decide | omega) (by first | decide | omega)
            refine r_ex hX hP 1 (pc' := 39) (st' := [(1, l4_h12)]) (lo' := [(0, (1, a)), (2, (1, b)), (4, (1, l4_h12)), (6, (1, l6_h12))]) rfl ?_
            exact r_retL hX hP rfl rfl (by first | decide | omega) (by first | decide | omega) ⟨rfl, rfl, l4_h12, rfl, (by first | decide | omega)⟩
          · skip
            refine r_ex hX hP 2 (pc' := 23) (st' := [(1, l6_h12), (1, l4_h12)]) (lo' := [(0, (1, a)), (2, (1, b)), (4, (1, l4_h12)), (6, (1, l6_h12))]) rfl ?_
            refine r_lrem hX hP rfl (by first | decide | omega) (by first | decide | omega) (by first | decide | omega) (by first | decide | omega) (by first | decide | omega) ?_
            obtain ⟨q5, q5e⟩ : ∃ q : Int, q = (Int.tmod l4_h12 l6_h12) := ⟨_, rfl⟩
            rw [← q5e]
            have q5b := tm_pos q5e (by first | decide | omega) (by first | decide | omega)
            refine r_ex hX hP 6 (pc' := 12) (st' := []) (lo' := [(0, (1, a)), (2, (1, b)), (4, (1, l6_h12)), (6, (1, q5)), (8, (1, q5))]) rfl ?_
            refine r_pick hX [0, 1, 2, 3] (lo' := [(0, (1, a)), (2, (1, b)), (4, (1, l6_h12)), (6, (1, q5))]) rfl ?_
            exact ih12 l6_h12 q5 (by first | decide | omega) (by first | decide | omega) (by first | decide | omega) (by first | decide | omega) ((gcd_step q5e (by first | decide | omega) (by first | decide | omega)).trans yh12_4) (by first | decide | omega)
      exact loop12 ((b) + 1 : Int).toNat a b (by first | decide | omega) (by first | decide | omega) (by first | decide | omega) (by first | decide | omega) (by first | rfl | exact Int.neg_gcd) (by first | decide | omega)
    · skip
      exfalso; omega
  · skip
    refine r_ex hX hP 2 (pc' := 7) (st' := [(1, b)]) (lo' := [(0, (1, a)), (2, (1, b)), (4, (1, (-a)))]) rfl ?_
    refine r_mabsL hX hP rfl (tbg sg10 192 rfl rfl) (tbg sg5 194 rfl rfl) (tbg sg1 14 rfl rfl) (tbg sg5 195 rfl rfl) (by decide) (by decide) (by decide) (Nat.le_of_ble_eq_true rfl) (by first | decide | omega) (by first | decide | omega) (fun c6 => ?_) (fun c6 => ?_)
    · skip
      refine r_ex hX hP 1 (pc' := 12) (st' := []) (lo' := [(0, (1, a)), (2, (1, b)), (4, (1, (-a))), (6, (1, b))]) rfl ?_
      have loop12 : ∀ (nF : Nat) (l4_h12 l6_h12 : Int), 0 ≤ l4_h12 → l4_h12 ≤ 4611686018427387904 → 0 ≤ l6_h12 → l6_h12 ≤ 4611686018427387904 → Int.gcd l4_h12 l6_h12 = Int.gcd a b → l6_h12 < (nF : Int) → X 0 0 12 [] [(0, (1, a)), (2, (1, b)), (4, (1, l4_h12)), (6, (1, l6_h12))] S G := by
        intro nF
        induction nF with
        | zero => intro l4_h12 l6_h12 yh12_0 yh12_1 yh12_2 yh12_3 yh12_4 ym12; exfalso; omega
        | succ nF ih12 =>
          intro l4_h12 l6_h12 yh12_0 yh12_1 yh12_2 yh12_3 yh12_4 ym12
          refine r_ex hX hP 2 (pc' := 15) (st' := [(1, 0), (1, l6_h12)]) (lo' := [(0, (1, a)), (2, (1, b)), (4, (1, l4_h12)), (6, (1, l6_h12))]) rfl ?_
          refine r_lc_eq hX hP rfl rfl (tgt := 37) rfl (by first | decide | omega) (by first | decide | omega) (by first | decide | omega) (by first | decide | omega) (fun c7 => ?_) (fun c7 => ?_)
          · skip
            have g8 := gcd_end yh12_4 (by first | decide | omega) (by first | decide | omega) (by first | decide | omega)
            refine r_ex hX hP 1 (pc' := 39) (st' := [(1, l4_h12)]) (lo' := [(0, (1, a)), (2, (1, b)), (4, (1, l4_h12)), (6, (1, l6_h12))]) rfl ?_
            exact r_retL hX hP rfl rfl (by first | decide | omega) (by first | decide | omega) ⟨rfl, rfl, l4_h12, rfl, (by first | decide | omega)⟩
          · skip
            refine r_ex hX hP 2 (pc' := 23) (st' := [(1, l6_h12), (1, l4_h12)]) (lo' := [(0, (1, a)), (2, (1, b)), (4, (1, l4_h12)), (6, (1, l6_h12))]) rfl ?_
            refine r_lrem hX hP rfl (by first | decide | omega) (by first | decide | omega) (by first | decide | omega) (by first | decide | omega) (by first | decide | omega) ?_
            obtain ⟨q9, q9e⟩ : ∃ q : Int, q = (Int.tmod l4_h12 l6_h12) := ⟨_, rfl⟩
            rw [← q9e]
            have q9b := tm_pos q9e (by first | decide | omega) (by first | decide | omega)
            refine r_ex hX hP 6 (pc' := 12) (st' := []) (lo' := [(0, (1, a)), (2, (1, b)), (4, (1, l6_h12)), (6, (1, q9)), (8, (1, q9))]) rfl ?_
            refine r_pick hX [0, 1, 2, 3] (lo' := [(0, (1, a)), (2, (1, b)), (4, (1, l6_h12)), (6, (1, q9))]) rfl ?_
            exact ih12 l6_h12 q9 (by first | decide | omega) (by first | decide | omega) (by first | decide | omega) (by first | decide | omega) ((gcd_step q9e (by first | decide | omega) (by first | decide | omega)).trans yh12_4) (by first | decide | omega)
      exact loop12 ((b) + 1 : Int).toNat (-a) b (by first | decide | omega) (by first | decide | omega) (by first | decide | omega) (by first | decide | omega) (by first | rfl | exact Int.neg_gcd) (by first | decide | omega)
    · skip
      exfalso; omega
set_option maxRecDepth 100000 in
set_option maxHeartbeats 4000000 in
theorem c_X12_adds (E : En) (S : Sg) (G : Gh) (m n : Int) (hS : S (Ad E 1) = 1) (factorTop : Int) (factorTop_e : factorTop = G 1 (Ad E 1) 133) (factorLow : Int) (factorLow_e : factorLow = G 1 (Ad E 1) 134) (isFar : Int) (isFar_e : isFar = G 1 (Ad E 1) 135) (m_a : (-1000) ≤ m) (m_b : m ≤ 1000) (n_a : 1 ≤ n) (n_b : n ≤ 1000) (pre0 : 1 ≤ factorLow) (pre1 : factorLow ≤ 1000000000000) (pre2 : -1000000000000 ≤ factorTop) (pre3 : factorTop ≤ 1000000000000) : Calls E mX12_adds [(2, (Ad E 1)), (1, m), (1, n)] S G 4 0 0 (fun r S' G' => S = S' ∧ (∃ G1, hv [133, 134, 135] [] G G1 = G') ∧ r = none ∧ ∃ ft' : Int, ft' = G' 1 (Ad E 1) 133 ∧ ∃ fl' : Int, fl' = G' 1 (Ad E 1) 134 ∧ ∃ fa' : Int, fa' = G' 1 (Ad E 1) 135 ∧ 1 ≤ fl' ∧ (fa' = 1 ∨ (fl' ≤ 1000000000000 ∧ -1000000000000 ≤ ft' ∧ ft' ≤ 1000000000000))) := by
  refine calls_by [(0, (2, (Ad E 1))), (1, (1, m)), (3, (1, n))] rfl rfl (Nat.le_of_ble_eq_true rfl) (fun X hX => ?_)
  have hP := hPX12_adds
  refine r_peekL hX (tl1 133 rfl (by decide)) hS (fun factorTop_o factorTop_oe factorTop_oa factorTop_ob => ?_)
  obtain rfl : factorTop = factorTop_o := factorTop_e.trans factorTop_oe.symm
  refine r_peekL hX (tl1 134 rfl (by decide)) hS (fun factorLow_o factorLow_oe factorLow_oa factorLow_ob => ?_)
  obtain rfl : factorLow = factorLow_o := factorLow_e.trans factorLow_oe.symm
  refine r_peekI hX (tl1 135 rfl (by decide)) hS (fun isFar_o isFar_oe isFar_oa isFar_ob => ?_)
  obtain rfl : isFar = isFar_o := isFar_e.trans isFar_oe.symm
  refine r_ex hX hP 1 (pc' := 1) (st' := [(2, (Ad E 1))]) (lo' := [(0, (2, (Ad E 1))), (1, (1, m)), (3, (1, n))]) rfl ?_
  refine r_getKL hX hP rfl fl_12_635 hS (x := factorTop) factorTop_e ?_
  refine r_ex hX hP 2 (pc' := 6) (st' := [(1, (factorTop * n))]) (lo' := [(0, (2, (Ad E 1))), (1, (1, m)), (3, (1, n))]) rfl ?_
  have m1b := mul_abs_bd (x := factorTop) (y := n) (a := 1000000000000) (b := 1000) (by first | decide | omega) (by first | decide | omega) (by first | decide | omega) (by first | decide | omega)
  obtain ⟨m1, m1e⟩ : ∃ q : Int, q = (factorTop * n) := ⟨_, rfl⟩
  rw [← m1e] at m1b ⊢
  refine r_ex hX hP 2 (pc' := 8) (st' := [(2, (Ad E 1)), (1, m), (1, m1)]) (lo' := [(0, (2, (Ad E 1))), (1, (1, m)), (3, (1, n))]) rfl ?_
  refine r_getKL hX hP rfl fl_12_638 hS (x := factorLow) factorLow_e ?_
  refine r_ex hX hP 1 (pc' := 12) (st' := [(1, (m * factorLow)), (1, m1)]) (lo' := [(0, (2, (Ad E 1))), (1, (1, m)), (3, (1, n))]) rfl ?_
  have m2b := mul_abs_bd (x := m) (y := factorLow) (a := 1000) (b := 1000000000000) (by first | decide | omega) (by first | decide | omega) (by first | decide | omega) (by first | decide | omega)
  obtain ⟨m2, m2e⟩ : ∃ q : Int, q = (m * factorLow) := ⟨_, rfl⟩
  rw [← m2e] at m2b ⊢
  refine r_ex hX hP 3 (pc' := 16) (st' := [(2, (Ad E 1))]) (lo' := [(0, (2, (Ad E 1))), (1, (1, m)), (3, (1, n)), (5, (1, (m1 + m2)))]) rfl ?_
  refine r_getKL hX hP rfl fl_12_638 hS (x := factorLow) factorLow_e ?_
  refine r_ex hX hP 2 (pc' := 21) (st' := [(1, (factorLow * n))]) (lo' := [(0, (2, (Ad E 1))), (1, (1, m)), (3, (1, n)), (5, (1, (m1 + m2)))]) rfl ?_
  have m3b := mul_pos_bd (x := factorLow) (y := n) (a := 1) (b := 1000000000000) (c := 1) (d := 1000) (by first | decide | omega) (by first | decide | omega) (by first | decide | omega) (by first | decide | omega) (by first | decide | omega) (by first | decide | omega)
  obtain ⟨m3, m3e⟩ : ∃ q : Int, q = (factorLow * n) := ⟨_, rfl⟩
  rw [← m3e] at m3b ⊢
  refine r_ex hX hP 3 (pc' := 27) (st' := [(1, m3), (1, (m1 + m2))]) (lo' := [(0, (2, (Ad E 1))), (1, (1, m)), (3, (1, n)), (5, (1, (m1 + m2))), (7, (1, m3))]) rfl ?_
  refine r_callS gd hX hP rfl cs_12_641 (d' := 3) (mc' := 0) (ms' := 0) (as' := [(1, (m1 + m2)), (1, m3)]) (st := []) (by first | decide | omega) (by first | decide | omega) (by first | decide | omega) rfl rfl (Nat.le_of_ble_eq_true rfl) (c_X12_common E S G (m1 + m2) m3 (by first | decide | omega) (by first | decide | omega) (by first | decide | omega) (by first | decide | omega)) ?_
  rintro _ _ _ ⟨rfl, rfl, z4, rfl, z4a, z4b, f5, f6⟩
  refine r_ex hX hP 4 (pc' := 37) (st' := [(1, z4), (1, (m1 + m2)), (2, (Ad E 1))]) (lo' := [(0, (2, (Ad E 1))), (1, (1, m)), (3, (1, n)), (5, (1, (m1 + m2))), (7, (1, m3)), (9, (1, z4))]) rfl ?_
  refine r_ldiv hX hP rfl (by first | decide | omega) (by first | decide | omega) (by first | decide | omega) (by first | decide | omega) (by first | decide | omega) ?_
  obtain ⟨q7, q7e⟩ : ∃ q : Int, q = (Int.tdiv (m1 + m2) z4) := ⟨_, rfl⟩
  rw [← q7e]
  have q7b := td_gen q7e (by first | decide | omega)
  refine r_putLK hX hP rfl fp_12_635 hS (by first | decide | omega) (by first | decide | omega) (fun h8 => ?_)
  refine r_ex hX hP 3 (pc' := 46) (st' := [(1, z4), (1, m3), (2, (Ad E 1))]) (lo' := [(0, (2, (Ad E 1))), (1, (1, m)), (3, (1, n)), (5, (1, (m1 + m2))), (7, (1, m3)), (9, (1, z4))]) rfl ?_
  refine r_ldiv hX hP rfl (by first | decide | omega) (by first | decide | omega) (by first | decide | omega) (by first | decide | omega) (by first | decide | omega) ?_
  obtain ⟨q9, q9e⟩ : ∃ q : Int, q = (Int.tdiv m3 z4) := ⟨_, rfl⟩
  rw [← q9e]
  have q9b := td_pos2 q9e (by first | decide | omega) (by first | decide | omega)
  refine r_putLK hX hP rfl fp_12_638 hS (by first | decide | omega) (by first | decide | omega) (fun h10 => ?_)
  refine r_ex hX hP 2 (pc' := 52) (st' := [(2, (Ad E 1)), (2, (Ad E 1))]) (lo' := [(0, (2, (Ad E 1))), (1, (1, m)), (3, (1, n)), (5, (1, (m1 + m2))), (7, (1, m3)), (9, (1, z4))]) rfl ?_
  refine r_getKI hX hP rfl fl_12_644 hS (x := isFar) isFar_e ?_
  refine r_if_ne hX hP rfl (tgt := 83) rfl (by first | decide | omega) (by first | decide | omega) (fun c11 => ?_) (fun c11 => ?_)
  · skip
    refine r_ex hX hP 2 (pc' := 88) (st' := [(0, 1), (2, (Ad E 1))]) (lo' := [(0, (2, (Ad E 1))), (1, (1, m)), (3, (1, n)), (5, (1, (m1 + m2))), (7, (1, m3)), (9, (1, z4))]) rfl ?_
    refine r_putIK hX hP rfl fp_12_644 hS (by first | decide | omega) (by first | decide | omega) (fun h12 => ?_)
    exact r_retV hX hP rfl rfl (by first | decide | omega) (by first | decide | omega) ⟨rfl, ⟨_, (hq_up (hq_up (hq_up (hq_refl _ _ _) rfl) rfl) rfl).symm⟩, rfl, q7, h8, q9, h10, 1, h12, (by first | decide | omega), (by first | decide | omega)⟩
  · skip
    refine r_ex hX hP 1 (pc' := 59) (st' := [(2, (Ad E 1)), (2, (Ad E 1))]) (lo' := [(0, (2, (Ad E 1))), (1, (1, m)), (3, (1, n)), (5, (1, (m1 + m2))), (7, (1, m3)), (9, (1, z4))]) rfl ?_
    refine r_getKL hX hP rfl fl_12_638 hS (x := q9) h10 ?_
    refine r_ldc2 hX hP rfl (v := 1000000000000) (tbg sg10 197 rfl rfl) ?_
    refine r_lc_gt hX hP rfl rfl (tgt := 83) rfl (by first | decide | omega) (by first | decide | omega) (by first | decide | omega) (by first | decide | omega) (fun c13 => ?_) (fun c13 => ?_)
    · skip
      refine r_ex hX hP 2 (pc' := 88) (st' := [(0, 1), (2, (Ad E 1))]) (lo' := [(0, (2, (Ad E 1))), (1, (1, m)), (3, (1, n)), (5, (1, (m1 + m2))), (7, (1, m3)), (9, (1, z4))]) rfl ?_
      refine r_putIK hX hP rfl fp_12_644 hS (by first | decide | omega) (by first | decide | omega) (fun h14 => ?_)
      exact r_retV hX hP rfl rfl (by first | decide | omega) (by first | decide | omega) ⟨rfl, ⟨_, (hq_up (hq_up (hq_up (hq_refl _ _ _) rfl) rfl) rfl).symm⟩, rfl, q7, h8, q9, h10, 1, h14, (by first | decide | omega), (by first | decide | omega)⟩
    · skip
      refine r_ex hX hP 1 (pc' := 70) (st' := [(2, (Ad E 1)), (2, (Ad E 1))]) (lo' := [(0, (2, (Ad E 1))), (1, (1, m)), (3, (1, n)), (5, (1, (m1 + m2))), (7, (1, m3)), (9, (1, z4))]) rfl ?_
      refine r_getKL hX hP rfl fl_12_635 hS (x := q7) h8 ?_
      refine r_mabsL hX hP rfl (tbg sg10 192 rfl rfl) (tbg sg5 194 rfl rfl) (tbg sg1 14 rfl rfl) (tbg sg5 195 rfl rfl) (by decide) (by decide) (by decide) (Nat.le_of_ble_eq_true rfl) (by first | decide | omega) (by first | decide | omega) (fun c15 => ?_) (fun c15 => ?_)
      · skip
        refine r_ldc2 hX hP rfl (v := 1000000000000) (tbg sg10 197 rfl rfl) ?_
        refine r_lc_le hX hP rfl rfl (tgt := 87) rfl (by first | decide | omega) (by first | decide | omega) (by first | decide | omega) (by first | decide | omega) (fun c16 => ?_) (fun c16 => ?_)
        · skip
          refine r_ex hX hP 1 (pc' := 88) (st' := [(0, 0), (2, (Ad E 1))]) (lo' := [(0, (2, (Ad E 1))), (1, (1, m)), (3, (1, n)), (5, (1, (m1 + m2))), (7, (1, m3)), (9, (1, z4))]) rfl ?_
          refine r_putIK hX hP rfl fp_12_644 hS (by first | decide | omega) (by first | decide | omega) (fun h17 => ?_)
          exact r_retV hX hP rfl rfl (by first | decide | omega) (by first | decide | omega) ⟨rfl, ⟨_, (hq_up (hq_up (hq_up (hq_refl _ _ _) rfl) rfl) rfl).symm⟩, rfl, q7, h8, q9, h10, 0, h17, (by first | decide | omega), (by first | decide | omega)⟩
        · skip
          refine r_ex hX hP 2 (pc' := 88) (st' := [(0, 1), (2, (Ad E 1))]) (lo' := [(0, (2, (Ad E 1))), (1, (1, m)), (3, (1, n)), (5, (1, (m1 + m2))), (7, (1, m3)), (9, (1, z4))]) rfl ?_
          refine r_putIK hX hP rfl fp_12_644 hS (by first | decide | omega) (by first | decide | omega) (fun h18 => ?_)
          exact r_retV hX hP rfl rfl (by first | decide | omega) (by first | decide | omega) ⟨rfl, ⟨_, (hq_up (hq_up (hq_up (hq_refl _ _ _) rfl) rfl) rfl).symm⟩, rfl, q7, h8, q9, h10, 1, h18, (by first | decide | omega), (by first | decide | omega)⟩
      · skip
        refine r_ldc2 hX hP rfl (v := 1000000000000) (tbg sg10 197 rfl rfl) ?_
        refine r_lc_le hX hP rfl rfl (tgt := 87) rfl (by first | decide | omega) (by first | decide | omega) (by first | decide | omega) (by first | decide | omega) (fun c19 => ?_) (fun c19 => ?_)
        · skip
          refine r_ex hX hP 1 (pc' := 88) (st' := [(0, 0), (2, (Ad E 1))]) (lo' := [(0, (2, (Ad E 1))), (1, (1, m)), (3, (1, n)), (5, (1, (m1 + m2))), (7, (1, m3)), (9, (1, z4))]) rfl ?_
          refine r_putIK hX hP rfl fp_12_644 hS (by first | decide | omega) (by first | decide | omega) (fun h20 => ?_)
          exact r_retV hX hP rfl rfl (by first | decide | omega) (by first | decide | omega) ⟨rfl, ⟨_, (hq_up (hq_up (hq_up (hq_refl _ _ _) rfl) rfl) rfl).symm⟩, rfl, q7, h8, q9, h10, 0, h20, (by first | decide | omega), (by first | decide | omega)⟩
        · skip
          refine r_ex hX hP 2 (pc' := 88) (st' := [(0, 1), (2, (Ad E 1))]) (lo' := [(0, (2, (Ad E 1))), (1, (1, m)), (3, (1, n)), (5, (1, (m1 + m2))), (7, (1, m3)), (9, (1, z4))]) rfl ?_
          refine r_putIK hX hP rfl fp_12_644 hS (by first | decide | omega) (by first | decide | omega) (fun h21 => ?_)
          exact r_retV hX hP rfl rfl (by first | decide | omega) (by first | decide | omega) ⟨rfl, ⟨_, (hq_up (hq_up (hq_up (hq_refl _ _ _) rfl) rfl) rfl).symm⟩, rfl, q7, h8, q9, h10, 1, h21, (by first | decide | omega), (by first | decide | omega)⟩
set_option maxRecDepth 100000 in
set_option maxHeartbeats 4000000 in
theorem c_X12_times (E : En) (S : Sg) (G : Gh) (a b x y : Int) (hS : S (Ad E 1) = 1) (a_a : 1 ≤ a) (a_b : a ≤ 1000000000000) (b_a : 1 ≤ b) (b_b : b ≤ 1000000000000) (x_a : 1 ≤ x) (x_b : x ≤ 1000000000000) (y_a : 1 ≤ y) (y_b : y ≤ 1000000000000) : Calls E mX12_times [(2, (Ad E 1)), (1, a), (1, b), (1, x), (1, y)] S G 4 0 0 (fun r S' G' => S = S' ∧ (∃ G1, hv [135, 136, 137] [] G G1 = G') ∧ r = none ∧ ∃ pt' : Int, pt' = G' 1 (Ad E 1) 136 ∧ ∃ pl' : Int, pl' = G' 1 (Ad E 1) 137 ∧ 1 ≤ pt' ∧ pt' ≤ 1000000000000 ∧ 1 ≤ pl' ∧ pl' ≤ 1000000000000) := by
  refine calls_by [(0, (2, (Ad E 1))), (1, (1, a)), (3, (1, b)), (5, (1, x)), (7, (1, y))] rfl rfl (Nat.le_of_ble_eq_true rfl) (fun X hX => ?_)
  have hP := hPX12_times
  refine r_ex hX hP 2 (pc' := 3) (st' := [(1, y), (1, a)]) (lo' := [(0, (2, (Ad E 1))), (1, (1, a)), (3, (1, b)), (5, (1, x)), (7, (1, y))]) rfl ?_
  refine r_callS gd hX hP rfl cs_12_641 (d' := 3) (mc' := 0) (ms' := 0) (as' := [(1, a), (1, y)]) (st := []) (by first | decide | omega) (by first | decide | omega) (by first | decide | omega) rfl rfl (Nat.le_of_ble_eq_true rfl) (c_X12_common E S G a y (by first | decide | omega) (by first | decide | omega) (by first | decide | omega) (by first | decide | omega)) ?_
  rintro _ _ _ ⟨rfl, rfl, z1, rfl, z1a, z1b, f2, f3⟩
  refine r_ex hX hP 3 (pc' := 11) (st' := [(1, b), (1, x)]) (lo' := [(0, (2, (Ad E 1))), (1, (1, a)), (3, (1, b)), (5, (1, x)), (7, (1, y)), (9, (1, z1))]) rfl ?_
  refine r_callS gd hX hP rfl cs_12_641 (d' := 3) (mc' := 0) (ms' := 0) (as' := [(1, x), (1, b)]) (st := []) (by first | decide | omega) (by first | decide | omega) (by first | decide | omega) rfl rfl (Nat.le_of_ble_eq_true rfl) (c_X12_common E S G x b (by first | decide | omega) (by first | decide | omega) (by first | decide | omega) (by first | decide | omega)) ?_
  rintro _ _ _ ⟨rfl, rfl, z4, rfl, z4a, z4b, f5, f6⟩
  refine r_ex hX hP 3 (pc' := 19) (st' := [(1, z1), (1, a)]) (lo' := [(0, (2, (Ad E 1))), (1, (1, a)), (3, (1, b)), (5, (1, x)), (7, (1, y)), (9, (1, z1)), (11, (1, z4))]) rfl ?_
  refine r_ldiv hX hP rfl (by first | decide | omega) (by first | decide | omega) (by first | decide | omega) (by first | decide | omega) (by first | decide | omega) ?_
  obtain ⟨q7, q7e⟩ : ∃ q : Int, q = (Int.tdiv a z1) := ⟨_, rfl⟩
  rw [← q7e]
  have q7b := td_pos2 q7e (by first | decide | omega) (by first | decide | omega)
  refine r_ex hX hP 3 (pc' := 26) (st' := [(1, z4), (1, x)]) (lo' := [(0, (2, (Ad E 1))), (1, (1, a)), (3, (1, b)), (5, (1, x)), (7, (1, y)), (9, (1, z1)), (11, (1, z4)), (13, (1, q7))]) rfl ?_
  refine r_ldiv hX hP rfl (by first | decide | omega) (by first | decide | omega) (by first | decide | omega) (by first | decide | omega) (by first | decide | omega) ?_
  obtain ⟨q8, q8e⟩ : ∃ q : Int, q = (Int.tdiv x z4) := ⟨_, rfl⟩
  rw [← q8e]
  have q8b := td_pos2 q8e (by first | decide | omega) (by first | decide | omega)
  refine r_ex hX hP 3 (pc' := 32) (st' := [(1, z4), (1, b)]) (lo' := [(0, (2, (Ad E 1))), (1, (1, a)), (3, (1, b)), (5, (1, x)), (7, (1, y)), (9, (1, z1)), (11, (1, z4)), (13, (1, q7)), (15, (1, q8))]) rfl ?_
  refine r_ldiv hX hP rfl (by first | decide | omega) (by first | decide | omega) (by first | decide | omega) (by first | decide | omega) (by first | decide | omega) ?_
  obtain ⟨q9, q9e⟩ : ∃ q : Int, q = (Int.tdiv b z4) := ⟨_, rfl⟩
  rw [← q9e]
  have q9b := td_pos2 q9e (by first | decide | omega) (by first | decide | omega)
  refine r_ex hX hP 3 (pc' := 39) (st' := [(1, z1), (1, y)]) (lo' := [(0, (2, (Ad E 1))), (1, (1, a)), (3, (1, b)), (5, (1, x)), (7, (1, y)), (9, (1, z1)), (11, (1, z4)), (13, (1, q7)), (15, (1, q8)), (17, (1, q9))]) rfl ?_
  refine r_ldiv hX hP rfl (by first | decide | omega) (by first | decide | omega) (by first | decide | omega) (by first | decide | omega) (by first | decide | omega) ?_
  obtain ⟨q10, q10e⟩ : ∃ q : Int, q = (Int.tdiv y z1) := ⟨_, rfl⟩
  rw [← q10e]
  have q10b := td_pos2 q10e (by first | decide | omega) (by first | decide | omega)
  refine r_ex hX hP 3 (pc' := 44) (st' := [(2, (Ad E 1)), (2, (Ad E 1))]) (lo' := [(0, (2, (Ad E 1))), (1, (1, a)), (3, (1, b)), (5, (1, x)), (7, (1, y)), (9, (1, z1)), (11, (1, z4)), (13, (1, q7)), (15, (1, q8)), (17, (1, q9)), (19, (1, q10))]) rfl ?_
  refine r_getI hX hP rfl fl_12_644 hS (fun if11 if11e if11a if11b => ?_)
  refine r_if_ne hX hP rfl (tgt := 74) rfl (by first | decide | omega) (by first | decide | omega) (fun c12 => ?_) (fun c12 => ?_)
  · skip
    refine r_ex hX hP 2 (pc' := 79) (st' := [(0, 1), (2, (Ad E 1))]) (lo' := [(0, (2, (Ad E 1))), (1, (1, a)), (3, (1, b)), (5, (1, x)), (7, (1, y)), (9, (1, z1)), (11, (1, z4)), (13, (1, q7)), (15, (1, q8)), (17, (1, q9)), (19, (1, q10))]) rfl ?_
    refine r_putIK hX hP rfl fp_12_644 hS (by first | decide | omega) (by first | decide | omega) (fun h13 => ?_)
    refine r_ex hX hP 2 (pc' := 84) (st' := [(2, (Ad E 1)), (2, (Ad E 1))]) (lo' := [(0, (2, (Ad E 1))), (1, (1, a)), (3, (1, b)), (5, (1, x)), (7, (1, y)), (9, (1, z1)), (11, (1, z4)), (13, (1, q7)), (15, (1, q8)), (17, (1, q9)), (19, (1, q10))]) rfl ?_
    refine r_getKI hX hP rfl fl_12_644 hS (x := 1) h13 ?_
    refine r_if_eq hX hP rfl (tgt := 94) rfl (by first | decide | omega) (by first | decide | omega) (fun c14 => ?_) (fun c14 => ?_)
    · skip
      exfalso; omega
    · skip
      refine r_ex hX hP 2 (pc' := 99) (st' := [(1, 1), (2, (Ad E 1))]) (lo' := [(0, (2, (Ad E 1))), (1, (1, a)), (3, (1, b)), (5, (1, x)), (7, (1, y)), (9, (1, z1)), (11, (1, z4)), (13, (1, q7)), (15, (1, q8)), (17, (1, q9)), (19, (1, q10))]) rfl ?_
      refine r_putLK hX hP rfl fp_12_649 hS (by first | decide | omega) (by first | decide | omega) (fun h15 => ?_)
      refine r_ex hX hP 2 (pc' := 104) (st' := [(2, (Ad E 1)), (2, (Ad E 1))]) (lo' := [(0, (2, (Ad E 1))), (1, (1, a)), (3, (1, b)), (5, (1, x)), (7, (1, y)), (9, (1, z1)), (11, (1, z4)), (13, (1, q7)), (15, (1, q8)), (17, (1, q9)), (19, (1, q10))]) rfl ?_
      refine r_getKI hX hP rfl fl_12_644 hS (x := 1) h13 ?_
      refine r_if_eq hX hP rfl (tgt := 114) rfl (by first | decide | omega) (by first | decide | omega) (fun c16 => ?_) (fun c16 => ?_)
      · skip
        exfalso; omega
      · skip
        refine r_ex hX hP 2 (pc' := 119) (st' := [(1, 1), (2, (Ad E 1))]) (lo' := [(0, (2, (Ad E 1))), (1, (1, a)), (3, (1, b)), (5, (1, x)), (7, (1, y)), (9, (1, z1)), (11, (1, z4)), (13, (1, q7)), (15, (1, q8)), (17, (1, q9)), (19, (1, q10))]) rfl ?_
        refine r_putLK hX hP rfl fp_12_652 hS (by first | decide | omega) (by first | decide | omega) (fun h17 => ?_)
        exact r_retV hX hP rfl rfl (by first | decide | omega) (by first | decide | omega) ⟨rfl, ⟨_, (hq_up (hq_up (hq_up (hq_refl _ _ _) rfl) rfl) rfl).symm⟩, rfl, 1, h15, 1, h17, (by first | decide | omega), (by first | decide | omega), (by first | decide | omega), (by first | decide | omega)⟩
  · skip
    refine r_ex hX hP 1 (pc' := 52) (st' := [(1, q7), (2, (Ad E 1))]) (lo' := [(0, (2, (Ad E 1))), (1, (1, a)), (3, (1, b)), (5, (1, x)), (7, (1, y)), (9, (1, z1)), (11, (1, z4)), (13, (1, q7)), (15, (1, q8)), (17, (1, q9)), (19, (1, q10))]) rfl ?_
    refine r_ldc2 hX hP rfl (v := 1000000000000) (tbg sg10 197 rfl rfl) ?_
    refine r_ex hX hP 1 (pc' := 57) (st' := [(1, q8), (1, 1000000000000), (1, q7), (2, (Ad E 1))]) (lo' := [(0, (2, (Ad E 1))), (1, (1, a)), (3, (1, b)), (5, (1, x)), (7, (1, y)), (9, (1, z1)), (11, (1, z4)), (13, (1, q7)), (15, (1, q8)), (17, (1, q9)), (19, (1, q10))]) rfl ?_
    refine r_ldiv hX hP rfl (by first | decide | omega) (by first | decide | omega) (by first | decide | omega) (by first | decide | omega) (by first | decide | omega) ?_
    obtain ⟨q18, q18e⟩ : ∃ q : Int, q = (Int.tdiv 1000000000000 q8) := ⟨_, rfl⟩
    rw [← q18e]
    have q18b := td_pos2 q18e (by first | decide | omega) (by first | decide | omega)
    refine r_lc_gt hX hP rfl rfl (tgt := 74) rfl (by first | decide | omega) (by first | decide | omega) (by first | decide | omega) (by first | decide | omega) (fun c19 => ?_) (fun c19 => ?_)
    · skip
      refine r_ex hX hP 2 (pc' := 79) (st' := [(0, 1), (2, (Ad E 1))]) (lo' := [(0, (2, (Ad E 1))), (1, (1, a)), (3, (1, b)), (5, (1, x)), (7, (1, y)), (9, (1, z1)), (11, (1, z4)), (13, (1, q7)), (15, (1, q8)), (17, (1, q9)), (19, (1, q10))]) rfl ?_
      refine r_putIK hX hP rfl fp_12_644 hS (by first | decide | omega) (by first | decide | omega) (fun h20 => ?_)
      refine r_ex hX hP 2 (pc' := 84) (st' := [(2, (Ad E 1)), (2, (Ad E 1))]) (lo' := [(0, (2, (Ad E 1))), (1, (1, a)), (3, (1, b)), (5, (1, x)), (7, (1, y)), (9, (1, z1)), (11, (1, z4)), (13, (1, q7)), (15, (1, q8)), (17, (1, q9)), (19, (1, q10))]) rfl ?_
      refine r_getKI hX hP rfl fl_12_644 hS (x := 1) h20 ?_
      refine r_if_eq hX hP rfl (tgt := 94) rfl (by first | decide | omega) (by first | decide | omega) (fun c21 => ?_) (fun c21 => ?_)
      · skip
        exfalso; omega
      · skip
        refine r_ex hX hP 2 (pc' := 99) (st' := [(1, 1), (2, (Ad E 1))]) (lo' := [(0, (2, (Ad E 1))), (1, (1, a)), (3, (1, b)), (5, (1, x)), (7, (1, y)), (9, (1, z1)), (11, (1, z4)), (13, (1, q7)), (15, (1, q8)), (17, (1, q9)), (19, (1, q10))]) rfl ?_
        refine r_putLK hX hP rfl fp_12_649 hS (by first | decide | omega) (by first | decide | omega) (fun h22 => ?_)
        refine r_ex hX hP 2 (pc' := 104) (st' := [(2, (Ad E 1)), (2, (Ad E 1))]) (lo' := [(0, (2, (Ad E 1))), (1, (1, a)), (3, (1, b)), (5, (1, x)), (7, (1, y)), (9, (1, z1)), (11, (1, z4)), (13, (1, q7)), (15, (1, q8)), (17, (1, q9)), (19, (1, q10))]) rfl ?_
        refine r_getKI hX hP rfl fl_12_644 hS (x := 1) h20 ?_
        refine r_if_eq hX hP rfl (tgt := 114) rfl (by first | decide | omega) (by first | decide | omega) (fun c23 => ?_) (fun c23 => ?_)
        · skip
          exfalso; omega
        · skip
          refine r_ex hX hP 2 (pc' := 119) (st' := [(1, 1), (2, (Ad E 1))]) (lo' := [(0, (2, (Ad E 1))), (1, (1, a)), (3, (1, b)), (5, (1, x)), (7, (1, y)), (9, (1, z1)), (11, (1, z4)), (13, (1, q7)), (15, (1, q8)), (17, (1, q9)), (19, (1, q10))]) rfl ?_
          refine r_putLK hX hP rfl fp_12_652 hS (by first | decide | omega) (by first | decide | omega) (fun h24 => ?_)
          exact r_retV hX hP rfl rfl (by first | decide | omega) (by first | decide | omega) ⟨rfl, ⟨_, (hq_up (hq_up (hq_up (hq_refl _ _ _) rfl) rfl) rfl).symm⟩, rfl, 1, h22, 1, h24, (by first | decide | omega), (by first | decide | omega), (by first | decide | omega), (by first | decide | omega)⟩
    · skip
      refine r_ex hX hP 1 (pc' := 64) (st' := [(1, q9), (2, (Ad E 1))]) (lo' := [(0, (2, (Ad E 1))), (1, (1, a)), (3, (1, b)), (5, (1, x)), (7, (1, y)), (9, (1, z1)), (11, (1, z4)), (13, (1, q7)), (15, (1, q8)), (17, (1, q9)), (19, (1, q10))]) rfl ?_
      refine r_ldc2 hX hP rfl (v := 1000000000000) (tbg sg10 197 rfl rfl) ?_
      refine r_ex hX hP 1 (pc' := 69) (st' := [(1, q10), (1, 1000000000000), (1, q9), (2, (Ad E 1))]) (lo' := [(0, (2, (Ad E 1))), (1, (1, a)), (3, (1, b)), (5, (1, x)), (7, (1, y)), (9, (1, z1)), (11, (1, z4)), (13, (1, q7)), (15, (1, q8)), (17, (1, q9)), (19, (1, q10))]) rfl ?_
      refine r_ldiv hX hP rfl (by first | decide | omega) (by first | decide | omega) (by first | decide | omega) (by first | decide | omega) (by first | decide | omega) ?_
      obtain ⟨q25, q25e⟩ : ∃ q : Int, q = (Int.tdiv 1000000000000 q10) := ⟨_, rfl⟩
      rw [← q25e]
      have q25b := td_pos2 q25e (by first | decide | omega) (by first | decide | omega)
      refine r_lc_le hX hP rfl rfl (tgt := 78) rfl (by first | decide | omega) (by first | decide | omega) (by first | decide | omega) (by first | decide | omega) (fun c26 => ?_) (fun c26 => ?_)
      · skip
        refine r_ex hX hP 1 (pc' := 79) (st' := [(0, 0), (2, (Ad E 1))]) (lo' := [(0, (2, (Ad E 1))), (1, (1, a)), (3, (1, b)), (5, (1, x)), (7, (1, y)), (9, (1, z1)), (11, (1, z4)), (13, (1, q7)), (15, (1, q8)), (17, (1, q9)), (19, (1, q10))]) rfl ?_
        refine r_putIK hX hP rfl fp_12_644 hS (by first | decide | omega) (by first | decide | omega) (fun h27 => ?_)
        refine r_ex hX hP 2 (pc' := 84) (st' := [(2, (Ad E 1)), (2, (Ad E 1))]) (lo' := [(0, (2, (Ad E 1))), (1, (1, a)), (3, (1, b)), (5, (1, x)), (7, (1, y)), (9, (1, z1)), (11, (1, z4)), (13, (1, q7)), (15, (1, q8)), (17, (1, q9)), (19, (1, q10))]) rfl ?_
        refine r_getKI hX hP rfl fl_12_644 hS (x := 0) h27 ?_
        refine r_if_eq hX hP rfl (tgt := 94) rfl (by first | decide | omega) (by first | decide | omega) (fun c28 => ?_) (fun c28 => ?_)
        · skip
          refine r_ex hX hP 3 (pc' := 99) (st' := [(1, (q7 * q8)), (2, (Ad E 1))]) (lo' := [(0, (2, (Ad E 1))), (1, (1, a)), (3, (1, b)), (5, (1, x)), (7, (1, y)), (9, (1, z1)), (11, (1, z4)), (13, (1, q7)), (15, (1, q8)), (17, (1, q9)), (19, (1, q10))]) rfl ?_
          have m29b := mul_le_td (p := q7) (q := q8) (by first | decide | omega) q18b.2.2.1 (by first | decide | omega) (by first | decide | omega)
          obtain ⟨m29, m29e⟩ : ∃ q : Int, q = (q7 * q8) := ⟨_, rfl⟩
          rw [← m29e] at m29b ⊢
          refine r_putLK hX hP rfl fp_12_649 hS (by first | decide | omega) (by first | decide | omega) (fun h30 => ?_)
          refine r_ex hX hP 2 (pc' := 104) (st' := [(2, (Ad E 1)), (2, (Ad E 1))]) (lo' := [(0, (2, (Ad E 1))), (1, (1, a)), (3, (1, b)), (5, (1, x)), (7, (1, y)), (9, (1, z1)), (11, (1, z4)), (13, (1, q7)), (15, (1, q8)), (17, (1, q9)), (19, (1, q10))]) rfl ?_
          refine r_getKI hX hP rfl fl_12_644 hS (x := 0) h27 ?_
          refine r_if_eq hX hP rfl (tgt := 114) rfl (by first | decide | omega) (by first | decide | omega) (fun c31 => ?_) (fun c31 => ?_)
          · skip
            refine r_ex hX hP 3 (pc' := 119) (st' := [(1, (q9 * q10)), (2, (Ad E 1))]) (lo' := [(0, (2, (Ad E 1))), (1, (1, a)), (3, (1, b)), (5, (1, x)), (7, (1, y)), (9, (1, z1)), (11, (1, z4)), (13, (1, q7)), (15, (1, q8)), (17, (1, q9)), (19, (1, q10))]) rfl ?_
            have m32b := mul_le_td (p := q9) (q := q10) (by first | decide | omega) q25b.2.2.1 (by first | decide | omega) (by first | decide | omega)
            obtain ⟨m32, m32e⟩ : ∃ q : Int, q = (q9 * q10) := ⟨_, rfl⟩
            rw [← m32e] at m32b ⊢
            refine r_putLK hX hP rfl fp_12_652 hS (by first | decide | omega) (by first | decide | omega) (fun h33 => ?_)
            exact r_retV hX hP rfl rfl (by first | decide | omega) (by first | decide | omega) ⟨rfl, ⟨_, (hq_up (hq_up (hq_up (hq_refl _ _ _) rfl) rfl) rfl).symm⟩, rfl, m29, h30, m32, h33, (by first | decide | omega), (by first | decide | omega), (by first | decide | omega), (by first | decide | omega)⟩
          · skip
            exfalso; omega
        · skip
          exfalso; omega
      · skip
        refine r_ex hX hP 2 (pc' := 79) (st' := [(0, 1), (2, (Ad E 1))]) (lo' := [(0, (2, (Ad E 1))), (1, (1, a)), (3, (1, b)), (5, (1, x)), (7, (1, y)), (9, (1, z1)), (11, (1, z4)), (13, (1, q7)), (15, (1, q8)), (17, (1, q9)), (19, (1, q10))]) rfl ?_
        refine r_putIK hX hP rfl fp_12_644 hS (by first | decide | omega) (by first | decide | omega) (fun h34 => ?_)
        refine r_ex hX hP 2 (pc' := 84) (st' := [(2, (Ad E 1)), (2, (Ad E 1))]) (lo' := [(0, (2, (Ad E 1))), (1, (1, a)), (3, (1, b)), (5, (1, x)), (7, (1, y)), (9, (1, z1)), (11, (1, z4)), (13, (1, q7)), (15, (1, q8)), (17, (1, q9)), (19, (1, q10))]) rfl ?_
        refine r_getKI hX hP rfl fl_12_644 hS (x := 1) h34 ?_
        refine r_if_eq hX hP rfl (tgt := 94) rfl (by first | decide | omega) (by first | decide | omega) (fun c35 => ?_) (fun c35 => ?_)
        · skip
          exfalso; omega
        · skip
          refine r_ex hX hP 2 (pc' := 99) (st' := [(1, 1), (2, (Ad E 1))]) (lo' := [(0, (2, (Ad E 1))), (1, (1, a)), (3, (1, b)), (5, (1, x)), (7, (1, y)), (9, (1, z1)), (11, (1, z4)), (13, (1, q7)), (15, (1, q8)), (17, (1, q9)), (19, (1, q10))]) rfl ?_
          refine r_putLK hX hP rfl fp_12_649 hS (by first | decide | omega) (by first | decide | omega) (fun h36 => ?_)
          refine r_ex hX hP 2 (pc' := 104) (st' := [(2, (Ad E 1)), (2, (Ad E 1))]) (lo' := [(0, (2, (Ad E 1))), (1, (1, a)), (3, (1, b)), (5, (1, x)), (7, (1, y)), (9, (1, z1)), (11, (1, z4)), (13, (1, q7)), (15, (1, q8)), (17, (1, q9)), (19, (1, q10))]) rfl ?_
          refine r_getKI hX hP rfl fl_12_644 hS (x := 1) h34 ?_
          refine r_if_eq hX hP rfl (tgt := 114) rfl (by first | decide | omega) (by first | decide | omega) (fun c37 => ?_) (fun c37 => ?_)
          · skip
            exfalso; omega
          · skip
            refine r_ex hX hP 2 (pc' := 119) (st' := [(1, 1), (2, (Ad E 1))]) (lo' := [(0, (2, (Ad E 1))), (1, (1, a)), (3, (1, b)), (5, (1, x)), (7, (1, y)), (9, (1, z1)), (11, (1, z4)), (13, (1, q7)), (15, (1, q8)), (17, (1, q9)), (19, (1, q10))]) rfl ?_
            refine r_putLK hX hP rfl fp_12_652 hS (by first | decide | omega) (by first | decide | omega) (fun h38 => ?_)
            exact r_retV hX hP rfl rfl (by first | decide | omega) (by first | decide | omega) ⟨rfl, ⟨_, (hq_up (hq_up (hq_up (hq_refl _ _ _) rfl) rfl) rfl).symm⟩, rfl, 1, h36, 1, h38, (by first | decide | omega), (by first | decide | omega), (by first | decide | omega), (by first | decide | omega)⟩
set_option maxRecDepth 100000 in
set_option maxHeartbeats 4000000 in
theorem c_X12_isPlain (E : En) (S : Sg) (G : Gh) (e : Int) (hS : S (Ad E 1) = 1) (e_a : 0 ≤ e) (e_b : e ≤ 15) : Calls E mX12_isPlain [(2, (Ad E 1)), (0, e)] S G 0 0 0 (fun r S' G' => S = S' ∧ G = G' ∧ ∃ z : Int, r = some (0, z) ∧ 0 ≤ z ∧ z ≤ 1) := by
  refine calls_by [(0, (2, (Ad E 1))), (1, (0, e))] rfl rfl (Nat.le_of_ble_eq_true rfl) (fun X hX => ?_)
  have hP := hPX12_isPlain
  refine r_ex hX hP 1 (pc' := 1) (st' := [(2, (Ad E 1))]) (lo' := [(0, (2, (Ad E 1))), (1, (0, e))]) rfl ?_
  refine r_getC hX hP rfl fl_12_95 hS (fun s1 => ?_)
  refine r_ex hX hP 1 (pc' := 5) (st' := [(0, e), (2, (Ad E 27))]) (lo' := [(0, (2, (Ad E 1))), (1, (0, e))]) rfl ?_
  refine r_iald hX hP rfl al_27 s1 (by first | decide | omega) (by first | decide | omega) (fun x2 x2e x2a x2b => ?_)
  refine r_if_le hX hP rfl (tgt := 11) rfl (by first | decide | omega) (by first | decide | omega) (fun c3 => ?_) (fun c3 => ?_)
  · skip
    refine r_ex hX hP 2 (pc' := 13) (st' := []) (lo' := [(0, (2, (Ad E 1))), (1, (0, e)), (2, (0, 0))]) rfl ?_
    have loop13 : ∀ (nF : Nat) (l2_h13 : Int), 0 ≤ l2_h13 → l2_h13 ≤ 30 → 30 - l2_h13 < (nF : Int) → X 0 0 13 [] [(0, (2, (Ad E 1))), (1, (0, e)), (2, (0, l2_h13))] S G := by
      intro nF
      induction nF with
      | zero => intro l2_h13 yh13_0 yh13_1 ym13; exfalso; omega
      | succ nF ih13 =>
        intro l2_h13 yh13_0 yh13_1 ym13
        refine r_ex hX hP 2 (pc' := 15) (st' := [(2, (Ad E 1)), (0, l2_h13)]) (lo' := [(0, (2, (Ad E 1))), (1, (0, e)), (2, (0, l2_h13))]) rfl ?_
        refine r_getC hX hP rfl fl_12_92 hS (fun s4 => ?_)
        refine r_ex hX hP 1 (pc' := 19) (st' := [(0, e), (2, (Ad E 26)), (0, l2_h13)]) (lo' := [(0, (2, (Ad E 1))), (1, (0, e)), (2, (0, l2_h13))]) rfl ?_
        refine r_iald hX hP rfl al_26 s4 (by first | decide | omega) (by first | decide | omega) (fun x5 x5e x5a x5b => ?_)
        refine r_ic_ge hX hP rfl (tgt := 47) rfl (by first | decide | omega) (by first | decide | omega) (by first | decide | omega) (by first | decide | omega) (fun c6 => ?_) (fun c6 => ?_)
        · skip
          refine r_ex hX hP 1 (pc' := 48) (st' := [(0, 1)]) (lo' := [(0, (2, (Ad E 1))), (1, (0, e)), (2, (0, l2_h13))]) rfl ?_
          exact r_retZ hX hP rfl rfl (by first | decide | omega) (by first | decide | omega) (by first | decide | omega) (by first | decide | omega) ⟨rfl, rfl, 1, rfl, (by first | decide | omega)⟩
        · skip
          refine r_ex hX hP 1 (pc' := 24) (st' := [(2, (Ad E 1))]) (lo' := [(0, (2, (Ad E 1))), (1, (0, e)), (2, (0, l2_h13))]) rfl ?_
          refine r_getC hX hP rfl fl_12_101 hS (fun s7 => ?_)
          refine r_ex hX hP 5 (pc' := 33) (st' := [(0, ((30 * e) + l2_h13)), (2, (Ad E 29))]) (lo' := [(0, (2, (Ad E 1))), (1, (0, e)), (2, (0, l2_h13))]) rfl ?_
          refine r_iald hX hP rfl al_29 s7 (by first | decide | omega) (by first | decide | omega) (fun x8 x8e x8a x8b => ?_)
          refine r_ex hX hP 1 (pc' := 36) (st' := [(0, 6), (0, x8)]) (lo' := [(0, (2, (Ad E 1))), (1, (0, e)), (2, (0, l2_h13))]) rfl ?_
          refine r_ic_ne hX hP rfl (tgt := 41) rfl (by first | decide | omega) (by first | decide | omega) (by first | decide | omega) (by first | decide | omega) (fun c9 => ?_) (fun c9 => ?_)
          · skip
            refine r_ex hX hP 2 (pc' := 13) (st' := []) (lo' := [(0, (2, (Ad E 1))), (1, (0, e)), (2, (0, (l2_h13 + 1)))]) rfl ?_
            exact ih13 (l2_h13 + 1) (by first | decide | omega) (by first | decide | omega) (by first | decide | omega)
          · skip
            refine r_ex hX hP 1 (pc' := 40) (st' := [(0, 0)]) (lo' := [(0, (2, (Ad E 1))), (1, (0, e)), (2, (0, l2_h13))]) rfl ?_
            exact r_retZ hX hP rfl rfl (by first | decide | omega) (by first | decide | omega) (by first | decide | omega) (by first | decide | omega) ⟨rfl, rfl, 0, rfl, (by first | decide | omega)⟩
    exact loop13 ((30 - 0) + 1 : Int).toNat 0 (by first | decide | omega) (by first | decide | omega) (by first | decide | omega)
  · skip
    refine r_ex hX hP 1 (pc' := 10) (st' := [(0, 0)]) (lo' := [(0, (2, (Ad E 1))), (1, (0, e))]) rfl ?_
    exact r_retZ hX hP rfl rfl (by first | decide | omega) (by first | decide | omega) (by first | decide | omega) (by first | decide | omega) ⟨rfl, rfl, 0, rfl, (by first | decide | omega)⟩
set_option maxRecDepth 100000 in
set_option maxHeartbeats 4000000 in
theorem c_X12_changes (E : En) (S : Sg) (G : Gh) (e : Int) (hS : S (Ad E 1) = 1) (numberTop : Int) (numberTop_e : numberTop = G 1 (Ad E 1) 131) (numberLow : Int) (numberLow_e : numberLow = G 1 (Ad E 1) 132) (strikeTop : Int) (strikeTop_e : strikeTop = G 1 (Ad E 1) 129) (strikeLow : Int) (strikeLow_e : strikeLow = G 1 (Ad E 1) 130) (isFar : Int) (isFar_e : isFar = G 1 (Ad E 1) 135) (on : Int) (on_e : on = G 1 (Ad E 1) 128) (events : Int) (events_e : events = G 1 (Ad E 1) 9) (cm : Int) (cm_e : cm = G 26 (Ad E 26) e) (e_a : 0 ≤ e) (e_b : e ≤ 15) (pre0 : 1 ≤ numberTop) (pre1 : 1 ≤ numberLow) (pre2 : 1 ≤ strikeTop) (pre3 : 1 ≤ strikeLow) (pre4 : numberTop ≤ 1000000000000) (pre5 : numberLow ≤ 1000000000000) (pre6 : strikeTop ≤ 1000000000000) (pre7 : strikeLow ≤ 1000000000000) (pre8 : isFar = 0) (pre9 : 0 ≤ on) (pre10 : e < events) (mi : MI E G) : Calls E mX12_changes [(2, (Ad E 1)), (0, e)] S G 5 0 0 (fun r S' G' => S = S' ∧ (∃ G1, hv [128, 129, 130, 131, 132, 133, 134, 135, 136, 137] [] G G1 = G') ∧ r = none ∧ ∃ n1' : Int, n1' = G' 1 (Ad E 1) 131 ∧ ∃ n2' : Int, n2' = G' 1 (Ad E 1) 132 ∧ ∃ s1' : Int, s1' = G' 1 (Ad E 1) 129 ∧ ∃ s2' : Int, s2' = G' 1 (Ad E 1) 130 ∧ 1 ≤ n1' ∧ n1' ≤ 1000000000000 ∧ 1 ≤ n2' ∧ n2' ≤ 1000000000000 ∧ 1 ≤ s1' ∧ s1' ≤ 1000000000000 ∧ 1 ≤ s2' ∧ s2' ≤ 1000000000000) := by
  refine calls_by [(0, (2, (Ad E 1))), (1, (0, e))] rfl rfl (Nat.le_of_ble_eq_true rfl) (fun X hX => ?_)
  have hP := hPX12_changes
  refine r_peekL hX (tl1 131 rfl (by decide)) hS (fun numberTop_o numberTop_oe numberTop_oa numberTop_ob => ?_)
  obtain rfl : numberTop = numberTop_o := numberTop_e.trans numberTop_oe.symm
  refine r_peekL hX (tl1 132 rfl (by decide)) hS (fun numberLow_o numberLow_oe numberLow_oa numberLow_ob => ?_)
  obtain rfl : numberLow = numberLow_o := numberLow_e.trans numberLow_oe.symm
  refine r_peekL hX (tl1 129 rfl (by decide)) hS (fun strikeTop_o strikeTop_oe strikeTop_oa strikeTop_ob => ?_)
  obtain rfl : strikeTop = strikeTop_o := strikeTop_e.trans strikeTop_oe.symm
  refine r_peekL hX (tl1 130 rfl (by decide)) hS (fun strikeLow_o strikeLow_oe strikeLow_oa strikeLow_ob => ?_)
  obtain rfl : strikeLow = strikeLow_o := strikeLow_e.trans strikeLow_oe.symm
  refine r_peekI hX (tl1 135 rfl (by decide)) hS (fun isFar_o isFar_oe isFar_oa isFar_ob => ?_)
  obtain rfl : isFar = isFar_o := isFar_e.trans isFar_oe.symm
  refine r_peekI hX (tl1 128 rfl (by decide)) hS (fun on_o on_oe on_oa on_ob => ?_)
  obtain rfl : on = on_o := on_e.trans on_oe.symm
  refine r_peekI hX (tl1 9 rfl (by decide)) hS (fun events_o events_oe events_oa events_ob => ?_)
  obtain rfl : events = events_o := events_e.trans events_oe.symm
  refine r_labC hX (tl1 38 rfl (by decide)) hS (fun s1 => ?_)
  refine r_apeekI hX al_26 s1 (i := e) (by first | decide | omega) (by first | decide | omega) (fun cm_o cm_oe cm_oa cm_ob => ?_)
  obtain rfl : cm = cm_o := cm_e.trans cm_oe.symm
  refine r_ex hX hP 8 (pc' := 9) (st' := [(1, 1), (2, (Ad E 1))]) (lo' := [(0, (2, (Ad E 1))), (1, (0, e)), (2, (0, (-1))), (3, (0, 0)), (4, (0, 0))]) rfl ?_
  refine r_putLK hX hP rfl fp_12_635 hS (by first | decide | omega) (by first | decide | omega) (fun h2 => ?_)
  refine r_ex hX hP 2 (pc' := 14) (st' := [(1, 1), (2, (Ad E 1))]) (lo' := [(0, (2, (Ad E 1))), (1, (0, e)), (2, (0, (-1))), (3, (0, 0)), (4, (0, 0))]) rfl ?_
  refine r_putLK hX hP rfl fp_12_638 hS (by first | decide | omega) (by first | decide | omega) (fun h3 => ?_)
  refine r_ex hX hP 1 (pc' := 18) (st' := [(2, (Ad E 1))]) (lo' := [(0, (2, (Ad E 1))), (1, (0, e)), (2, (0, (-1))), (3, (0, 0)), (4, (0, 0))]) rfl ?_
  refine r_getC hX hP rfl fl_12_92 hS (fun _ => ?_)
  refine r_ex hX hP 1 (pc' := 22) (st' := [(0, e), (2, (Ad E 26))]) (lo' := [(0, (2, (Ad E 1))), (1, (0, e)), (2, (0, (-1))), (3, (0, 0)), (4, (0, 0))]) rfl ?_
  refine r_ialdK hX hP rfl al_26 s1 (by first | decide | omega) (by first | decide | omega) (x := cm) cm_e ?_
  refine r_ex hX hP 3 (pc' := 27) (st' := []) (lo' := [(0, (2, (Ad E 1))), (1, (0, e)), (2, (0, (-1))), (3, (0, 0)), (4, (0, 0)), (5, (0, (cm - 1)))]) rfl ?_
  have loop27 : ∀ (nF : Nat) (l2_h27 l3_h27 l4_h27 l5_h27 : Int), (-1) ≤ l2_h27 → l2_h27 ≤ 479 → 0 ≤ l3_h27 → l3_h27 ≤ 1 → 0 ≤ l4_h27 → l4_h27 ≤ 1 → (-1) ≤ l5_h27 → l5_h27 ≤ 29 → l5_h27 < cm → (l2_h27 < 0 ∨ (1 ≤ (up (up G 1 (Ad E 1) 133 1) 1 (Ad E 1) 134 1) 30 (Ad E 30) l2_h27 ∧ 1 ≤ (up (up G 1 (Ad E 1) 133 1) 1 (Ad E 1) 134 1) 31 (Ad E 31) l2_h27)) → l5_h27 - (-1) < (nF : Int) → X 0 0 27 [] [(0, (2, (Ad E 1))), (1, (0, e)), (2, (0, l2_h27)), (3, (0, l3_h27)), (4, (0, l4_h27)), (5, (0, l5_h27))] S (up (up G 1 (Ad E 1) 133 1) 1 (Ad E 1) 134 1) := by
    intro nF
    induction nF with
    | zero => intro l2_h27 l3_h27 l4_h27 l5_h27 yh27_0 yh27_1 yh27_2 yh27_3 yh27_4 yh27_5 yh27_6 yh27_7 yh27_8 yh27_9 ym27; exfalso; omega
    | succ nF ih27 =>
      intro l2_h27 l3_h27 l4_h27 l5_h27 yh27_0 yh27_1 yh27_2 yh27_3 yh27_4 yh27_5 yh27_6 yh27_7 yh27_8 yh27_9 ym27
      refine r_ex hX hP 1 (pc' := 29) (st' := [(0, l5_h27)]) (lo' := [(0, (2, (Ad E 1))), (1, (0, e)), (2, (0, l2_h27)), (3, (0, l3_h27)), (4, (0, l4_h27)), (5, (0, l5_h27))]) rfl ?_
      refine r_if_lt hX hP rfl (tgt := 128) rfl (by first | decide | omega) (by first | decide | omega) (fun c4 => ?_) (fun c4 => ?_)
      · skip
        refine r_ex hX hP 1 (pc' := 129) (st' := [(0, l3_h27)]) (lo' := [(0, (2, (Ad E 1))), (1, (0, e)), (2, (0, l2_h27)), (3, (0, l3_h27)), (4, (0, l4_h27)), (5, (0, l5_h27))]) rfl ?_
        refine r_if_eq hX hP rfl (tgt := 206) rfl (by first | decide | omega) (by first | decide | omega) (fun c5 => ?_) (fun c5 => ?_)
        · skip
          refine r_ex hX hP 1 (pc' := 208) (st' := [(0, l4_h27)]) (lo' := [(0, (2, (Ad E 1))), (1, (0, e)), (2, (0, l2_h27)), (3, (0, l3_h27)), (4, (0, l4_h27)), (5, (0, l5_h27))]) rfl ?_
          refine r_if_eq hX hP rfl (tgt := 344) rfl (by first | decide | omega) (by first | decide | omega) (fun c6 => ?_) (fun c6 => ?_)
          · skip
            refine r_ex hX hP 1 (pc' := 345) (st' := [(2, (Ad E 1))]) (lo' := [(0, (2, (Ad E 1))), (1, (0, e)), (2, (0, l2_h27)), (3, (0, l3_h27)), (4, (0, l4_h27)), (5, (0, l5_h27))]) rfl ?_
            refine r_getKI hX hP rfl fl_12_655 hS (x := on) on_e ?_
            refine r_if_lt hX hP rfl (tgt := 358) rfl (by first | decide | omega) (by first | decide | omega) (fun c7 => ?_) (fun c7 => ?_)
            · skip
              exfalso; omega
            · skip
              refine r_ex hX hP 1 (pc' := 352) (st' := [(2, (Ad E 1))]) (lo' := [(0, (2, (Ad E 1))), (1, (0, e)), (2, (0, l2_h27)), (3, (0, l3_h27)), (4, (0, l4_h27)), (5, (0, l5_h27))]) rfl ?_
              refine r_getKI hX hP rfl fl_12_644 hS (x := isFar) isFar_e ?_
              refine r_if_eq hX hP rfl (tgt := 359) rfl (by first | decide | omega) (by first | decide | omega) (fun c8 => ?_) (fun c8 => ?_)
              · skip
                refine r_ex hX hP 2 (pc' := 361) (st' := [(2, (Ad E 1)), (2, (Ad E 1))]) (lo' := [(0, (2, (Ad E 1))), (1, (0, e)), (2, (0, l2_h27)), (3, (0, l3_h27)), (4, (0, l4_h27)), (5, (0, l5_h27))]) rfl ?_
                refine r_getKL hX hP rfl fl_12_662 hS (x := numberTop) numberTop_e ?_
                refine r_ex hX hP 1 (pc' := 365) (st' := [(2, (Ad E 1)), (1, numberTop), (2, (Ad E 1))]) (lo' := [(0, (2, (Ad E 1))), (1, (0, e)), (2, (0, l2_h27)), (3, (0, l3_h27)), (4, (0, l4_h27)), (5, (0, l5_h27))]) rfl ?_
                refine r_getKL hX hP rfl fl_12_665 hS (x := numberLow) numberLow_e ?_
                refine r_ex hX hP 1 (pc' := 369) (st' := [(2, (Ad E 1)), (1, numberLow), (1, numberTop), (2, (Ad E 1))]) (lo' := [(0, (2, (Ad E 1))), (1, (0, e)), (2, (0, l2_h27)), (3, (0, l3_h27)), (4, (0, l4_h27)), (5, (0, l5_h27))]) rfl ?_
                refine r_getKL hX hP rfl fl_12_635 hS (x := 1) h2 ?_
                refine r_ex hX hP 1 (pc' := 373) (st' := [(2, (Ad E 1)), (1, 1), (1, numberLow), (1, numberTop), (2, (Ad E 1))]) (lo' := [(0, (2, (Ad E 1))), (1, (0, e)), (2, (0, l2_h27)), (3, (0, l3_h27)), (4, (0, l4_h27)), (5, (0, l5_h27))]) rfl ?_
                refine r_getKL hX hP rfl fl_12_638 hS (x := 1) h3 ?_
                refine r_callV gd hX hP rfl cv_12_668 hS (d' := 4) (mc' := 0) (ms' := 0) (as' := [(1, numberTop), (1, numberLow), (1, 1), (1, 1)]) (st := []) (by first | decide | omega) (by first | decide | omega) (by first | decide | omega) rfl rfl (Nat.le_of_ble_eq_true rfl) (c_X12_times E S (up (up G 1 (Ad E 1) 133 1) 1 (Ad E 1) 134 1) numberTop numberLow 1 1 hS (by first | decide | omega) (by first | decide | omega) (by first | decide | omega) (by first | decide | omega) (by first | decide | omega) (by first | decide | omega) (by first | decide | omega) (by first | decide | omega)) ?_
                rintro _ _ _ ⟨rfl, ⟨G9, rfl⟩, rfl, prh10, prh10e, prh11, prh11e, f12, f13, f14, f15⟩
                refine r_peekL hX (tl1 136 rfl (by decide)) hS (fun o16 o16e o16a o16b => ?_)
                obtain rfl : prh10 = o16 := prh10e.trans o16e.symm
                refine r_peekL hX (tl1 137 rfl (by decide)) hS (fun o17 o17e o17a o17b => ?_)
                obtain rfl : prh11 = o17 := prh11e.trans o17e.symm
                refine r_ex hX hP 2 (pc' := 381) (st' := [(2, (Ad E 1)), (2, (Ad E 1))]) (lo' := [(0, (2, (Ad E 1))), (1, (0, e)), (2, (0, l2_h27)), (3, (0, l3_h27)), (4, (0, l4_h27)), (5, (0, l5_h27))]) rfl ?_
                refine r_getKL hX hP rfl fl_12_649 hS (x := prh10) prh10e ?_
                refine r_putLK hX hP rfl fp_12_662 hS (by first | decide | omega) (by first | decide | omega) (fun h18 => ?_)
                refine r_ex hX hP 2 (pc' := 389) (st' := [(2, (Ad E 1)), (2, (Ad E 1))]) (lo' := [(0, (2, (Ad E 1))), (1, (0, e)), (2, (0, l2_h27)), (3, (0, l3_h27)), (4, (0, l4_h27)), (5, (0, l5_h27))]) rfl ?_
                refine r_getKL hX hP rfl fl_12_652 hS (x := prh11) prh11e ?_
                refine r_putLK hX hP rfl fp_12_665 hS (by first | decide | omega) (by first | decide | omega) (fun h19 => ?_)
                refine r_ex hX hP 2 (pc' := 397) (st' := [(2, (Ad E 1)), (2, (Ad E 1))]) (lo' := [(0, (2, (Ad E 1))), (1, (0, e)), (2, (0, l2_h27)), (3, (0, l3_h27)), (4, (0, l4_h27)), (5, (0, l5_h27))]) rfl ?_
                refine r_getKL hX hP rfl fl_12_672 hS (x := strikeTop) strikeTop_e ?_
                refine r_ex hX hP 1 (pc' := 401) (st' := [(2, (Ad E 1)), (1, strikeTop), (2, (Ad E 1))]) (lo' := [(0, (2, (Ad E 1))), (1, (0, e)), (2, (0, l2_h27)), (3, (0, l3_h27)), (4, (0, l4_h27)), (5, (0, l5_h27))]) rfl ?_
                refine r_getKL hX hP rfl fl_12_675 hS (x := strikeLow) strikeLow_e ?_
                refine r_ex hX hP 1 (pc' := 405) (st' := [(2, (Ad E 1)), (1, strikeLow), (1, strikeTop), (2, (Ad E 1))]) (lo' := [(0, (2, (Ad E 1))), (1, (0, e)), (2, (0, l2_h27)), (3, (0, l3_h27)), (4, (0, l4_h27)), (5, (0, l5_h27))]) rfl ?_
                refine r_getKL hX hP rfl fl_12_638 hS (x := 1) h3 ?_
                refine r_ex hX hP 1 (pc' := 409) (st' := [(2, (Ad E 1)), (1, 1), (1, strikeLow), (1, strikeTop), (2, (Ad E 1))]) (lo' := [(0, (2, (Ad E 1))), (1, (0, e)), (2, (0, l2_h27)), (3, (0, l3_h27)), (4, (0, l4_h27)), (5, (0, l5_h27))]) rfl ?_
                refine r_getKL hX hP rfl fl_12_635 hS (x := 1) h2 ?_
                refine r_callV gd hX hP rfl cv_12_668 hS (d' := 4) (mc' := 0) (ms' := 0) (as' := [(1, strikeTop), (1, strikeLow), (1, 1), (1, 1)]) (st := []) (by first | decide | omega) (by first | decide | omega) (by first | decide | omega) rfl rfl (Nat.le_of_ble_eq_true rfl) (c_X12_times E S (up (up (hv [135, 136, 137] [] (up (up G 1 (Ad E 1) 133 1) 1 (Ad E 1) 134 1) G9) 1 (Ad E 1) 131 prh10) 1 (Ad E 1) 132 prh11) strikeTop strikeLow 1 1 hS (by first | decide | omega) (by first | decide | omega) (by first | decide | omega) (by first | decide | omega) (by first | decide | omega) (by first | decide | omega) (by first | decide | omega) (by first | decide | omega)) ?_
                rintro _ _ _ ⟨rfl, ⟨G20, rfl⟩, rfl, prh21, prh21e, prh22, prh22e, f23, f24, f25, f26⟩
                refine r_peekL hX (tl1 136 rfl (by decide)) hS (fun o27 o27e o27a o27b => ?_)
                obtain rfl : prh21 = o27 := prh21e.trans o27e.symm
                refine r_peekL hX (tl1 137 rfl (by decide)) hS (fun o28 o28e o28a o28b => ?_)
                obtain rfl : prh22 = o28 := prh22e.trans o28e.symm
                refine r_ex hX hP 2 (pc' := 417) (st' := [(2, (Ad E 1)), (2, (Ad E 1))]) (lo' := [(0, (2, (Ad E 1))), (1, (0, e)), (2, (0, l2_h27)), (3, (0, l3_h27)), (4, (0, l4_h27)), (5, (0, l5_h27))]) rfl ?_
                refine r_getKL hX hP rfl fl_12_649 hS (x := prh21) prh21e ?_
                refine r_putLK hX hP rfl fp_12_672 hS (by first | decide | omega) (by first | decide | omega) (fun h29 => ?_)
                refine r_ex hX hP 2 (pc' := 425) (st' := [(2, (Ad E 1)), (2, (Ad E 1))]) (lo' := [(0, (2, (Ad E 1))), (1, (0, e)), (2, (0, l2_h27)), (3, (0, l3_h27)), (4, (0, l4_h27)), (5, (0, l5_h27))]) rfl ?_
                refine r_getKL hX hP rfl fl_12_652 hS (x := prh22) prh22e ?_
                refine r_putLK hX hP rfl fp_12_675 hS (by first | decide | omega) (by first | decide | omega) (fun h30 => ?_)
                exact r_retV hX hP rfl rfl (by first | decide | omega) (by first | decide | omega) ⟨rfl, ⟨_, (hq_up (hq_up (hq_call (hq_up (hq_up (hq_call (hq_up (hq_up (hq_refl _ _ _) rfl) rfl) rfl) rfl) rfl) rfl) rfl) rfl).symm⟩, rfl, prh10, h18, prh11, h19, prh21, h29, prh22, h30, (by first | decide | omega), (by first | decide | omega), (by first | decide | omega), (by first | decide | omega)⟩
              · skip
                exfalso; omega
          · skip
            refine r_ex hX hP 2 (pc' := 214) (st' := []) (lo' := [(0, (2, (Ad E 1))), (1, (0, e)), (2, (0, l2_h27)), (3, (0, l3_h27)), (4, (0, l4_h27)), (5, (0, 0))]) rfl ?_
            have x323 : ∀ (l5_x323 factorTop_x323 factorLow_x323 isFar_x323 : Int) (Gx323 : Gh), factorTop_x323 = (hv [133, 134, 135] [] (up (up G 1 (Ad E 1) 133 1) 1 (Ad E 1) 134 1) Gx323) 1 (Ad E 1) 133 → factorLow_x323 = (hv [133, 134, 135] [] (up (up G 1 (Ad E 1) 133 1) 1 (Ad E 1) 134 1) Gx323) 1 (Ad E 1) 134 → isFar_x323 = (hv [133, 134, 135] [] (up (up G 1 (Ad E 1) 133 1) 1 (Ad E 1) 134 1) Gx323) 1 (Ad E 1) 135 → 0 ≤ l5_x323 → l5_x323 ≤ 30 → (-9223372036854775808) ≤ factorTop_x323 → factorTop_x323 ≤ 9223372036854775807 → (-9223372036854775808) ≤ factorLow_x323 → factorLow_x323 ≤ 9223372036854775807 → 0 ≤ isFar_x323 → isFar_x323 ≤ 1 → 1 ≤ factorLow_x323 → (isFar_x323 = 1 ∨ (factorLow_x323 ≤ 1000000000000 ∧ -1000000000000 ≤ factorTop_x323 ∧ factorTop_x323 ≤ 1000000000000)) → X 0 0 323 [] [(0, (2, (Ad E 1))), (1, (0, e)), (2, (0, l2_h27)), (3, (0, l3_h27)), (4, (0, l4_h27)), (5, (0, l5_x323))] S (hv [133, 134, 135] [] (up (up G 1 (Ad E 1) 133 1) 1 (Ad E 1) 134 1) Gx323) := by
              intro l5_x323 factorTop_x323 factorLow_x323 isFar_x323 Gx323 factorTop_x323_e factorLow_x323_e isFar_x323_e yx323_0 yx323_1 yx323_2 yx323_3 yx323_4 yx323_5 yx323_6 yx323_7 yx323_8 yx323_9
              refine r_ex hX hP 1 (pc' := 324) (st' := [(2, (Ad E 1))]) (lo' := [(0, (2, (Ad E 1))), (1, (0, e)), (2, (0, l2_h27)), (3, (0, l3_h27)), (4, (0, l4_h27)), (5, (0, l5_x323))]) rfl ?_
              refine r_getKI hX hP rfl fl_12_644 hS (x := isFar_x323) isFar_x323_e ?_
              refine r_if_ne hX hP rfl (tgt := 344) rfl (by first | decide | omega) (by first | decide | omega) (fun c31 => ?_) (fun c31 => ?_)
              · skip
                refine r_ex hX hP 1 (pc' := 345) (st' := [(2, (Ad E 1))]) (lo' := [(0, (2, (Ad E 1))), (1, (0, e)), (2, (0, l2_h27)), (3, (0, l3_h27)), (4, (0, l4_h27)), (5, (0, l5_x323))]) rfl ?_
                refine r_getKI hX hP rfl fl_12_655 hS (x := on) on_e ?_
                refine r_if_lt hX hP rfl (tgt := 358) rfl (by first | decide | omega) (by first | decide | omega) (fun c32 => ?_) (fun c32 => ?_)
                · skip
                  exfalso; omega
                · skip
                  refine r_ex hX hP 1 (pc' := 352) (st' := [(2, (Ad E 1))]) (lo' := [(0, (2, (Ad E 1))), (1, (0, e)), (2, (0, l2_h27)), (3, (0, l3_h27)), (4, (0, l4_h27)), (5, (0, l5_x323))]) rfl ?_
                  refine r_getKI hX hP rfl fl_12_644 hS (x := isFar_x323) isFar_x323_e ?_
                  refine r_if_eq hX hP rfl (tgt := 359) rfl (by first | decide | omega) (by first | decide | omega) (fun c33 => ?_) (fun c33 => ?_)
                  · skip
                    exfalso; omega
                  · skip
                    exact r_retV hX hP rfl rfl (by first | decide | omega) (by first | decide | omega) ⟨rfl, ⟨_, (hq_loop (hq_up (hq_up (hq_refl _ _ _) rfl) rfl) rfl).symm⟩, rfl, numberTop, numberTop_e, numberLow, numberLow_e, strikeTop, strikeTop_e, strikeLow, strikeLow_e, (by first | decide | omega), (by first | decide | omega), (by first | decide | omega), (by first | decide | omega)⟩
              · skip
                refine r_ex hX hP 1 (pc' := 331) (st' := [(2, (Ad E 1))]) (lo' := [(0, (2, (Ad E 1))), (1, (0, e)), (2, (0, l2_h27)), (3, (0, l3_h27)), (4, (0, l4_h27)), (5, (0, l5_x323))]) rfl ?_
                refine r_getKL hX hP rfl fl_12_635 hS (x := factorTop_x323) factorTop_x323_e ?_
                refine r_ex hX hP 1 (pc' := 335) (st' := [(1, 0), (1, factorTop_x323)]) (lo' := [(0, (2, (Ad E 1))), (1, (0, e)), (2, (0, l2_h27)), (3, (0, l3_h27)), (4, (0, l4_h27)), (5, (0, l5_x323))]) rfl ?_
                refine r_lc_gt hX hP rfl rfl (tgt := 344) rfl (by first | decide | omega) (by first | decide | omega) (by first | decide | omega) (by first | decide | omega) (fun c34 => ?_) (fun c34 => ?_)
                · skip
                  refine r_ex hX hP 1 (pc' := 345) (st' := [(2, (Ad E 1))]) (lo' := [(0, (2, (Ad E 1))), (1, (0, e)), (2, (0, l2_h27)), (3, (0, l3_h27)), (4, (0, l4_h27)), (5, (0, l5_x323))]) rfl ?_
                  refine r_getKI hX hP rfl fl_12_655 hS (x := on) on_e ?_
                  refine r_if_lt hX hP rfl (tgt := 358) rfl (by first | decide | omega) (by first | decide | omega) (fun c35 => ?_) (fun c35 => ?_)
                  · skip
                    exfalso; omega
                  · skip
                    refine r_ex hX hP 1 (pc' := 352) (st' := [(2, (Ad E 1))]) (lo' := [(0, (2, (Ad E 1))), (1, (0, e)), (2, (0, l2_h27)), (3, (0, l3_h27)), (4, (0, l4_h27)), (5, (0, l5_x323))]) rfl ?_
                    refine r_getKI hX hP rfl fl_12_644 hS (x := isFar_x323) isFar_x323_e ?_
                    refine r_if_eq hX hP rfl (tgt := 359) rfl (by first | decide | omega) (by first | decide | omega) (fun c36 => ?_) (fun c36 => ?_)
                    · skip
                      refine r_ex hX hP 2 (pc' := 361) (st' := [(2, (Ad E 1)), (2, (Ad E 1))]) (lo' := [(0, (2, (Ad E 1))), (1, (0, e)), (2, (0, l2_h27)), (3, (0, l3_h27)), (4, (0, l4_h27)), (5, (0, l5_x323))]) rfl ?_
                      refine r_getKL hX hP rfl fl_12_662 hS (x := numberTop) numberTop_e ?_
                      refine r_ex hX hP 1 (pc' := 365) (st' := [(2, (Ad E 1)), (1, numberTop), (2, (Ad E 1))]) (lo' := [(0, (2, (Ad E 1))), (1, (0, e)), (2, (0, l2_h27)), (3, (0, l3_h27)), (4, (0, l4_h27)), (5, (0, l5_x323))]) rfl ?_
                      refine r_getKL hX hP rfl fl_12_665 hS (x := numberLow) numberLow_e ?_
                      refine r_ex hX hP 1 (pc' := 369) (st' := [(2, (Ad E 1)), (1, numberLow), (1, numberTop), (2, (Ad E 1))]) (lo' := [(0, (2, (Ad E 1))), (1, (0, e)), (2, (0, l2_h27)), (3, (0, l3_h27)), (4, (0, l4_h27)), (5, (0, l5_x323))]) rfl ?_
                      refine r_getKL hX hP rfl fl_12_635 hS (x := factorTop_x323) factorTop_x323_e ?_
                      refine r_ex hX hP 1 (pc' := 373) (st' := [(2, (Ad E 1)), (1, factorTop_x323), (1, numberLow), (1, numberTop), (2, (Ad E 1))]) (lo' := [(0, (2, (Ad E 1))), (1, (0, e)), (2, (0, l2_h27)), (3, (0, l3_h27)), (4, (0, l4_h27)), (5, (0, l5_x323))]) rfl ?_
                      refine r_getKL hX hP rfl fl_12_638 hS (x := factorLow_x323) factorLow_x323_e ?_
                      refine r_callV gd hX hP rfl cv_12_668 hS (d' := 4) (mc' := 0) (ms' := 0) (as' := [(1, numberTop), (1, numberLow), (1, factorTop_x323), (1, factorLow_x323)]) (st := []) (by first | decide | omega) (by first | decide | omega) (by first | decide | omega) rfl rfl (Nat.le_of_ble_eq_true rfl) (c_X12_times E S (hv [133, 134, 135] [] (up (up G 1 (Ad E 1) 133 1) 1 (Ad E 1) 134 1) Gx323) numberTop numberLow factorTop_x323 factorLow_x323 hS (by first | decide | omega) (by first | decide | omega) (by first | decide | omega) (by first | decide | omega) (by first | decide | omega) (by first | decide | omega) (by first | decide | omega) (by first | decide | omega)) ?_
                      rintro _ _ _ ⟨rfl, ⟨G37, rfl⟩, rfl, prh38, prh38e, prh39, prh39e, f40, f41, f42, f43⟩
                      refine r_peekL hX (tl1 136 rfl (by decide)) hS (fun o44 o44e o44a o44b => ?_)
                      obtain rfl : prh38 = o44 := prh38e.trans o44e.symm
                      refine r_peekL hX (tl1 137 rfl (by decide)) hS (fun o45 o45e o45a o45b => ?_)
                      obtain rfl : prh39 = o45 := prh39e.trans o45e.symm
                      refine r_ex hX hP 2 (pc' := 381) (st' := [(2, (Ad E 1)), (2, (Ad E 1))]) (lo' := [(0, (2, (Ad E 1))), (1, (0, e)), (2, (0, l2_h27)), (3, (0, l3_h27)), (4, (0, l4_h27)), (5, (0, l5_x323))]) rfl ?_
                      refine r_getKL hX hP rfl fl_12_649 hS (x := prh38) prh38e ?_
                      refine r_putLK hX hP rfl fp_12_662 hS (by first | decide | omega) (by first | decide | omega) (fun h46 => ?_)
                      refine r_ex hX hP 2 (pc' := 389) (st' := [(2, (Ad E 1)), (2, (Ad E 1))]) (lo' := [(0, (2, (Ad E 1))), (1, (0, e)), (2, (0, l2_h27)), (3, (0, l3_h27)), (4, (0, l4_h27)), (5, (0, l5_x323))]) rfl ?_
                      refine r_getKL hX hP rfl fl_12_652 hS (x := prh39) prh39e ?_
                      refine r_putLK hX hP rfl fp_12_665 hS (by first | decide | omega) (by first | decide | omega) (fun h47 => ?_)
                      refine r_ex hX hP 2 (pc' := 397) (st' := [(2, (Ad E 1)), (2, (Ad E 1))]) (lo' := [(0, (2, (Ad E 1))), (1, (0, e)), (2, (0, l2_h27)), (3, (0, l3_h27)), (4, (0, l4_h27)), (5, (0, l5_x323))]) rfl ?_
                      refine r_getKL hX hP rfl fl_12_672 hS (x := strikeTop) strikeTop_e ?_
                      refine r_ex hX hP 1 (pc' := 401) (st' := [(2, (Ad E 1)), (1, strikeTop), (2, (Ad E 1))]) (lo' := [(0, (2, (Ad E 1))), (1, (0, e)), (2, (0, l2_h27)), (3, (0, l3_h27)), (4, (0, l4_h27)), (5, (0, l5_x323))]) rfl ?_
                      refine r_getKL hX hP rfl fl_12_675 hS (x := strikeLow) strikeLow_e ?_
                      refine r_ex hX hP 1 (pc' := 405) (st' := [(2, (Ad E 1)), (1, strikeLow), (1, strikeTop), (2, (Ad E 1))]) (lo' := [(0, (2, (Ad E 1))), (1, (0, e)), (2, (0, l2_h27)), (3, (0, l3_h27)), (4, (0, l4_h27)), (5, (0, l5_x323))]) rfl ?_
                      refine r_getKL hX hP rfl fl_12_638 hS (x := factorLow_x323) factorLow_x323_e ?_
                      refine r_ex hX hP 1 (pc' := 409) (st' := [(2, (Ad E 1)), (1, factorLow_x323), (1, strikeLow), (1, strikeTop), (2, (Ad E 1))]) (lo' := [(0, (2, (Ad E 1))), (1, (0, e)), (2, (0, l2_h27)), (3, (0, l3_h27)), (4, (0, l4_h27)), (5, (0, l5_x323))]) rfl ?_
                      refine r_getKL hX hP rfl fl_12_635 hS (x := factorTop_x323) factorTop_x323_e ?_
                      refine r_callV gd hX hP rfl cv_12_668 hS (d' := 4) (mc' := 0) (ms' := 0) (as' := [(1, strikeTop), (1, strikeLow), (1, factorLow_x323), (1, factorTop_x323)]) (st := []) (by first | decide | omega) (by first | decide | omega) (by first | decide | omega) rfl rfl (Nat.le_of_ble_eq_true rfl) (c_X12_times E S (up (up (hv [135, 136, 137] [] (hv [133, 134, 135] [] (up (up G 1 (Ad E 1) 133 1) 1 (Ad E 1) 134 1) Gx323) G37) 1 (Ad E 1) 131 prh38) 1 (Ad E 1) 132 prh39) strikeTop strikeLow factorLow_x323 factorTop_x323 hS (by first | decide | omega) (by first | decide | omega) (by first | decide | omega) (by first | decide | omega) (by first | decide | omega) (by first | decide | omega) (by first | decide | omega) (by first | decide | omega)) ?_
                      rintro _ _ _ ⟨rfl, ⟨G48, rfl⟩, rfl, prh49, prh49e, prh50, prh50e, f51, f52, f53, f54⟩
                      refine r_peekL hX (tl1 136 rfl (by decide)) hS (fun o55 o55e o55a o55b => ?_)
                      obtain rfl : prh49 = o55 := prh49e.trans o55e.symm
                      refine r_peekL hX (tl1 137 rfl (by decide)) hS (fun o56 o56e o56a o56b => ?_)
                      obtain rfl : prh50 = o56 := prh50e.trans o56e.symm
                      refine r_ex hX hP 2 (pc' := 417) (st' := [(2, (Ad E 1)), (2, (Ad E 1))]) (lo' := [(0, (2, (Ad E 1))), (1, (0, e)), (2, (0, l2_h27)), (3, (0, l3_h27)), (4, (0, l4_h27)), (5, (0, l5_x323))]) rfl ?_
                      refine r_getKL hX hP rfl fl_12_649 hS (x := prh49) prh49e ?_
                      refine r_putLK hX hP rfl fp_12_672 hS (by first | decide | omega) (by first | decide | omega) (fun h57 => ?_)
                      refine r_ex hX hP 2 (pc' := 425) (st' := [(2, (Ad E 1)), (2, (Ad E 1))]) (lo' := [(0, (2, (Ad E 1))), (1, (0, e)), (2, (0, l2_h27)), (3, (0, l3_h27)), (4, (0, l4_h27)), (5, (0, l5_x323))]) rfl ?_
                      refine r_getKL hX hP rfl fl_12_652 hS (x := prh50) prh50e ?_
                      refine r_putLK hX hP rfl fp_12_675 hS (by first | decide | omega) (by first | decide | omega) (fun h58 => ?_)
                      exact r_retV hX hP rfl rfl (by first | decide | omega) (by first | decide | omega) ⟨rfl, ⟨_, (hq_up (hq_up (hq_call (hq_up (hq_up (hq_call (hq_loop (hq_up (hq_up (hq_refl _ _ _) rfl) rfl) rfl) rfl) rfl) rfl) rfl) rfl) rfl).symm⟩, rfl, prh38, h46, prh39, h47, prh49, h57, prh50, h58, (by first | decide | omega), (by first | decide | omega), (by first | decide | omega), (by first | decide | omega)⟩
                    · skip
                      exfalso; omega
                · skip
                  refine r_ex hX hP 2 (pc' := 341) (st' := [(0, (-1)), (2, (Ad E 1))]) (lo' := [(0, (2, (Ad E 1))), (1, (0, e)), (2, (0, l2_h27)), (3, (0, l3_h27)), (4, (0, l4_h27)), (5, (0, l5_x323))]) rfl ?_
                  refine r_putIK hX hP rfl fp_12_655 hS (by first | decide | omega) (by first | decide | omega) (fun h59 => ?_)
                  refine r_ex hX hP 1 (pc' := 345) (st' := [(2, (Ad E 1))]) (lo' := [(0, (2, (Ad E 1))), (1, (0, e)), (2, (0, l2_h27)), (3, (0, l3_h27)), (4, (0, l4_h27)), (5, (0, l5_x323))]) rfl ?_
                  refine r_getKI hX hP rfl fl_12_655 hS (x := (-1)) h59 ?_
                  refine r_if_lt hX hP rfl (tgt := 358) rfl (by first | decide | omega) (by first | decide | omega) (fun c60 => ?_) (fun c60 => ?_)
                  · skip
                    exact r_retV hX hP rfl rfl (by first | decide | omega) (by first | decide | omega) ⟨rfl, ⟨_, (hq_up (hq_loop (hq_up (hq_up (hq_refl _ _ _) rfl) rfl) rfl) rfl).symm⟩, rfl, numberTop, numberTop_e, numberLow, numberLow_e, strikeTop, strikeTop_e, strikeLow, strikeLow_e, (by first | decide | omega), (by first | decide | omega), (by first | decide | omega), (by first | decide | omega)⟩
                  · skip
                    exfalso; omega
            have loop214 : ∀ (nF : Nat) (l5_h214 factorTop_h214 factorLow_h214 isFar_h214 : Int) (Gh214 : Gh), factorTop_h214 = (hv [133, 134, 135] [] (up (up G 1 (Ad E 1) 133 1) 1 (Ad E 1) 134 1) Gh214) 1 (Ad E 1) 133 → factorLow_h214 = (hv [133, 134, 135] [] (up (up G 1 (Ad E 1) 133 1) 1 (Ad E 1) 134 1) Gh214) 1 (Ad E 1) 134 → isFar_h214 = (hv [133, 134, 135] [] (up (up G 1 (Ad E 1) 133 1) 1 (Ad E 1) 134 1) Gh214) 1 (Ad E 1) 135 → 0 ≤ l5_h214 → l5_h214 ≤ 30 → (-9223372036854775808) ≤ factorTop_h214 → factorTop_h214 ≤ 9223372036854775807 → (-9223372036854775808) ≤ factorLow_h214 → factorLow_h214 ≤ 9223372036854775807 → 0 ≤ isFar_h214 → isFar_h214 ≤ 1 → 1 ≤ factorLow_h214 → (isFar_h214 = 1 ∨ (factorLow_h214 ≤ 1000000000000 ∧ -1000000000000 ≤ factorTop_h214 ∧ factorTop_h214 ≤ 1000000000000)) → 30 - l5_h214 < (nF : Int) → X 0 0 214 [] [(0, (2, (Ad E 1))), (1, (0, e)), (2, (0, l2_h27)), (3, (0, l3_h27)), (4, (0, l4_h27)), (5, (0, l5_h214))] S (hv [133, 134, 135] [] (up (up G 1 (Ad E 1) 133 1) 1 (Ad E 1) 134 1) Gh214) := by
              intro nF
              induction nF with
              | zero => intro l5_h214 factorTop_h214 factorLow_h214 isFar_h214 Gh214 factorTop_h214_e factorLow_h214_e isFar_h214_e yh214_0 yh214_1 yh214_2 yh214_3 yh214_4 yh214_5 yh214_6 yh214_7 yh214_8 yh214_9 ym214; exfalso; omega
              | succ nF ih214 =>
                intro l5_h214 factorTop_h214 factorLow_h214 isFar_h214 Gh214 factorTop_h214_e factorLow_h214_e isFar_h214_e yh214_0 yh214_1 yh214_2 yh214_3 yh214_4 yh214_5 yh214_6 yh214_7 yh214_8 yh214_9 ym214
                refine r_ex hX hP 2 (pc' := 217) (st' := [(2, (Ad E 1)), (0, l5_h214)]) (lo' := [(0, (2, (Ad E 1))), (1, (0, e)), (2, (0, l2_h27)), (3, (0, l3_h27)), (4, (0, l4_h27)), (5, (0, l5_h214))]) rfl ?_
                refine r_getC hX hP rfl fl_12_92 hS (fun _ => ?_)
                refine r_ex hX hP 1 (pc' := 221) (st' := [(0, e), (2, (Ad E 26)), (0, l5_h214)]) (lo' := [(0, (2, (Ad E 1))), (1, (0, e)), (2, (0, l2_h27)), (3, (0, l3_h27)), (4, (0, l4_h27)), (5, (0, l5_h214))]) rfl ?_
                refine r_ialdK hX hP rfl al_26 s1 (by first | decide | omega) (by first | decide | omega) (x := cm) cm_e ?_
                refine r_ic_ge hX hP rfl (tgt := 323) rfl (by first | decide | omega) (by first | decide | omega) (by first | decide | omega) (by first | decide | omega) (fun c61 => ?_) (fun c61 => ?_)
                · skip
                  refine r_eqG (X := X) (hq_loop (hq_refl [133, 134, 135] [] _) rfl) ?_
                  exact x323 l5_h214 factorTop_h214 factorLow_h214 isFar_h214 _ factorTop_h214_e factorLow_h214_e isFar_h214_e (by first | decide | omega) (by first | decide | omega) (by first | decide | omega) (by first | decide | omega) (by first | decide | omega) (by first | decide | omega) (by first | decide | omega) (by first | decide | omega) (by first | decide | omega) (by first | decide | omega)
                · skip
                  refine r_ex hX hP 1 (pc' := 226) (st' := [(2, (Ad E 1))]) (lo' := [(0, (2, (Ad E 1))), (1, (0, e)), (2, (0, l2_h27)), (3, (0, l3_h27)), (4, (0, l4_h27)), (5, (0, l5_h214))]) rfl ?_
                  refine r_getKI hX hP rfl fl_12_644 hS (x := isFar_h214) isFar_h214_e ?_
                  refine r_if_ne hX hP rfl (tgt := 323) rfl (by first | decide | omega) (by first | decide | omega) (fun c62 => ?_) (fun c62 => ?_)
                  · skip
                    refine r_eqG (X := X) (hq_loop (hq_refl [133, 134, 135] [] _) rfl) ?_
                    exact x323 l5_h214 factorTop_h214 factorLow_h214 isFar_h214 _ factorTop_h214_e factorLow_h214_e isFar_h214_e (by first | decide | omega) (by first | decide | omega) (by first | decide | omega) (by first | decide | omega) (by first | decide | omega) (by first | decide | omega) (by first | decide | omega) (by first | decide | omega) (by first | decide | omega) (by first | decide | omega)
                  · skip
                    refine r_ex hX hP 6 (pc' := 241) (st' := []) (lo' := [(0, (2, (Ad E 1))), (1, (0, e)), (2, (0, l2_h27)), (3, (0, l3_h27)), (4, (0, l4_h27)), (5, (0, l5_h214)), (6, (0, ((30 * e) + l5_h214)))]) rfl ?_
                    refine r_labC hX (tl1 41 rfl (by decide)) hS (fun s63 => ?_)
                    refine r_apeekI hX al_29 s63 (i := ((30 * e) + l5_h214)) (by first | decide | omega) (by first | decide | omega) (fun kik64 kik64e kik64a kik64b => ?_)
                    refine r_labC hX (tl1 42 rfl (by decide)) hS (fun s65 => ?_)
                    refine r_apeekI hX al_30 s65 (i := ((30 * e) + l5_h214)) (by first | decide | omega) (by first | decide | omega) (fun onk66 onk66e onk66a onk66b => ?_)
                    refine r_labC hX (tl1 43 rfl (by decide)) hS (fun s67 => ?_)
                    refine r_apeekI hX al_31 s67 (i := ((30 * e) + l5_h214)) (by first | decide | omega) (by first | decide | omega) (fun twk68 twk68e twk68a twk68b => ?_)
                    refine r_labC hX (tl1 45 rfl (by decide)) hS (fun s69 => ?_)
                    refine r_apeekI hX al_33 s69 (i := ((30 * e) + l5_h214)) (by first | decide | omega) (by first | decide | omega) (fun mik70 mik70e mik70a mik70b => ?_)
                    refine r_labC hX (tl1 46 rfl (by decide)) hS (fun s71 => ?_)
                    refine r_apeekI hX al_34 s71 (i := ((30 * e) + l5_h214)) (by first | decide | omega) (by first | decide | omega) (fun enk72 enk72e enk72a enk72b => ?_)
                    have mi73 : MI E (hv [133, 134, 135] [] (up (up G 1 (Ad E 1) 133 1) 1 (Ad E 1) 134 1) Gh214) := mi_keep mi rfl rfl rfl rfl rfl rfl (fun _ => rfl) (fun _ => rfl) (fun _ => rfl) (fun _ => rfl) (fun _ => rfl) (fun _ => rfl) (fun _ => rfl) (fun _ => rfl) (fun _ => rfl) (fun _ => rfl) (fun _ => rfl) (fun _ => rfl) (fun _ => rfl)
                    have cl74 := mi_cls mi73 events_e cm_e kik64e onk66e twk68e mik70e enk72e (by first | decide | omega) (by first | decide | omega) (by first | decide | omega) (by first | decide | omega)
                    refine r_ex hX hP 1 (pc' := 242) (st' := [(2, (Ad E 1))]) (lo' := [(0, (2, (Ad E 1))), (1, (0, e)), (2, (0, l2_h27)), (3, (0, l3_h27)), (4, (0, l4_h27)), (5, (0, l5_h214)), (6, (0, ((30 * e) + l5_h214)))]) rfl ?_
                    refine r_getC hX hP rfl fl_12_101 hS (fun _ => ?_)
                    refine r_ex hX hP 1 (pc' := 247) (st' := [(0, ((30 * e) + l5_h214)), (2, (Ad E 29))]) (lo' := [(0, (2, (Ad E 1))), (1, (0, e)), (2, (0, l2_h27)), (3, (0, l3_h27)), (4, (0, l4_h27)), (5, (0, l5_h214)), (6, (0, ((30 * e) + l5_h214)))]) rfl ?_
                    refine r_ialdK hX hP rfl al_29 s63 (by first | decide | omega) (by first | decide | omega) (x := kik64) kik64e ?_
                    refine r_if_ne hX hP rfl (tgt := 285) rfl (by first | decide | omega) (by first | decide | omega) (fun c75 => ?_) (fun c75 => ?_)
                    · skip
                      refine r_ex hX hP 1 (pc' := 286) (st' := [(2, (Ad E 1))]) (lo' := [(0, (2, (Ad E 1))), (1, (0, e)), (2, (0, l2_h27)), (3, (0, l3_h27)), (4, (0, l4_h27)), (5, (0, l5_h214)), (6, (0, ((30 * e) + l5_h214)))]) rfl ?_
                      refine r_getC hX hP rfl fl_12_101 hS (fun _ => ?_)
                      refine r_ex hX hP 1 (pc' := 291) (st' := [(0, ((30 * e) + l5_h214)), (2, (Ad E 29))]) (lo' := [(0, (2, (Ad E 1))), (1, (0, e)), (2, (0, l2_h27)), (3, (0, l3_h27)), (4, (0, l4_h27)), (5, (0, l5_h214)), (6, (0, ((30 * e) + l5_h214)))]) rfl ?_
                      refine r_ialdK hX hP rfl al_29 s63 (by first | decide | omega) (by first | decide | omega) (x := kik64) kik64e ?_
                      refine r_ex hX hP 1 (pc' := 293) (st' := [(0, 1), (0, kik64)]) (lo' := [(0, (2, (Ad E 1))), (1, (0, e)), (2, (0, l2_h27)), (3, (0, l3_h27)), (4, (0, l4_h27)), (5, (0, l5_h214)), (6, (0, ((30 * e) + l5_h214)))]) rfl ?_
                      refine r_ic_ne hX hP rfl (tgt := 317) rfl (by first | decide | omega) (by first | decide | omega) (by first | decide | omega) (by first | decide | omega) (fun c76 => ?_) (fun c76 => ?_)
                      · skip
                        refine r_ex hX hP 2 (pc' := 214) (st' := []) (lo' := [(0, (2, (Ad E 1))), (1, (0, e)), (2, (0, l2_h27)), (3, (0, l3_h27)), (4, (0, l4_h27)), (5, (0, (l5_h214 + 1))), (6, (0, ((30 * e) + l5_h214)))]) rfl ?_
                        refine r_pick hX [0, 1, 2, 3, 4, 5] (lo' := [(0, (2, (Ad E 1))), (1, (0, e)), (2, (0, l2_h27)), (3, (0, l3_h27)), (4, (0, l4_h27)), (5, (0, (l5_h214 + 1)))]) rfl ?_
                        refine r_eqG (X := X) (hq_base _ _ _ _) ?_
                        exact ih214 (l5_h214 + 1) factorTop_h214 factorLow_h214 isFar_h214 _ factorTop_h214_e factorLow_h214_e isFar_h214_e (by first | decide | omega) (by first | decide | omega) (by first | decide | omega) (by first | decide | omega) (by first | decide | omega) (by first | decide | omega) (by first | decide | omega) (by first | decide | omega) (by first | decide | omega) (by first | decide | omega) (by first | decide | omega)
                      · skip
                        refine r_ex hX hP 2 (pc' := 298) (st' := [(2, (Ad E 1)), (2, (Ad E 1))]) (lo' := [(0, (2, (Ad E 1))), (1, (0, e)), (2, (0, l2_h27)), (3, (0, l3_h27)), (4, (0, l4_h27)), (5, (0, l5_h214)), (6, (0, ((30 * e) + l5_h214)))]) rfl ?_
                        refine r_getC hX hP rfl fl_12_104 hS (fun _ => ?_)
                        refine r_ex hX hP 1 (pc' := 303) (st' := [(0, ((30 * e) + l5_h214)), (2, (Ad E 30)), (2, (Ad E 1))]) (lo' := [(0, (2, (Ad E 1))), (1, (0, e)), (2, (0, l2_h27)), (3, (0, l3_h27)), (4, (0, l4_h27)), (5, (0, l5_h214)), (6, (0, ((30 * e) + l5_h214)))]) rfl ?_
                        refine r_ialdK hX hP rfl al_30 s65 (by first | decide | omega) (by first | decide | omega) (x := onk66) onk66e ?_
                        refine r_ex hX hP 1 (pc' := 305) (st' := [(0, (-onk66)), (2, (Ad E 1))]) (lo' := [(0, (2, (Ad E 1))), (1, (0, e)), (2, (0, l2_h27)), (3, (0, l3_h27)), (4, (0, l4_h27)), (5, (0, l5_h214)), (6, (0, ((30 * e) + l5_h214)))]) rfl ?_
                        refine r_i2l hX hP rfl (by first | decide | omega) (by first | decide | omega) ?_
                        refine r_ex hX hP 1 (pc' := 307) (st' := [(2, (Ad E 1)), (1, (-onk66)), (2, (Ad E 1))]) (lo' := [(0, (2, (Ad E 1))), (1, (0, e)), (2, (0, l2_h27)), (3, (0, l3_h27)), (4, (0, l4_h27)), (5, (0, l5_h214)), (6, (0, ((30 * e) + l5_h214)))]) rfl ?_
                        refine r_getC hX hP rfl fl_12_107 hS (fun _ => ?_)
                        refine r_ex hX hP 1 (pc' := 312) (st' := [(0, ((30 * e) + l5_h214)), (2, (Ad E 31)), (1, (-onk66)), (2, (Ad E 1))]) (lo' := [(0, (2, (Ad E 1))), (1, (0, e)), (2, (0, l2_h27)), (3, (0, l3_h27)), (4, (0, l4_h27)), (5, (0, l5_h214)), (6, (0, ((30 * e) + l5_h214)))]) rfl ?_
                        refine r_ialdK hX hP rfl al_31 s67 (by first | decide | omega) (by first | decide | omega) (x := twk68) twk68e ?_
                        refine r_i2l hX hP rfl (by first | decide | omega) (by first | decide | omega) ?_
                        refine r_callV gd hX hP rfl cv_12_658 hS (d' := 4) (mc' := 0) (ms' := 0) (as' := [(1, (-onk66)), (1, twk68)]) (st := []) (by first | decide | omega) (by first | decide | omega) (by first | decide | omega) rfl rfl (Nat.le_of_ble_eq_true rfl) (c_X12_adds E S (hv [133, 134, 135] [] (up (up G 1 (Ad E 1) 133 1) 1 (Ad E 1) 134 1) Gh214) (-onk66) twk68 hS factorTop_h214 factorTop_h214_e factorLow_h214 factorLow_h214_e isFar_h214 isFar_h214_e (by first | decide | omega) (by first | decide | omega) (by first | decide | omega) (by first | decide | omega) (by first | decide | omega) (by first | decide | omega) (by first | decide | omega) (by first | decide | omega)) ?_
                        rintro _ _ _ ⟨rfl, ⟨G77, rfl⟩, rfl, fah78, fah78e, fah79, fah79e, ish80, ish80e, f81, f82⟩
                        refine r_peekL hX (tl1 133 rfl (by decide)) hS (fun o83 o83e o83a o83b => ?_)
                        obtain rfl : fah78 = o83 := fah78e.trans o83e.symm
                        refine r_peekL hX (tl1 134 rfl (by decide)) hS (fun o84 o84e o84a o84b => ?_)
                        obtain rfl : fah79 = o84 := fah79e.trans o84e.symm
                        refine r_peekI hX (tl1 135 rfl (by decide)) hS (fun o85 o85e o85a o85b => ?_)
                        obtain rfl : ish80 = o85 := ish80e.trans o85e.symm
                        refine r_ex hX hP 2 (pc' := 214) (st' := []) (lo' := [(0, (2, (Ad E 1))), (1, (0, e)), (2, (0, l2_h27)), (3, (0, l3_h27)), (4, (0, l4_h27)), (5, (0, (l5_h214 + 1))), (6, (0, ((30 * e) + l5_h214)))]) rfl ?_
                        refine r_pick hX [0, 1, 2, 3, 4, 5] (lo' := [(0, (2, (Ad E 1))), (1, (0, e)), (2, (0, l2_h27)), (3, (0, l3_h27)), (4, (0, l4_h27)), (5, (0, (l5_h214 + 1)))]) rfl ?_
                        refine r_eqG (X := X) (hq_call (hq_base _ _ _ _) rfl) ?_
                        exact ih214 (l5_h214 + 1) fah78 fah79 ish80 _ fah78e fah79e ish80e (by first | decide | omega) (by first | decide | omega) (by first | decide | omega) (by first | decide | omega) (by first | decide | omega) (by first | decide | omega) (by first | decide | omega) (by first | decide | omega) (by first | decide | omega) (by first | decide | omega) (by first | decide | omega)
                    · skip
                      refine r_ex hX hP 1 (pc' := 252) (st' := [(2, (Ad E 1))]) (lo' := [(0, (2, (Ad E 1))), (1, (0, e)), (2, (0, l2_h27)), (3, (0, l3_h27)), (4, (0, l4_h27)), (5, (0, l5_h214)), (6, (0, ((30 * e) + l5_h214)))]) rfl ?_
                      refine r_getC hX hP rfl fl_12_110 hS (fun s86 => ?_)
                      refine r_ex hX hP 1 (pc' := 257) (st' := [(0, ((30 * e) + l5_h214)), (2, (Ad E 32))]) (lo' := [(0, (2, (Ad E 1))), (1, (0, e)), (2, (0, l2_h27)), (3, (0, l3_h27)), (4, (0, l4_h27)), (5, (0, l5_h214)), (6, (0, ((30 * e) + l5_h214)))]) rfl ?_
                      refine r_iald hX hP rfl al_32 s86 (by first | decide | omega) (by first | decide | omega) (fun x87 x87e x87a x87b => ?_)
                      refine r_ex hX hP 1 (pc' := 259) (st' := [(2, (Ad E 1)), (0, x87)]) (lo' := [(0, (2, (Ad E 1))), (1, (0, e)), (2, (0, l2_h27)), (3, (0, l3_h27)), (4, (0, l4_h27)), (5, (0, l5_h214)), (6, (0, ((30 * e) + l5_h214)))]) rfl ?_
                      refine r_getKI hX hP rfl fl_12_655 hS (x := on) on_e ?_
                      refine r_ic_ne hX hP rfl (tgt := 285) rfl (by first | decide | omega) (by first | decide | omega) (by first | decide | omega) (by first | decide | omega) (fun c88 => ?_) (fun c88 => ?_)
                      · skip
                        refine r_ex hX hP 1 (pc' := 286) (st' := [(2, (Ad E 1))]) (lo' := [(0, (2, (Ad E 1))), (1, (0, e)), (2, (0, l2_h27)), (3, (0, l3_h27)), (4, (0, l4_h27)), (5, (0, l5_h214)), (6, (0, ((30 * e) + l5_h214)))]) rfl ?_
                        refine r_getC hX hP rfl fl_12_101 hS (fun _ => ?_)
                        refine r_ex hX hP 1 (pc' := 291) (st' := [(0, ((30 * e) + l5_h214)), (2, (Ad E 29))]) (lo' := [(0, (2, (Ad E 1))), (1, (0, e)), (2, (0, l2_h27)), (3, (0, l3_h27)), (4, (0, l4_h27)), (5, (0, l5_h214)), (6, (0, ((30 * e) + l5_h214)))]) rfl ?_
                        refine r_ialdK hX hP rfl al_29 s63 (by first | decide | omega) (by first | decide | omega) (x := kik64) kik64e ?_
                        refine r_ex hX hP 1 (pc' := 293) (st' := [(0, 1), (0, kik64)]) (lo' := [(0, (2, (Ad E 1))), (1, (0, e)), (2, (0, l2_h27)), (3, (0, l3_h27)), (4, (0, l4_h27)), (5, (0, l5_h214)), (6, (0, ((30 * e) + l5_h214)))]) rfl ?_
                        refine r_ic_ne hX hP rfl (tgt := 317) rfl (by first | decide | omega) (by first | decide | omega) (by first | decide | omega) (by first | decide | omega) (fun c89 => ?_) (fun c89 => ?_)
                        · skip
                          refine r_ex hX hP 2 (pc' := 214) (st' := []) (lo' := [(0, (2, (Ad E 1))), (1, (0, e)), (2, (0, l2_h27)), (3, (0, l3_h27)), (4, (0, l4_h27)), (5, (0, (l5_h214 + 1))), (6, (0, ((30 * e) + l5_h214)))]) rfl ?_
                          refine r_pick hX [0, 1, 2, 3, 4, 5] (lo' := [(0, (2, (Ad E 1))), (1, (0, e)), (2, (0, l2_h27)), (3, (0, l3_h27)), (4, (0, l4_h27)), (5, (0, (l5_h214 + 1)))]) rfl ?_
                          refine r_eqG (X := X) (hq_base _ _ _ _) ?_
                          exact ih214 (l5_h214 + 1) factorTop_h214 factorLow_h214 isFar_h214 _ factorTop_h214_e factorLow_h214_e isFar_h214_e (by first | decide | omega) (by first | decide | omega) (by first | decide | omega) (by first | decide | omega) (by first | decide | omega) (by first | decide | omega) (by first | decide | omega) (by first | decide | omega) (by first | decide | omega) (by first | decide | omega) (by first | decide | omega)
                        · skip
                          exfalso; omega
                      · skip
                        refine r_ex hX hP 2 (pc' := 267) (st' := [(2, (Ad E 1)), (2, (Ad E 1))]) (lo' := [(0, (2, (Ad E 1))), (1, (0, e)), (2, (0, l2_h27)), (3, (0, l3_h27)), (4, (0, l4_h27)), (5, (0, l5_h214)), (6, (0, ((30 * e) + l5_h214)))]) rfl ?_
                        refine r_getC hX hP rfl fl_12_104 hS (fun _ => ?_)
                        refine r_ex hX hP 1 (pc' := 272) (st' := [(0, ((30 * e) + l5_h214)), (2, (Ad E 30)), (2, (Ad E 1))]) (lo' := [(0, (2, (Ad E 1))), (1, (0, e)), (2, (0, l2_h27)), (3, (0, l3_h27)), (4, (0, l4_h27)), (5, (0, l5_h214)), (6, (0, ((30 * e) + l5_h214)))]) rfl ?_
                        refine r_ialdK hX hP rfl al_30 s65 (by first | decide | omega) (by first | decide | omega) (x := onk66) onk66e ?_
                        refine r_i2l hX hP rfl (by first | decide | omega) (by first | decide | omega) ?_
                        refine r_ex hX hP 1 (pc' := 275) (st' := [(2, (Ad E 1)), (1, onk66), (2, (Ad E 1))]) (lo' := [(0, (2, (Ad E 1))), (1, (0, e)), (2, (0, l2_h27)), (3, (0, l3_h27)), (4, (0, l4_h27)), (5, (0, l5_h214)), (6, (0, ((30 * e) + l5_h214)))]) rfl ?_
                        refine r_getC hX hP rfl fl_12_107 hS (fun _ => ?_)
                        refine r_ex hX hP 1 (pc' := 280) (st' := [(0, ((30 * e) + l5_h214)), (2, (Ad E 31)), (1, onk66), (2, (Ad E 1))]) (lo' := [(0, (2, (Ad E 1))), (1, (0, e)), (2, (0, l2_h27)), (3, (0, l3_h27)), (4, (0, l4_h27)), (5, (0, l5_h214)), (6, (0, ((30 * e) + l5_h214)))]) rfl ?_
                        refine r_ialdK hX hP rfl al_31 s67 (by first | decide | omega) (by first | decide | omega) (x := twk68) twk68e ?_
                        refine r_i2l hX hP rfl (by first | decide | omega) (by first | decide | omega) ?_
                        refine r_callV gd hX hP rfl cv_12_658 hS (d' := 4) (mc' := 0) (ms' := 0) (as' := [(1, onk66), (1, twk68)]) (st := []) (by first | decide | omega) (by first | decide | omega) (by first | decide | omega) rfl rfl (Nat.le_of_ble_eq_true rfl) (c_X12_adds E S (hv [133, 134, 135] [] (up (up G 1 (Ad E 1) 133 1) 1 (Ad E 1) 134 1) Gh214) onk66 twk68 hS factorTop_h214 factorTop_h214_e factorLow_h214 factorLow_h214_e isFar_h214 isFar_h214_e (by first | decide | omega) (by first | decide | omega) (by first | decide | omega) (by first | decide | omega) (by first | decide | omega) (by first | decide | omega) (by first | decide | omega) (by first | decide | omega)) ?_
                        rintro _ _ _ ⟨rfl, ⟨G90, rfl⟩, rfl, fah91, fah91e, fah92, fah92e, ish93, ish93e, f94, f95⟩
                        refine r_peekL hX (tl1 133 rfl (by decide)) hS (fun o96 o96e o96a o96b => ?_)
                        obtain rfl : fah91 = o96 := fah91e.trans o96e.symm
                        refine r_peekL hX (tl1 134 rfl (by decide)) hS (fun o97 o97e o97a o97b => ?_)
                        obtain rfl : fah92 = o97 := fah92e.trans o97e.symm
                        refine r_peekI hX (tl1 135 rfl (by decide)) hS (fun o98 o98e o98a o98b => ?_)
                        obtain rfl : ish93 = o98 := ish93e.trans o98e.symm
                        refine r_ex hX hP 1 (pc' := 286) (st' := [(2, (Ad E 1))]) (lo' := [(0, (2, (Ad E 1))), (1, (0, e)), (2, (0, l2_h27)), (3, (0, l3_h27)), (4, (0, l4_h27)), (5, (0, l5_h214)), (6, (0, ((30 * e) + l5_h214)))]) rfl ?_
                        refine r_getC hX hP rfl fl_12_101 hS (fun _ => ?_)
                        refine r_ex hX hP 1 (pc' := 291) (st' := [(0, ((30 * e) + l5_h214)), (2, (Ad E 29))]) (lo' := [(0, (2, (Ad E 1))), (1, (0, e)), (2, (0, l2_h27)), (3, (0, l3_h27)), (4, (0, l4_h27)), (5, (0, l5_h214)), (6, (0, ((30 * e) + l5_h214)))]) rfl ?_
                        refine r_ialdK hX hP rfl al_29 s63 (by first | decide | omega) (by first | decide | omega) (x := kik64) kik64e ?_
                        refine r_ex hX hP 1 (pc' := 293) (st' := [(0, 1), (0, kik64)]) (lo' := [(0, (2, (Ad E 1))), (1, (0, e)), (2, (0, l2_h27)), (3, (0, l3_h27)), (4, (0, l4_h27)), (5, (0, l5_h214)), (6, (0, ((30 * e) + l5_h214)))]) rfl ?_
                        refine r_ic_ne hX hP rfl (tgt := 317) rfl (by first | decide | omega) (by first | decide | omega) (by first | decide | omega) (by first | decide | omega) (fun c99 => ?_) (fun c99 => ?_)
                        · skip
                          refine r_ex hX hP 2 (pc' := 214) (st' := []) (lo' := [(0, (2, (Ad E 1))), (1, (0, e)), (2, (0, l2_h27)), (3, (0, l3_h27)), (4, (0, l4_h27)), (5, (0, (l5_h214 + 1))), (6, (0, ((30 * e) + l5_h214)))]) rfl ?_
                          refine r_pick hX [0, 1, 2, 3, 4, 5] (lo' := [(0, (2, (Ad E 1))), (1, (0, e)), (2, (0, l2_h27)), (3, (0, l3_h27)), (4, (0, l4_h27)), (5, (0, (l5_h214 + 1)))]) rfl ?_
                          refine r_eqG (X := X) (hq_call (hq_base _ _ _ _) rfl) ?_
                          exact ih214 (l5_h214 + 1) fah91 fah92 ish93 _ fah91e fah92e ish93e (by first | decide | omega) (by first | decide | omega) (by first | decide | omega) (by first | decide | omega) (by first | decide | omega) (by first | decide | omega) (by first | decide | omega) (by first | decide | omega) (by first | decide | omega) (by first | decide | omega) (by first | decide | omega)
                        · skip
                          exfalso; omega
            refine r_eqG (X := X) (hq_refl [133, 134, 135] [] _) ?_
            exact loop214 ((30 - 0) + 1 : Int).toNat 0 1 1 isFar _ h2 h3 isFar_e (by first | decide | omega) (by first | decide | omega) (by first | decide | omega) (by first | decide | omega) (by first | decide | omega) (by first | decide | omega) (by first | decide | omega) (by first | decide | omega) (by first | decide | omega) (by first | decide | omega) (by first | decide | omega)
        · skip
          refine r_ex hX hP 1 (pc' := 133) (st' := [(0, l2_h27)]) (lo' := [(0, (2, (Ad E 1))), (1, (0, e)), (2, (0, l2_h27)), (3, (0, l3_h27)), (4, (0, l4_h27)), (5, (0, l5_h27))]) rfl ?_
          refine r_if_lt hX hP rfl (tgt := 206) rfl (by first | decide | omega) (by first | decide | omega) (fun c100 => ?_) (fun c100 => ?_)
          · skip
            refine r_ex hX hP 1 (pc' := 208) (st' := [(0, l4_h27)]) (lo' := [(0, (2, (Ad E 1))), (1, (0, e)), (2, (0, l2_h27)), (3, (0, l3_h27)), (4, (0, l4_h27)), (5, (0, l5_h27))]) rfl ?_
            refine r_if_eq hX hP rfl (tgt := 344) rfl (by first | decide | omega) (by first | decide | omega) (fun c101 => ?_) (fun c101 => ?_)
            · skip
              refine r_ex hX hP 1 (pc' := 345) (st' := [(2, (Ad E 1))]) (lo' := [(0, (2, (Ad E 1))), (1, (0, e)), (2, (0, l2_h27)), (3, (0, l3_h27)), (4, (0, l4_h27)), (5, (0, l5_h27))]) rfl ?_
              refine r_getKI hX hP rfl fl_12_655 hS (x := on) on_e ?_
              refine r_if_lt hX hP rfl (tgt := 358) rfl (by first | decide | omega) (by first | decide | omega) (fun c102 => ?_) (fun c102 => ?_)
              · skip
                exfalso; omega
              · skip
                refine r_ex hX hP 1 (pc' := 352) (st' := [(2, (Ad E 1))]) (lo' := [(0, (2, (Ad E 1))), (1, (0, e)), (2, (0, l2_h27)), (3, (0, l3_h27)), (4, (0, l4_h27)), (5, (0, l5_h27))]) rfl ?_
                refine r_getKI hX hP rfl fl_12_644 hS (x := isFar) isFar_e ?_
                refine r_if_eq hX hP rfl (tgt := 359) rfl (by first | decide | omega) (by first | decide | omega) (fun c103 => ?_) (fun c103 => ?_)
                · skip
                  refine r_ex hX hP 2 (pc' := 361) (st' := [(2, (Ad E 1)), (2, (Ad E 1))]) (lo' := [(0, (2, (Ad E 1))), (1, (0, e)), (2, (0, l2_h27)), (3, (0, l3_h27)), (4, (0, l4_h27)), (5, (0, l5_h27))]) rfl ?_
                  refine r_getKL hX hP rfl fl_12_662 hS (x := numberTop) numberTop_e ?_
                  refine r_ex hX hP 1 (pc' := 365) (st' := [(2, (Ad E 1)), (1, numberTop), (2, (Ad E 1))]) (lo' := [(0, (2, (Ad E 1))), (1, (0, e)), (2, (0, l2_h27)), (3, (0, l3_h27)), (4, (0, l4_h27)), (5, (0, l5_h27))]) rfl ?_
                  refine r_getKL hX hP rfl fl_12_665 hS (x := numberLow) numberLow_e ?_
                  refine r_ex hX hP 1 (pc' := 369) (st' := [(2, (Ad E 1)), (1, numberLow), (1, numberTop), (2, (Ad E 1))]) (lo' := [(0, (2, (Ad E 1))), (1, (0, e)), (2, (0, l2_h27)), (3, (0, l3_h27)), (4, (0, l4_h27)), (5, (0, l5_h27))]) rfl ?_
                  refine r_getKL hX hP rfl fl_12_635 hS (x := 1) h2 ?_
                  refine r_ex hX hP 1 (pc' := 373) (st' := [(2, (Ad E 1)), (1, 1), (1, numberLow), (1, numberTop), (2, (Ad E 1))]) (lo' := [(0, (2, (Ad E 1))), (1, (0, e)), (2, (0, l2_h27)), (3, (0, l3_h27)), (4, (0, l4_h27)), (5, (0, l5_h27))]) rfl ?_
                  refine r_getKL hX hP rfl fl_12_638 hS (x := 1) h3 ?_
                  refine r_callV gd hX hP rfl cv_12_668 hS (d' := 4) (mc' := 0) (ms' := 0) (as' := [(1, numberTop), (1, numberLow), (1, 1), (1, 1)]) (st := []) (by first | decide | omega) (by first | decide | omega) (by first | decide | omega) rfl rfl (Nat.le_of_ble_eq_true rfl) (c_X12_times E S (up (up G 1 (Ad E 1) 133 1) 1 (Ad E 1) 134 1) numberTop numberLow 1 1 hS (by first | decide | omega) (by first | decide | omega) (by first | decide | omega) (by first | decide | omega) (by first | decide | omega) (by first | decide | omega) (by first | decide | omega) (by first | decide | omega)) ?_
                  rintro _ _ _ ⟨rfl, ⟨G104, rfl⟩, rfl, prh105, prh105e, prh106, prh106e, f107, f108, f109, f110⟩
                  refine r_peekL hX (tl1 136 rfl (by decide)) hS (fun o111 o111e o111a o111b => ?_)
                  obtain rfl : prh105 = o111 := prh105e.trans o111e.symm
                  refine r_peekL hX (tl1 137 rfl (by decide)) hS (fun o112 o112e o112a o112b => ?_)
                  obtain rfl : prh106 = o112 := prh106e.trans o112e.symm
                  refine r_ex hX hP 2 (pc' := 381) (st' := [(2, (Ad E 1)), (2, (Ad E 1))]) (lo' := [(0, (2, (Ad E 1))), (1, (0, e)), (2, (0, l2_h27)), (3, (0, l3_h27)), (4, (0, l4_h27)), (5, (0, l5_h27))]) rfl ?_
                  refine r_getKL hX hP rfl fl_12_649 hS (x := prh105) prh105e ?_
                  refine r_putLK hX hP rfl fp_12_662 hS (by first | decide | omega) (by first | decide | omega) (fun h113 => ?_)
                  refine r_ex hX hP 2 (pc' := 389) (st' := [(2, (Ad E 1)), (2, (Ad E 1))]) (lo' := [(0, (2, (Ad E 1))), (1, (0, e)), (2, (0, l2_h27)), (3, (0, l3_h27)), (4, (0, l4_h27)), (5, (0, l5_h27))]) rfl ?_
                  refine r_getKL hX hP rfl fl_12_652 hS (x := prh106) prh106e ?_
                  refine r_putLK hX hP rfl fp_12_665 hS (by first | decide | omega) (by first | decide | omega) (fun h114 => ?_)
                  refine r_ex hX hP 2 (pc' := 397) (st' := [(2, (Ad E 1)), (2, (Ad E 1))]) (lo' := [(0, (2, (Ad E 1))), (1, (0, e)), (2, (0, l2_h27)), (3, (0, l3_h27)), (4, (0, l4_h27)), (5, (0, l5_h27))]) rfl ?_
                  refine r_getKL hX hP rfl fl_12_672 hS (x := strikeTop) strikeTop_e ?_
                  refine r_ex hX hP 1 (pc' := 401) (st' := [(2, (Ad E 1)), (1, strikeTop), (2, (Ad E 1))]) (lo' := [(0, (2, (Ad E 1))), (1, (0, e)), (2, (0, l2_h27)), (3, (0, l3_h27)), (4, (0, l4_h27)), (5, (0, l5_h27))]) rfl ?_
                  refine r_getKL hX hP rfl fl_12_675 hS (x := strikeLow) strikeLow_e ?_
                  refine r_ex hX hP 1 (pc' := 405) (st' := [(2, (Ad E 1)), (1, strikeLow), (1, strikeTop), (2, (Ad E 1))]) (lo' := [(0, (2, (Ad E 1))), (1, (0, e)), (2, (0, l2_h27)), (3, (0, l3_h27)), (4, (0, l4_h27)), (5, (0, l5_h27))]) rfl ?_
                  refine r_getKL hX hP rfl fl_12_638 hS (x := 1) h3 ?_
                  refine r_ex hX hP 1 (pc' := 409) (st' := [(2, (Ad E 1)), (1, 1), (1, strikeLow), (1, strikeTop), (2, (Ad E 1))]) (lo' := [(0, (2, (Ad E 1))), (1, (0, e)), (2, (0, l2_h27)), (3, (0, l3_h27)), (4, (0, l4_h27)), (5, (0, l5_h27))]) rfl ?_
                  refine r_getKL hX hP rfl fl_12_635 hS (x := 1) h2 ?_
                  refine r_callV gd hX hP rfl cv_12_668 hS (d' := 4) (mc' := 0) (ms' := 0) (as' := [(1, strikeTop), (1, strikeLow), (1, 1), (1, 1)]) (st := []) (by first | decide | omega) (by first | decide | omega) (by first | decide | omega) rfl rfl (Nat.le_of_ble_eq_true rfl) (c_X12_times E S (up (up (hv [135, 136, 137] [] (up (up G 1 (Ad E 1) 133 1) 1 (Ad E 1) 134 1) G104) 1 (Ad E 1) 131 prh105) 1 (Ad E 1) 132 prh106) strikeTop strikeLow 1 1 hS (by first | decide | omega) (by first | decide | omega) (by first | decide | omega) (by first | decide | omega) (by first | decide | omega) (by first | decide | omega) (by first | decide | omega) (by first | decide | omega)) ?_
                  rintro _ _ _ ⟨rfl, ⟨G115, rfl⟩, rfl, prh116, prh116e, prh117, prh117e, f118, f119, f120, f121⟩
                  refine r_peekL hX (tl1 136 rfl (by decide)) hS (fun o122 o122e o122a o122b => ?_)
                  obtain rfl : prh116 = o122 := prh116e.trans o122e.symm
                  refine r_peekL hX (tl1 137 rfl (by decide)) hS (fun o123 o123e o123a o123b => ?_)
                  obtain rfl : prh117 = o123 := prh117e.trans o123e.symm
                  refine r_ex hX hP 2 (pc' := 417) (st' := [(2, (Ad E 1)), (2, (Ad E 1))]) (lo' := [(0, (2, (Ad E 1))), (1, (0, e)), (2, (0, l2_h27)), (3, (0, l3_h27)), (4, (0, l4_h27)), (5, (0, l5_h27))]) rfl ?_
                  refine r_getKL hX hP rfl fl_12_649 hS (x := prh116) prh116e ?_
                  refine r_putLK hX hP rfl fp_12_672 hS (by first | decide | omega) (by first | decide | omega) (fun h124 => ?_)
                  refine r_ex hX hP 2 (pc' := 425) (st' := [(2, (Ad E 1)), (2, (Ad E 1))]) (lo' := [(0, (2, (Ad E 1))), (1, (0, e)), (2, (0, l2_h27)), (3, (0, l3_h27)), (4, (0, l4_h27)), (5, (0, l5_h27))]) rfl ?_
                  refine r_getKL hX hP rfl fl_12_652 hS (x := prh117) prh117e ?_
                  refine r_putLK hX hP rfl fp_12_675 hS (by first | decide | omega) (by first | decide | omega) (fun h125 => ?_)
                  exact r_retV hX hP rfl rfl (by first | decide | omega) (by first | decide | omega) ⟨rfl, ⟨_, (hq_up (hq_up (hq_call (hq_up (hq_up (hq_call (hq_up (hq_up (hq_refl _ _ _) rfl) rfl) rfl) rfl) rfl) rfl) rfl) rfl).symm⟩, rfl, prh105, h113, prh106, h114, prh116, h124, prh117, h125, (by first | decide | omega), (by first | decide | omega), (by first | decide | omega), (by first | decide | omega)⟩
                · skip
                  exfalso; omega
            · skip
              refine r_ex hX hP 2 (pc' := 214) (st' := []) (lo' := [(0, (2, (Ad E 1))), (1, (0, e)), (2, (0, l2_h27)), (3, (0, l3_h27)), (4, (0, l4_h27)), (5, (0, 0))]) rfl ?_
              have x323 : ∀ (l5_x323 factorTop_x323 factorLow_x323 isFar_x323 : Int) (Gx323 : Gh), factorTop_x323 = (hv [133, 134, 135] [] (up (up G 1 (Ad E 1) 133 1) 1 (Ad E 1) 134 1) Gx323) 1 (Ad E 1) 133 → factorLow_x323 = (hv [133, 134, 135] [] (up (up G 1 (Ad E 1) 133 1) 1 (Ad E 1) 134 1) Gx323) 1 (Ad E 1) 134 → isFar_x323 = (hv [133, 134, 135] [] (up (up G 1 (Ad E 1) 133 1) 1 (Ad E 1) 134 1) Gx323) 1 (Ad E 1) 135 → 0 ≤ l5_x323 → l5_x323 ≤ 30 → (-9223372036854775808) ≤ factorTop_x323 → factorTop_x323 ≤ 9223372036854775807 → (-9223372036854775808) ≤ factorLow_x323 → factorLow_x323 ≤ 9223372036854775807 → 0 ≤ isFar_x323 → isFar_x323 ≤ 1 → 1 ≤ factorLow_x323 → (isFar_x323 = 1 ∨ (factorLow_x323 ≤ 1000000000000 ∧ -1000000000000 ≤ factorTop_x323 ∧ factorTop_x323 ≤ 1000000000000)) → X 0 0 323 [] [(0, (2, (Ad E 1))), (1, (0, e)), (2, (0, l2_h27)), (3, (0, l3_h27)), (4, (0, l4_h27)), (5, (0, l5_x323))] S (hv [133, 134, 135] [] (up (up G 1 (Ad E 1) 133 1) 1 (Ad E 1) 134 1) Gx323) := by
                intro l5_x323 factorTop_x323 factorLow_x323 isFar_x323 Gx323 factorTop_x323_e factorLow_x323_e isFar_x323_e yx323_0 yx323_1 yx323_2 yx323_3 yx323_4 yx323_5 yx323_6 yx323_7 yx323_8 yx323_9
                refine r_ex hX hP 1 (pc' := 324) (st' := [(2, (Ad E 1))]) (lo' := [(0, (2, (Ad E 1))), (1, (0, e)), (2, (0, l2_h27)), (3, (0, l3_h27)), (4, (0, l4_h27)), (5, (0, l5_x323))]) rfl ?_
                refine r_getKI hX hP rfl fl_12_644 hS (x := isFar_x323) isFar_x323_e ?_
                refine r_if_ne hX hP rfl (tgt := 344) rfl (by first | decide | omega) (by first | decide | omega) (fun c126 => ?_) (fun c126 => ?_)
                · skip
                  refine r_ex hX hP 1 (pc' := 345) (st' := [(2, (Ad E 1))]) (lo' := [(0, (2, (Ad E 1))), (1, (0, e)), (2, (0, l2_h27)), (3, (0, l3_h27)), (4, (0, l4_h27)), (5, (0, l5_x323))]) rfl ?_
                  refine r_getKI hX hP rfl fl_12_655 hS (x := on) on_e ?_
                  refine r_if_lt hX hP rfl (tgt := 358) rfl (by first | decide | omega) (by first | decide | omega) (fun c127 => ?_) (fun c127 => ?_)
                  · skip
                    exfalso; omega
                  · skip
                    refine r_ex hX hP 1 (pc' := 352) (st' := [(2, (Ad E 1))]) (lo' := [(0, (2, (Ad E 1))), (1, (0, e)), (2, (0, l2_h27)), (3, (0, l3_h27)), (4, (0, l4_h27)), (5, (0, l5_x323))]) rfl ?_
                    refine r_getKI hX hP rfl fl_12_644 hS (x := isFar_x323) isFar_x323_e ?_
                    refine r_if_eq hX hP rfl (tgt := 359) rfl (by first | decide | omega) (by first | decide | omega) (fun c128 => ?_) (fun c128 => ?_)
                    · skip
                      exfalso; omega
                    · skip
                      exact r_retV hX hP rfl rfl (by first | decide | omega) (by first | decide | omega) ⟨rfl, ⟨_, (hq_loop (hq_up (hq_up (hq_refl _ _ _) rfl) rfl) rfl).symm⟩, rfl, numberTop, numberTop_e, numberLow, numberLow_e, strikeTop, strikeTop_e, strikeLow, strikeLow_e, (by first | decide | omega), (by first | decide | omega), (by first | decide | omega), (by first | decide | omega)⟩
                · skip
                  refine r_ex hX hP 1 (pc' := 331) (st' := [(2, (Ad E 1))]) (lo' := [(0, (2, (Ad E 1))), (1, (0, e)), (2, (0, l2_h27)), (3, (0, l3_h27)), (4, (0, l4_h27)), (5, (0, l5_x323))]) rfl ?_
                  refine r_getKL hX hP rfl fl_12_635 hS (x := factorTop_x323) factorTop_x323_e ?_
                  refine r_ex hX hP 1 (pc' := 335) (st' := [(1, 0), (1, factorTop_x323)]) (lo' := [(0, (2, (Ad E 1))), (1, (0, e)), (2, (0, l2_h27)), (3, (0, l3_h27)), (4, (0, l4_h27)), (5, (0, l5_x323))]) rfl ?_
                  refine r_lc_gt hX hP rfl rfl (tgt := 344) rfl (by first | decide | omega) (by first | decide | omega) (by first | decide | omega) (by first | decide | omega) (fun c129 => ?_) (fun c129 => ?_)
                  · skip
                    refine r_ex hX hP 1 (pc' := 345) (st' := [(2, (Ad E 1))]) (lo' := [(0, (2, (Ad E 1))), (1, (0, e)), (2, (0, l2_h27)), (3, (0, l3_h27)), (4, (0, l4_h27)), (5, (0, l5_x323))]) rfl ?_
                    refine r_getKI hX hP rfl fl_12_655 hS (x := on) on_e ?_
                    refine r_if_lt hX hP rfl (tgt := 358) rfl (by first | decide | omega) (by first | decide | omega) (fun c130 => ?_) (fun c130 => ?_)
                    · skip
                      exfalso; omega
                    · skip
                      refine r_ex hX hP 1 (pc' := 352) (st' := [(2, (Ad E 1))]) (lo' := [(0, (2, (Ad E 1))), (1, (0, e)), (2, (0, l2_h27)), (3, (0, l3_h27)), (4, (0, l4_h27)), (5, (0, l5_x323))]) rfl ?_
                      refine r_getKI hX hP rfl fl_12_644 hS (x := isFar_x323) isFar_x323_e ?_
                      refine r_if_eq hX hP rfl (tgt := 359) rfl (by first | decide | omega) (by first | decide | omega) (fun c131 => ?_) (fun c131 => ?_)
                      · skip
                        refine r_ex hX hP 2 (pc' := 361) (st' := [(2, (Ad E 1)), (2, (Ad E 1))]) (lo' := [(0, (2, (Ad E 1))), (1, (0, e)), (2, (0, l2_h27)), (3, (0, l3_h27)), (4, (0, l4_h27)), (5, (0, l5_x323))]) rfl ?_
                        refine r_getKL hX hP rfl fl_12_662 hS (x := numberTop) numberTop_e ?_
                        refine r_ex hX hP 1 (pc' := 365) (st' := [(2, (Ad E 1)), (1, numberTop), (2, (Ad E 1))]) (lo' := [(0, (2, (Ad E 1))), (1, (0, e)), (2, (0, l2_h27)), (3, (0, l3_h27)), (4, (0, l4_h27)), (5, (0, l5_x323))]) rfl ?_
                        refine r_getKL hX hP rfl fl_12_665 hS (x := numberLow) numberLow_e ?_
                        refine r_ex hX hP 1 (pc' := 369) (st' := [(2, (Ad E 1)), (1, numberLow), (1, numberTop), (2, (Ad E 1))]) (lo' := [(0, (2, (Ad E 1))), (1, (0, e)), (2, (0, l2_h27)), (3, (0, l3_h27)), (4, (0, l4_h27)), (5, (0, l5_x323))]) rfl ?_
                        refine r_getKL hX hP rfl fl_12_635 hS (x := factorTop_x323) factorTop_x323_e ?_
                        refine r_ex hX hP 1 (pc' := 373) (st' := [(2, (Ad E 1)), (1, factorTop_x323), (1, numberLow), (1, numberTop), (2, (Ad E 1))]) (lo' := [(0, (2, (Ad E 1))), (1, (0, e)), (2, (0, l2_h27)), (3, (0, l3_h27)), (4, (0, l4_h27)), (5, (0, l5_x323))]) rfl ?_
                        refine r_getKL hX hP rfl fl_12_638 hS (x := factorLow_x323) factorLow_x323_e ?_
                        refine r_callV gd hX hP rfl cv_12_668 hS (d' := 4) (mc' := 0) (ms' := 0) (as' := [(1, numberTop), (1, numberLow), (1, factorTop_x323), (1, factorLow_x323)]) (st := []) (by first | decide | omega) (by first | decide | omega) (by first | decide | omega) rfl rfl (Nat.le_of_ble_eq_true rfl) (c_X12_times E S (hv [133, 134, 135] [] (up (up G 1 (Ad E 1) 133 1) 1 (Ad E 1) 134 1) Gx323) numberTop numberLow factorTop_x323 factorLow_x323 hS (by first | decide | omega) (by first | decide | omega) (by first | decide | omega) (by first | decide | omega) (by first | decide | omega) (by first | decide | omega) (by first | decide | omega) (by first | decide | omega)) ?_
                        rintro _ _ _ ⟨rfl, ⟨G132, rfl⟩, rfl, prh133, prh133e, prh134, prh134e, f135, f136, f137, f138⟩
                        refine r_peekL hX (tl1 136 rfl (by decide)) hS (fun o139 o139e o139a o139b => ?_)
                        obtain rfl : prh133 = o139 := prh133e.trans o139e.symm
                        refine r_peekL hX (tl1 137 rfl (by decide)) hS (fun o140 o140e o140a o140b => ?_)
                        obtain rfl : prh134 = o140 := prh134e.trans o140e.symm
                        refine r_ex hX hP 2 (pc' := 381) (st' := [(2, (Ad E 1)), (2, (Ad E 1))]) (lo' := [(0, (2, (Ad E 1))), (1, (0, e)), (2, (0, l2_h27)), (3, (0, l3_h27)), (4, (0, l4_h27)), (5, (0, l5_x323))]) rfl ?_
                        refine r_getKL hX hP rfl fl_12_649 hS (x := prh133) prh133e ?_
                        refine r_putLK hX hP rfl fp_12_662 hS (by first | decide | omega) (by first | decide | omega) (fun h141 => ?_)
                        refine r_ex hX hP 2 (pc' := 389) (st' := [(2, (Ad E 1)), (2, (Ad E 1))]) (lo' := [(0, (2, (Ad E 1))), (1, (0, e)), (2, (0, l2_h27)), (3, (0, l3_h27)), (4, (0, l4_h27)), (5, (0, l5_x323))]) rfl ?_
                        refine r_getKL hX hP rfl fl_12_652 hS (x := prh134) prh134e ?_
                        refine r_putLK hX hP rfl fp_12_665 hS (by first | decide | omega) (by first | decide | omega) (fun h142 => ?_)
                        refine r_ex hX hP 2 (pc' := 397) (st' := [(2, (Ad E 1)), (2, (Ad E 1))]) (lo' := [(0, (2, (Ad E 1))), (1, (0, e)), (2, (0, l2_h27)), (3, (0, l3_h27)), (4, (0, l4_h27)), (5, (0, l5_x323))]) rfl ?_
                        refine r_getKL hX hP rfl fl_12_672 hS (x := strikeTop) strikeTop_e ?_
                        refine r_ex hX hP 1 (pc' := 401) (st' := [(2, (Ad E 1)), (1, strikeTop), (2, (Ad E 1))]) (lo' := [(0, (2, (Ad E 1))), (1, (0, e)), (2, (0, l2_h27)), (3, (0, l3_h27)), (4, (0, l4_h27)), (5, (0, l5_x323))]) rfl ?_
                        refine r_getKL hX hP rfl fl_12_675 hS (x := strikeLow) strikeLow_e ?_
                        refine r_ex hX hP 1 (pc' := 405) (st' := [(2, (Ad E 1)), (1, strikeLow), (1, strikeTop), (2, (Ad E 1))]) (lo' := [(0, (2, (Ad E 1))), (1, (0, e)), (2, (0, l2_h27)), (3, (0, l3_h27)), (4, (0, l4_h27)), (5, (0, l5_x323))]) rfl ?_
                        refine r_getKL hX hP rfl fl_12_638 hS (x := factorLow_x323) factorLow_x323_e ?_
                        refine r_ex hX hP 1 (pc' := 409) (st' := [(2, (Ad E 1)), (1, factorLow_x323), (1, strikeLow), (1, strikeTop), (2, (Ad E 1))]) (lo' := [(0, (2, (Ad E 1))), (1, (0, e)), (2, (0, l2_h27)), (3, (0, l3_h27)), (4, (0, l4_h27)), (5, (0, l5_x323))]) rfl ?_
                        refine r_getKL hX hP rfl fl_12_635 hS (x := factorTop_x323) factorTop_x323_e ?_
                        refine r_callV gd hX hP rfl cv_12_668 hS (d' := 4) (mc' := 0) (ms' := 0) (as' := [(1, strikeTop), (1, strikeLow), (1, factorLow_x323), (1, factorTop_x323)]) (st := []) (by first | decide | omega) (by first | decide | omega) (by first | decide | omega) rfl rfl (Nat.le_of_ble_eq_true rfl) (c_X12_times E S (up (up (hv [135, 136, 137] [] (hv [133, 134, 135] [] (up (up G 1 (Ad E 1) 133 1) 1 (Ad E 1) 134 1) Gx323) G132) 1 (Ad E 1) 131 prh133) 1 (Ad E 1) 132 prh134) strikeTop strikeLow factorLow_x323 factorTop_x323 hS (by first | decide | omega) (by first | decide | omega) (by first | decide | omega) (by first | decide | omega) (by first | decide | omega) (by first | decide | omega) (by first | decide | omega) (by first | decide | omega)) ?_
                        rintro _ _ _ ⟨rfl, ⟨G143, rfl⟩, rfl, prh144, prh144e, prh145, prh145e, f146, f147, f148, f149⟩
                        refine r_peekL hX (tl1 136 rfl (by decide)) hS (fun o150 o150e o150a o150b => ?_)
                        obtain rfl : prh144 = o150 := prh144e.trans o150e.symm
                        refine r_peekL hX (tl1 137 rfl (by decide)) hS (fun o151 o151e o151a o151b => ?_)
                        obtain rfl : prh145 = o151 := prh145e.trans o151e.symm
                        refine r_ex hX hP 2 (pc' := 417) (st' := [(2, (Ad E 1)), (2, (Ad E 1))]) (lo' := [(0, (2, (Ad E 1))), (1, (0, e)), (2, (0, l2_h27)), (3, (0, l3_h27)), (4, (0, l4_h27)), (5, (0, l5_x323))]) rfl ?_
                        refine r_getKL hX hP rfl fl_12_649 hS (x := prh144) prh144e ?_
                        refine r_putLK hX hP rfl fp_12_672 hS (by first | decide | omega) (by first | decide | omega) (fun h152 => ?_)
                        refine r_ex hX hP 2 (pc' := 425) (st' := [(2, (Ad E 1)), (2, (Ad E 1))]) (lo' := [(0, (2, (Ad E 1))), (1, (0, e)), (2, (0, l2_h27)), (3, (0, l3_h27)), (4, (0, l4_h27)), (5, (0, l5_x323))]) rfl ?_
                        refine r_getKL hX hP rfl fl_12_652 hS (x := prh145) prh145e ?_
                        refine r_putLK hX hP rfl fp_12_675 hS (by first | decide | omega) (by first | decide | omega) (fun h153 => ?_)
                        exact r_retV hX hP rfl rfl (by first | decide | omega) (by first | decide | omega) ⟨rfl, ⟨_, (hq_up (hq_up (hq_call (hq_up (hq_up (hq_call (hq_loop (hq_up (hq_up (hq_refl _ _ _) rfl) rfl) rfl) rfl) rfl) rfl) rfl) rfl) rfl).symm⟩, rfl, prh133, h141, prh134, h142, prh144, h152, prh145, h153, (by first | decide | omega), (by first | decide | omega), (by first | decide | omega), (by first | decide | omega)⟩
                      · skip
                        exfalso; omega
                  · skip
                    refine r_ex hX hP 2 (pc' := 341) (st' := [(0, (-1)), (2, (Ad E 1))]) (lo' := [(0, (2, (Ad E 1))), (1, (0, e)), (2, (0, l2_h27)), (3, (0, l3_h27)), (4, (0, l4_h27)), (5, (0, l5_x323))]) rfl ?_
                    refine r_putIK hX hP rfl fp_12_655 hS (by first | decide | omega) (by first | decide | omega) (fun h154 => ?_)
                    refine r_ex hX hP 1 (pc' := 345) (st' := [(2, (Ad E 1))]) (lo' := [(0, (2, (Ad E 1))), (1, (0, e)), (2, (0, l2_h27)), (3, (0, l3_h27)), (4, (0, l4_h27)), (5, (0, l5_x323))]) rfl ?_
                    refine r_getKI hX hP rfl fl_12_655 hS (x := (-1)) h154 ?_
                    refine r_if_lt hX hP rfl (tgt := 358) rfl (by first | decide | omega) (by first | decide | omega) (fun c155 => ?_) (fun c155 => ?_)
                    · skip
                      exact r_retV hX hP rfl rfl (by first | decide | omega) (by first | decide | omega) ⟨rfl, ⟨_, (hq_up (hq_loop (hq_up (hq_up (hq_refl _ _ _) rfl) rfl) rfl) rfl).symm⟩, rfl, numberTop, numberTop_e, numberLow, numberLow_e, strikeTop, strikeTop_e, strikeLow, strikeLow_e, (by first | decide | omega), (by first | decide | omega), (by first | decide | omega), (by first | decide | omega)⟩
                    · skip
                      exfalso; omega
              have loop214 : ∀ (nF : Nat) (l5_h214 factorTop_h214 factorLow_h214 isFar_h214 : Int) (Gh214 : Gh), factorTop_h214 = (hv [133, 134, 135] [] (up (up G 1 (Ad E 1) 133 1) 1 (Ad E 1) 134 1) Gh214) 1 (Ad E 1) 133 → factorLow_h214 = (hv [133, 134, 135] [] (up (up G 1 (Ad E 1) 133 1) 1 (Ad E 1) 134 1) Gh214) 1 (Ad E 1) 134 → isFar_h214 = (hv [133, 134, 135] [] (up (up G 1 (Ad E 1) 133 1) 1 (Ad E 1) 134 1) Gh214) 1 (Ad E 1) 135 → 0 ≤ l5_h214 → l5_h214 ≤ 30 → (-9223372036854775808) ≤ factorTop_h214 → factorTop_h214 ≤ 9223372036854775807 → (-9223372036854775808) ≤ factorLow_h214 → factorLow_h214 ≤ 9223372036854775807 → 0 ≤ isFar_h214 → isFar_h214 ≤ 1 → 1 ≤ factorLow_h214 → (isFar_h214 = 1 ∨ (factorLow_h214 ≤ 1000000000000 ∧ -1000000000000 ≤ factorTop_h214 ∧ factorTop_h214 ≤ 1000000000000)) → 30 - l5_h214 < (nF : Int) → X 0 0 214 [] [(0, (2, (Ad E 1))), (1, (0, e)), (2, (0, l2_h27)), (3, (0, l3_h27)), (4, (0, l4_h27)), (5, (0, l5_h214))] S (hv [133, 134, 135] [] (up (up G 1 (Ad E 1) 133 1) 1 (Ad E 1) 134 1) Gh214) := by
                intro nF
                induction nF with
                | zero => intro l5_h214 factorTop_h214 factorLow_h214 isFar_h214 Gh214 factorTop_h214_e factorLow_h214_e isFar_h214_e yh214_0 yh214_1 yh214_2 yh214_3 yh214_4 yh214_5 yh214_6 yh214_7 yh214_8 yh214_9 ym214; exfalso; omega
                | succ nF ih214 =>
                  intro l5_h214 factorTop_h214 factorLow_h214 isFar_h214 Gh214 factorTop_h214_e factorLow_h214_e isFar_h214_e yh214_0 yh214_1 yh214_2 yh214_3 yh214_4 yh214_5 yh214_6 yh214_7 yh214_8 yh214_9 ym214
                  refine r_ex hX hP 2 (pc' := 217) (st' := [(2, (Ad E 1)), (0, l5_h214)]) (lo' := [(0, (2, (Ad E 1))), (1, (0, e)), (2, (0, l2_h27)), (3, (0, l3_h27)), (4, (0, l4_h27)), (5, (0, l5_h214))]) rfl ?_
                  refine r_getC hX hP rfl fl_12_92 hS (fun _ => ?_)
                  refine r_ex hX hP 1 (pc' := 221) (st' := [(0, e), (2, (Ad E 26)), (0, l5_h214)]) (lo' := [(0, (2, (Ad E 1))), (1, (0, e)), (2, (0, l2_h27)), (3, (0, l3_h27)), (4, (0, l4_h27)), (5, (0, l5_h214))]) rfl ?_
                  refine r_ialdK hX hP rfl al_26 s1 (by first | decide | omega) (by first | decide | omega) (x := cm) cm_e ?_
                  refine r_ic_ge hX hP rfl (tgt := 323) rfl (by first | decide | omega) (by first | decide | omega) (by first | decide | omega) (by first | decide | omega) (fun c156 => ?_) (fun c156 => ?_)
                  · skip
                    refine r_eqG (X := X) (hq_loop (hq_refl [133, 134, 135] [] _) rfl) ?_
                    exact x323 l5_h214 factorTop_h214 factorLow_h214 isFar_h214 _ factorTop_h214_e factorLow_h214_e isFar_h214_e (by first | decide | omega) (by first | decide | omega) (by first | decide | omega) (by first | decide | omega) (by first | decide | omega) (by first | decide | omega) (by first | decide | omega) (by first | decide | omega) (by first | decide | omega) (by first | decide | omega)
                  · skip
                    refine r_ex hX hP 1 (pc' := 226) (st' := [(2, (Ad E 1))]) (lo' := [(0, (2, (Ad E 1))), (1, (0, e)), (2, (0, l2_h27)), (3, (0, l3_h27)), (4, (0, l4_h27)), (5, (0, l5_h214))]) rfl ?_
                    refine r_getKI hX hP rfl fl_12_644 hS (x := isFar_h214) isFar_h214_e ?_
                    refine r_if_ne hX hP rfl (tgt := 323) rfl (by first | decide | omega) (by first | decide | omega) (fun c157 => ?_) (fun c157 => ?_)
                    · skip
                      refine r_eqG (X := X) (hq_loop (hq_refl [133, 134, 135] [] _) rfl) ?_
                      exact x323 l5_h214 factorTop_h214 factorLow_h214 isFar_h214 _ factorTop_h214_e factorLow_h214_e isFar_h214_e (by first | decide | omega) (by first | decide | omega) (by first | decide | omega) (by first | decide | omega) (by first | decide | omega) (by first | decide | omega) (by first | decide | omega) (by first | decide | omega) (by first | decide | omega) (by first | decide | omega)
                    · skip
                      refine r_ex hX hP 6 (pc' := 241) (st' := []) (lo' := [(0, (2, (Ad E 1))), (1, (0, e)), (2, (0, l2_h27)), (3, (0, l3_h27)), (4, (0, l4_h27)), (5, (0, l5_h214)), (6, (0, ((30 * e) + l5_h214)))]) rfl ?_
                      refine r_labC hX (tl1 41 rfl (by decide)) hS (fun s158 => ?_)
                      refine r_apeekI hX al_29 s158 (i := ((30 * e) + l5_h214)) (by first | decide | omega) (by first | decide | omega) (fun kik159 kik159e kik159a kik159b => ?_)
                      refine r_labC hX (tl1 42 rfl (by decide)) hS (fun s160 => ?_)
                      refine r_apeekI hX al_30 s160 (i := ((30 * e) + l5_h214)) (by first | decide | omega) (by first | decide | omega) (fun onk161 onk161e onk161a onk161b => ?_)
                      refine r_labC hX (tl1 43 rfl (by decide)) hS (fun s162 => ?_)
                      refine r_apeekI hX al_31 s162 (i := ((30 * e) + l5_h214)) (by first | decide | omega) (by first | decide | omega) (fun twk163 twk163e twk163a twk163b => ?_)
                      refine r_labC hX (tl1 45 rfl (by decide)) hS (fun s164 => ?_)
                      refine r_apeekI hX al_33 s164 (i := ((30 * e) + l5_h214)) (by first | decide | omega) (by first | decide | omega) (fun mik165 mik165e mik165a mik165b => ?_)
                      refine r_labC hX (tl1 46 rfl (by decide)) hS (fun s166 => ?_)
                      refine r_apeekI hX al_34 s166 (i := ((30 * e) + l5_h214)) (by first | decide | omega) (by first | decide | omega) (fun enk167 enk167e enk167a enk167b => ?_)
                      have mi168 : MI E (hv [133, 134, 135] [] (up (up G 1 (Ad E 1) 133 1) 1 (Ad E 1) 134 1) Gh214) := mi_keep mi rfl rfl rfl rfl rfl rfl (fun _ => rfl) (fun _ => rfl) (fun _ => rfl) (fun _ => rfl) (fun _ => rfl) (fun _ => rfl) (fun _ => rfl) (fun _ => rfl) (fun _ => rfl) (fun _ => rfl) (fun _ => rfl) (fun _ => rfl) (fun _ => rfl)
                      have cl169 := mi_cls mi168 events_e cm_e kik159e onk161e twk163e mik165e enk167e (by first | decide | omega) (by first | decide | omega) (by first | decide | omega) (by first | decide | omega)
                      refine r_ex hX hP 1 (pc' := 242) (st' := [(2, (Ad E 1))]) (lo' := [(0, (2, (Ad E 1))), (1, (0, e)), (2, (0, l2_h27)), (3, (0, l3_h27)), (4, (0, l4_h27)), (5, (0, l5_h214)), (6, (0, ((30 * e) + l5_h214)))]) rfl ?_
                      refine r_getC hX hP rfl fl_12_101 hS (fun _ => ?_)
                      refine r_ex hX hP 1 (pc' := 247) (st' := [(0, ((30 * e) + l5_h214)), (2, (Ad E 29))]) (lo' := [(0, (2, (Ad E 1))), (1, (0, e)), (2, (0, l2_h27)), (3, (0, l3_h27)), (4, (0, l4_h27)), (5, (0, l5_h214)), (6, (0, ((30 * e) + l5_h214)))]) rfl ?_
                      refine r_ialdK hX hP rfl al_29 s158 (by first | decide | omega) (by first | decide | omega) (x := kik159) kik159e ?_
                      refine r_if_ne hX hP rfl (tgt := 285) rfl (by first | decide | omega) (by first | decide | omega) (fun c170 => ?_) (fun c170 => ?_)
                      · skip
                        refine r_ex hX hP 1 (pc' := 286) (st' := [(2, (Ad E 1))]) (lo' := [(0, (2, (Ad E 1))), (1, (0, e)), (2, (0, l2_h27)), (3, (0, l3_h27)), (4, (0, l4_h27)), (5, (0, l5_h214)), (6, (0, ((30 * e) + l5_h214)))]) rfl ?_
                        refine r_getC hX hP rfl fl_12_101 hS (fun _ => ?_)
                        refine r_ex hX hP 1 (pc' := 291) (st' := [(0, ((30 * e) + l5_h214)), (2, (Ad E 29))]) (lo' := [(0, (2, (Ad E 1))), (1, (0, e)), (2, (0, l2_h27)), (3, (0, l3_h27)), (4, (0, l4_h27)), (5, (0, l5_h214)), (6, (0, ((30 * e) + l5_h214)))]) rfl ?_
                        refine r_ialdK hX hP rfl al_29 s158 (by first | decide | omega) (by first | decide | omega) (x := kik159) kik159e ?_
                        refine r_ex hX hP 1 (pc' := 293) (st' := [(0, 1), (0, kik159)]) (lo' := [(0, (2, (Ad E 1))), (1, (0, e)), (2, (0, l2_h27)), (3, (0, l3_h27)), (4, (0, l4_h27)), (5, (0, l5_h214)), (6, (0, ((30 * e) + l5_h214)))]) rfl ?_
                        refine r_ic_ne hX hP rfl (tgt := 317) rfl (by first | decide | omega) (by first | decide | omega) (by first | decide | omega) (by first | decide | omega) (fun c171 => ?_) (fun c171 => ?_)
                        · skip
                          refine r_ex hX hP 2 (pc' := 214) (st' := []) (lo' := [(0, (2, (Ad E 1))), (1, (0, e)), (2, (0, l2_h27)), (3, (0, l3_h27)), (4, (0, l4_h27)), (5, (0, (l5_h214 + 1))), (6, (0, ((30 * e) + l5_h214)))]) rfl ?_
                          refine r_pick hX [0, 1, 2, 3, 4, 5] (lo' := [(0, (2, (Ad E 1))), (1, (0, e)), (2, (0, l2_h27)), (3, (0, l3_h27)), (4, (0, l4_h27)), (5, (0, (l5_h214 + 1)))]) rfl ?_
                          refine r_eqG (X := X) (hq_base _ _ _ _) ?_
                          exact ih214 (l5_h214 + 1) factorTop_h214 factorLow_h214 isFar_h214 _ factorTop_h214_e factorLow_h214_e isFar_h214_e (by first | decide | omega) (by first | decide | omega) (by first | decide | omega) (by first | decide | omega) (by first | decide | omega) (by first | decide | omega) (by first | decide | omega) (by first | decide | omega) (by first | decide | omega) (by first | decide | omega) (by first | decide | omega)
                        · skip
                          refine r_ex hX hP 2 (pc' := 298) (st' := [(2, (Ad E 1)), (2, (Ad E 1))]) (lo' := [(0, (2, (Ad E 1))), (1, (0, e)), (2, (0, l2_h27)), (3, (0, l3_h27)), (4, (0, l4_h27)), (5, (0, l5_h214)), (6, (0, ((30 * e) + l5_h214)))]) rfl ?_
                          refine r_getC hX hP rfl fl_12_104 hS (fun _ => ?_)
                          refine r_ex hX hP 1 (pc' := 303) (st' := [(0, ((30 * e) + l5_h214)), (2, (Ad E 30)), (2, (Ad E 1))]) (lo' := [(0, (2, (Ad E 1))), (1, (0, e)), (2, (0, l2_h27)), (3, (0, l3_h27)), (4, (0, l4_h27)), (5, (0, l5_h214)), (6, (0, ((30 * e) + l5_h214)))]) rfl ?_
                          refine r_ialdK hX hP rfl al_30 s160 (by first | decide | omega) (by first | decide | omega) (x := onk161) onk161e ?_
                          refine r_ex hX hP 1 (pc' := 305) (st' := [(0, (-onk161)), (2, (Ad E 1))]) (lo' := [(0, (2, (Ad E 1))), (1, (0, e)), (2, (0, l2_h27)), (3, (0, l3_h27)), (4, (0, l4_h27)), (5, (0, l5_h214)), (6, (0, ((30 * e) + l5_h214)))]) rfl ?_
                          refine r_i2l hX hP rfl (by first | decide | omega) (by first | decide | omega) ?_
                          refine r_ex hX hP 1 (pc' := 307) (st' := [(2, (Ad E 1)), (1, (-onk161)), (2, (Ad E 1))]) (lo' := [(0, (2, (Ad E 1))), (1, (0, e)), (2, (0, l2_h27)), (3, (0, l3_h27)), (4, (0, l4_h27)), (5, (0, l5_h214)), (6, (0, ((30 * e) + l5_h214)))]) rfl ?_
                          refine r_getC hX hP rfl fl_12_107 hS (fun _ => ?_)
                          refine r_ex hX hP 1 (pc' := 312) (st' := [(0, ((30 * e) + l5_h214)), (2, (Ad E 31)), (1, (-onk161)), (2, (Ad E 1))]) (lo' := [(0, (2, (Ad E 1))), (1, (0, e)), (2, (0, l2_h27)), (3, (0, l3_h27)), (4, (0, l4_h27)), (5, (0, l5_h214)), (6, (0, ((30 * e) + l5_h214)))]) rfl ?_
                          refine r_ialdK hX hP rfl al_31 s162 (by first | decide | omega) (by first | decide | omega) (x := twk163) twk163e ?_
                          refine r_i2l hX hP rfl (by first | decide | omega) (by first | decide | omega) ?_
                          refine r_callV gd hX hP rfl cv_12_658 hS (d' := 4) (mc' := 0) (ms' := 0) (as' := [(1, (-onk161)), (1, twk163)]) (st := []) (by first | decide | omega) (by first | decide | omega) (by first | decide | omega) rfl rfl (Nat.le_of_ble_eq_true rfl) (c_X12_adds E S (hv [133, 134, 135] [] (up (up G 1 (Ad E 1) 133 1) 1 (Ad E 1) 134 1) Gh214) (-onk161) twk163 hS factorTop_h214 factorTop_h214_e factorLow_h214 factorLow_h214_e isFar_h214 isFar_h214_e (by first | decide | omega) (by first | decide | omega) (by first | decide | omega) (by first | decide | omega) (by first | decide | omega) (by first | decide | omega) (by first | decide | omega) (by first | decide | omega)) ?_
                          rintro _ _ _ ⟨rfl, ⟨G172, rfl⟩, rfl, fah173, fah173e, fah174, fah174e, ish175, ish175e, f176, f177⟩
                          refine r_peekL hX (tl1 133 rfl (by decide)) hS (fun o178 o178e o178a o178b => ?_)
                          obtain rfl : fah173 = o178 := fah173e.trans o178e.symm
                          refine r_peekL hX (tl1 134 rfl (by decide)) hS (fun o179 o179e o179a o179b => ?_)
                          obtain rfl : fah174 = o179 := fah174e.trans o179e.symm
                          refine r_peekI hX (tl1 135 rfl (by decide)) hS (fun o180 o180e o180a o180b => ?_)
                          obtain rfl : ish175 = o180 := ish175e.trans o180e.symm
                          refine r_ex hX hP 2 (pc' := 214) (st' := []) (lo' := [(0, (2, (Ad E 1))), (1, (0, e)), (2, (0, l2_h27)), (3, (0, l3_h27)), (4, (0, l4_h27)), (5, (0, (l5_h214 + 1))), (6, (0, ((30 * e) + l5_h214)))]) rfl ?_
                          refine r_pick hX [0, 1, 2, 3, 4, 5] (lo' := [(0, (2, (Ad E 1))), (1, (0, e)), (2, (0, l2_h27)), (3, (0, l3_h27)), (4, (0, l4_h27)), (5, (0, (l5_h214 + 1)))]) rfl ?_
                          refine r_eqG (X := X) (hq_call (hq_base _ _ _ _) rfl) ?_
                          exact ih214 (l5_h214 + 1) fah173 fah174 ish175 _ fah173e fah174e ish175e (by first | decide | omega) (by first | decide | omega) (by first | decide | omega) (by first | decide | omega) (by first | decide | omega) (by first | decide | omega) (by first | decide | omega) (by first | decide | omega) (by first | decide | omega) (by first | decide | omega) (by first | decide | omega)
                      · skip
                        refine r_ex hX hP 1 (pc' := 252) (st' := [(2, (Ad E 1))]) (lo' := [(0, (2, (Ad E 1))), (1, (0, e)), (2, (0, l2_h27)), (3, (0, l3_h27)), (4, (0, l4_h27)), (5, (0, l5_h214)), (6, (0, ((30 * e) + l5_h214)))]) rfl ?_
                        refine r_getC hX hP rfl fl_12_110 hS (fun s181 => ?_)
                        refine r_ex hX hP 1 (pc' := 257) (st' := [(0, ((30 * e) + l5_h214)), (2, (Ad E 32))]) (lo' := [(0, (2, (Ad E 1))), (1, (0, e)), (2, (0, l2_h27)), (3, (0, l3_h27)), (4, (0, l4_h27)), (5, (0, l5_h214)), (6, (0, ((30 * e) + l5_h214)))]) rfl ?_
                        refine r_iald hX hP rfl al_32 s181 (by first | decide | omega) (by first | decide | omega) (fun x182 x182e x182a x182b => ?_)
                        refine r_ex hX hP 1 (pc' := 259) (st' := [(2, (Ad E 1)), (0, x182)]) (lo' := [(0, (2, (Ad E 1))), (1, (0, e)), (2, (0, l2_h27)), (3, (0, l3_h27)), (4, (0, l4_h27)), (5, (0, l5_h214)), (6, (0, ((30 * e) + l5_h214)))]) rfl ?_
                        refine r_getKI hX hP rfl fl_12_655 hS (x := on) on_e ?_
                        refine r_ic_ne hX hP rfl (tgt := 285) rfl (by first | decide | omega) (by first | decide | omega) (by first | decide | omega) (by first | decide | omega) (fun c183 => ?_) (fun c183 => ?_)
                        · skip
                          refine r_ex hX hP 1 (pc' := 286) (st' := [(2, (Ad E 1))]) (lo' := [(0, (2, (Ad E 1))), (1, (0, e)), (2, (0, l2_h27)), (3, (0, l3_h27)), (4, (0, l4_h27)), (5, (0, l5_h214)), (6, (0, ((30 * e) + l5_h214)))]) rfl ?_
                          refine r_getC hX hP rfl fl_12_101 hS (fun _ => ?_)
                          refine r_ex hX hP 1 (pc' := 291) (st' := [(0, ((30 * e) + l5_h214)), (2, (Ad E 29))]) (lo' := [(0, (2, (Ad E 1))), (1, (0, e)), (2, (0, l2_h27)), (3, (0, l3_h27)), (4, (0, l4_h27)), (5, (0, l5_h214)), (6, (0, ((30 * e) + l5_h214)))]) rfl ?_
                          refine r_ialdK hX hP rfl al_29 s158 (by first | decide | omega) (by first | decide | omega) (x := kik159) kik159e ?_
                          refine r_ex hX hP 1 (pc' := 293) (st' := [(0, 1), (0, kik159)]) (lo' := [(0, (2, (Ad E 1))), (1, (0, e)), (2, (0, l2_h27)), (3, (0, l3_h27)), (4, (0, l4_h27)), (5, (0, l5_h214)), (6, (0, ((30 * e) + l5_h214)))]) rfl ?_
                          refine r_ic_ne hX hP rfl (tgt := 317) rfl (by first | decide | omega) (by first | decide | omega) (by first | decide | omega) (by first | decide | omega) (fun c184 => ?_) (fun c184 => ?_)
                          · skip
                            refine r_ex hX hP 2 (pc' := 214) (st' := []) (lo' := [(0, (2, (Ad E 1))), (1, (0, e)), (2, (0, l2_h27)), (3, (0, l3_h27)), (4, (0, l4_h27)), (5, (0, (l5_h214 + 1))), (6, (0, ((30 * e) + l5_h214)))]) rfl ?_
                            refine r_pick hX [0, 1, 2, 3, 4, 5] (lo' := [(0, (2, (Ad E 1))), (1, (0, e)), (2, (0, l2_h27)), (3, (0, l3_h27)), (4, (0, l4_h27)), (5, (0, (l5_h214 + 1)))]) rfl ?_
                            refine r_eqG (X := X) (hq_base _ _ _ _) ?_
                            exact ih214 (l5_h214 + 1) factorTop_h214 factorLow_h214 isFar_h214 _ factorTop_h214_e factorLow_h214_e isFar_h214_e (by first | decide | omega) (by first | decide | omega) (by first | decide | omega) (by first | decide | omega) (by first | decide | omega) (by first | decide | omega) (by first | decide | omega) (by first | decide | omega) (by first | decide | omega) (by first | decide | omega) (by first | decide | omega)
                          · skip
                            exfalso; omega
                        · skip
                          refine r_ex hX hP 2 (pc' := 267) (st' := [(2, (Ad E 1)), (2, (Ad E 1))]) (lo' := [(0, (2, (Ad E 1))), (1, (0, e)), (2, (0, l2_h27)), (3, (0, l3_h27)), (4, (0, l4_h27)), (5, (0, l5_h214)), (6, (0, ((30 * e) + l5_h214)))]) rfl ?_
                          refine r_getC hX hP rfl fl_12_104 hS (fun _ => ?_)
                          refine r_ex hX hP 1 (pc' := 272) (st' := [(0, ((30 * e) + l5_h214)), (2, (Ad E 30)), (2, (Ad E 1))]) (lo' := [(0, (2, (Ad E 1))), (1, (0, e)), (2, (0, l2_h27)), (3, (0, l3_h27)), (4, (0, l4_h27)), (5, (0, l5_h214)), (6, (0, ((30 * e) + l5_h214)))]) rfl ?_
                          refine r_ialdK hX hP rfl al_30 s160 (by first | decide | omega) (by first | decide | omega) (x := onk161) onk161e ?_
                          refine r_i2l hX hP rfl (by first | decide | omega) (by first | decide | omega) ?_
                          refine r_ex hX hP 1 (pc' := 275) (st' := [(2, (Ad E 1)), (1, onk161), (2, (Ad E 1))]) (lo' := [(0, (2, (Ad E 1))), (1, (0, e)), (2, (0, l2_h27)), (3, (0, l3_h27)), (4, (0, l4_h27)), (5, (0, l5_h214)), (6, (0, ((30 * e) + l5_h214)))]) rfl ?_
                          refine r_getC hX hP rfl fl_12_107 hS (fun _ => ?_)
                          refine r_ex hX hP 1 (pc' := 280) (st' := [(0, ((30 * e) + l5_h214)), (2, (Ad E 31)), (1, onk161), (2, (Ad E 1))]) (lo' := [(0, (2, (Ad E 1))), (1, (0, e)), (2, (0, l2_h27)), (3, (0, l3_h27)), (4, (0, l4_h27)), (5, (0, l5_h214)), (6, (0, ((30 * e) + l5_h214)))]) rfl ?_
                          refine r_ialdK hX hP rfl al_31 s162 (by first | decide | omega) (by first | decide | omega) (x := twk163) twk163e ?_
                          refine r_i2l hX hP rfl (by first | decide | omega) (by first | decide | omega) ?_
                          refine r_callV gd hX hP rfl cv_12_658 hS (d' := 4) (mc' := 0) (ms' := 0) (as' := [(1, onk161), (1, twk163)]) (st := []) (by first | decide | omega) (by first | decide | omega) (by first | decide | omega) rfl rfl (Nat.le_of_ble_eq_true rfl) (c_X12_adds E S (hv [133, 134, 135] [] (up (up G 1 (Ad E 1) 133 1) 1 (Ad E 1) 134 1) Gh214) onk161 twk163 hS factorTop_h214 factorTop_h214_e factorLow_h214 factorLow_h214_e isFar_h214 isFar_h214_e (by first | decide | omega) (by first | decide | omega) (by first | decide | omega) (by first | decide | omega) (by first | decide | omega) (by first | decide | omega) (by first | decide | omega) (by first | decide | omega)) ?_
                          rintro _ _ _ ⟨rfl, ⟨G185, rfl⟩, rfl, fah186, fah186e, fah187, fah187e, ish188, ish188e, f189, f190⟩
                          refine r_peekL hX (tl1 133 rfl (by decide)) hS (fun o191 o191e o191a o191b => ?_)
                          obtain rfl : fah186 = o191 := fah186e.trans o191e.symm
                          refine r_peekL hX (tl1 134 rfl (by decide)) hS (fun o192 o192e o192a o192b => ?_)
                          obtain rfl : fah187 = o192 := fah187e.trans o192e.symm
                          refine r_peekI hX (tl1 135 rfl (by decide)) hS (fun o193 o193e o193a o193b => ?_)
                          obtain rfl : ish188 = o193 := ish188e.trans o193e.symm
                          refine r_ex hX hP 1 (pc' := 286) (st' := [(2, (Ad E 1))]) (lo' := [(0, (2, (Ad E 1))), (1, (0, e)), (2, (0, l2_h27)), (3, (0, l3_h27)), (4, (0, l4_h27)), (5, (0, l5_h214)), (6, (0, ((30 * e) + l5_h214)))]) rfl ?_
                          refine r_getC hX hP rfl fl_12_101 hS (fun _ => ?_)
                          refine r_ex hX hP 1 (pc' := 291) (st' := [(0, ((30 * e) + l5_h214)), (2, (Ad E 29))]) (lo' := [(0, (2, (Ad E 1))), (1, (0, e)), (2, (0, l2_h27)), (3, (0, l3_h27)), (4, (0, l4_h27)), (5, (0, l5_h214)), (6, (0, ((30 * e) + l5_h214)))]) rfl ?_
                          refine r_ialdK hX hP rfl al_29 s158 (by first | decide | omega) (by first | decide | omega) (x := kik159) kik159e ?_
                          refine r_ex hX hP 1 (pc' := 293) (st' := [(0, 1), (0, kik159)]) (lo' := [(0, (2, (Ad E 1))), (1, (0, e)), (2, (0, l2_h27)), (3, (0, l3_h27)), (4, (0, l4_h27)), (5, (0, l5_h214)), (6, (0, ((30 * e) + l5_h214)))]) rfl ?_
                          refine r_ic_ne hX hP rfl (tgt := 317) rfl (by first | decide | omega) (by first | decide | omega) (by first | decide | omega) (by first | decide | omega) (fun c194 => ?_) (fun c194 => ?_)
                          · skip
                            refine r_ex hX hP 2 (pc' := 214) (st' := []) (lo' := [(0, (2, (Ad E 1))), (1, (0, e)), (2, (0, l2_h27)), (3, (0, l3_h27)), (4, (0, l4_h27)), (5, (0, (l5_h214 + 1))), (6, (0, ((30 * e) + l5_h214)))]) rfl ?_
                            refine r_pick hX [0, 1, 2, 3, 4, 5] (lo' := [(0, (2, (Ad E 1))), (1, (0, e)), (2, (0, l2_h27)), (3, (0, l3_h27)), (4, (0, l4_h27)), (5, (0, (l5_h214 + 1)))]) rfl ?_
                            refine r_eqG (X := X) (hq_call (hq_base _ _ _ _) rfl) ?_
                            exact ih214 (l5_h214 + 1) fah186 fah187 ish188 _ fah186e fah187e ish188e (by first | decide | omega) (by first | decide | omega) (by first | decide | omega) (by first | decide | omega) (by first | decide | omega) (by first | decide | omega) (by first | decide | omega) (by first | decide | omega) (by first | decide | omega) (by first | decide | omega) (by first | decide | omega)
                          · skip
                            exfalso; omega
              refine r_eqG (X := X) (hq_refl [133, 134, 135] [] _) ?_
              exact loop214 ((30 - 0) + 1 : Int).toNat 0 1 1 isFar _ h2 h3 isFar_e (by first | decide | omega) (by first | decide | omega) (by first | decide | omega) (by first | decide | omega) (by first | decide | omega) (by first | decide | omega) (by first | decide | omega) (by first | decide | omega) (by first | decide | omega) (by first | decide | omega) (by first | decide | omega)
          · skip
            refine r_labC hX (tl1 42 rfl (by decide)) hS (fun s195 => ?_)
            refine r_apeekI hX al_30 s195 (i := l2_h27) (by first | decide | omega) (by first | decide | omega) (fun onk196 onk196e onk196a onk196b => ?_)
            refine r_labC hX (tl1 43 rfl (by decide)) hS (fun s197 => ?_)
            refine r_apeekI hX al_31 s197 (i := l2_h27) (by first | decide | omega) (by first | decide | omega) (fun twk198 twk198e twk198a twk198b => ?_)
            refine r_ex hX hP 2 (pc' := 138) (st' := [(2, (Ad E 1)), (2, (Ad E 1))]) (lo' := [(0, (2, (Ad E 1))), (1, (0, e)), (2, (0, l2_h27)), (3, (0, l3_h27)), (4, (0, l4_h27)), (5, (0, l5_h27))]) rfl ?_
            refine r_getC hX hP rfl fl_12_104 hS (fun _ => ?_)
            refine r_ex hX hP 1 (pc' := 142) (st' := [(0, l2_h27), (2, (Ad E 30)), (2, (Ad E 1))]) (lo' := [(0, (2, (Ad E 1))), (1, (0, e)), (2, (0, l2_h27)), (3, (0, l3_h27)), (4, (0, l4_h27)), (5, (0, l5_h27))]) rfl ?_
            refine r_ialdK hX hP rfl al_30 s195 (by first | decide | omega) (by first | decide | omega) (x := onk196) onk196e ?_
            refine r_i2l hX hP rfl (by first | decide | omega) (by first | decide | omega) ?_
            refine r_putLK hX hP rfl fp_12_635 hS (by first | decide | omega) (by first | decide | omega) (fun h199 => ?_)
            refine r_ex hX hP 2 (pc' := 149) (st' := [(2, (Ad E 1)), (2, (Ad E 1))]) (lo' := [(0, (2, (Ad E 1))), (1, (0, e)), (2, (0, l2_h27)), (3, (0, l3_h27)), (4, (0, l4_h27)), (5, (0, l5_h27))]) rfl ?_
            refine r_getC hX hP rfl fl_12_107 hS (fun _ => ?_)
            refine r_ex hX hP 1 (pc' := 153) (st' := [(0, l2_h27), (2, (Ad E 31)), (2, (Ad E 1))]) (lo' := [(0, (2, (Ad E 1))), (1, (0, e)), (2, (0, l2_h27)), (3, (0, l3_h27)), (4, (0, l4_h27)), (5, (0, l5_h27))]) rfl ?_
            refine r_ialdK hX hP rfl al_31 s197 (by first | decide | omega) (by first | decide | omega) (x := twk198) twk198e ?_
            refine r_i2l hX hP rfl (by first | decide | omega) (by first | decide | omega) ?_
            refine r_putLK hX hP rfl fp_12_638 hS (by first | decide | omega) (by first | decide | omega) (fun h200 => ?_)
            refine r_ex hX hP 1 (pc' := 159) (st' := [(2, (Ad E 1))]) (lo' := [(0, (2, (Ad E 1))), (1, (0, e)), (2, (0, l2_h27)), (3, (0, l3_h27)), (4, (0, l4_h27)), (5, (0, l5_h27))]) rfl ?_
            refine r_getKL hX hP rfl fl_12_635 hS (x := onk196) h199 ?_
            refine r_ex hX hP 1 (pc' := 163) (st' := [(2, (Ad E 1)), (1, onk196)]) (lo' := [(0, (2, (Ad E 1))), (1, (0, e)), (2, (0, l2_h27)), (3, (0, l3_h27)), (4, (0, l4_h27)), (5, (0, l5_h27))]) rfl ?_
            refine r_getKL hX hP rfl fl_12_638 hS (x := twk198) h200 ?_
            refine r_callS gd hX hP rfl cs_12_641 (d' := 3) (mc' := 0) (ms' := 0) (as' := [(1, onk196), (1, twk198)]) (st := []) (by first | decide | omega) (by first | decide | omega) (by first | decide | omega) rfl rfl (Nat.le_of_ble_eq_true rfl) (c_X12_common E S (up (up (up (up G 1 (Ad E 1) 133 1) 1 (Ad E 1) 134 1) 1 (Ad E 1) 133 onk196) 1 (Ad E 1) 134 twk198) onk196 twk198 (by first | decide | omega) (by first | decide | omega) (by first | decide | omega) (by first | decide | omega)) ?_
            rintro _ _ _ ⟨rfl, rfl, z201, rfl, z201a, z201b, f202, f203⟩
            refine r_ex hX hP 3 (pc' := 173) (st' := [(2, (Ad E 1)), (2, (Ad E 1))]) (lo' := [(0, (2, (Ad E 1))), (1, (0, e)), (2, (0, l2_h27)), (3, (0, l3_h27)), (4, (0, l4_h27)), (5, (1, z201))]) rfl ?_
            refine r_getKL hX hP rfl fl_12_635 hS (x := onk196) h199 ?_
            refine r_ex hX hP 1 (pc' := 178) (st' := [(1, z201), (1, onk196), (2, (Ad E 1))]) (lo' := [(0, (2, (Ad E 1))), (1, (0, e)), (2, (0, l2_h27)), (3, (0, l3_h27)), (4, (0, l4_h27)), (5, (1, z201))]) rfl ?_
            refine r_ldiv hX hP rfl (by first | decide | omega) (by first | decide | omega) (by first | decide | omega) (by first | decide | omega) (by first | decide | omega) ?_
            obtain ⟨q204, q204e⟩ : ∃ q : Int, q = (Int.tdiv onk196 z201) := ⟨_, rfl⟩
            rw [← q204e]
            have q204b := td_pos2 q204e (by first | decide | omega) (by first | decide | omega)
            refine r_putLK hX hP rfl fp_12_635 hS (by first | decide | omega) (by first | decide | omega) (fun h205 => ?_)
            refine r_ex hX hP 2 (pc' := 184) (st' := [(2, (Ad E 1)), (2, (Ad E 1))]) (lo' := [(0, (2, (Ad E 1))), (1, (0, e)), (2, (0, l2_h27)), (3, (0, l3_h27)), (4, (0, l4_h27)), (5, (1, z201))]) rfl ?_
            refine r_getKL hX hP rfl fl_12_638 hS (x := twk198) h200 ?_
            refine r_ex hX hP 1 (pc' := 189) (st' := [(1, z201), (1, twk198), (2, (Ad E 1))]) (lo' := [(0, (2, (Ad E 1))), (1, (0, e)), (2, (0, l2_h27)), (3, (0, l3_h27)), (4, (0, l4_h27)), (5, (1, z201))]) rfl ?_
            refine r_ldiv hX hP rfl (by first | decide | omega) (by first | decide | omega) (by first | decide | omega) (by first | decide | omega) (by first | decide | omega) ?_
            obtain ⟨q206, q206e⟩ : ∃ q : Int, q = (Int.tdiv twk198 z201) := ⟨_, rfl⟩
            rw [← q206e]
            have q206b := td_pos2 q206e (by first | decide | omega) (by first | decide | omega)
            refine r_putLK hX hP rfl fp_12_638 hS (by first | decide | omega) (by first | decide | omega) (fun h207 => ?_)
            refine r_ex hX hP 2 (pc' := 195) (st' := [(2, (Ad E 1)), (2, (Ad E 1))]) (lo' := [(0, (2, (Ad E 1))), (1, (0, e)), (2, (0, l2_h27)), (3, (0, l3_h27)), (4, (0, l4_h27)), (5, (1, z201))]) rfl ?_
            refine r_getC hX hP rfl fl_12_110 hS (fun s208 => ?_)
            refine r_ex hX hP 1 (pc' := 199) (st' := [(0, l2_h27), (2, (Ad E 32)), (2, (Ad E 1))]) (lo' := [(0, (2, (Ad E 1))), (1, (0, e)), (2, (0, l2_h27)), (3, (0, l3_h27)), (4, (0, l4_h27)), (5, (1, z201))]) rfl ?_
            refine r_iald hX hP rfl al_32 s208 (by first | decide | omega) (by first | decide | omega) (fun x209 x209e x209a x209b => ?_)
            refine r_putIK hX hP rfl fp_12_655 hS (by first | decide | omega) (by first | decide | omega) (fun h210 => ?_)
            refine r_ex hX hP 2 (pc' := 345) (st' := [(2, (Ad E 1))]) (lo' := [(0, (2, (Ad E 1))), (1, (0, e)), (2, (0, l2_h27)), (3, (0, l3_h27)), (4, (0, l4_h27)), (5, (1, z201))]) rfl ?_
            refine r_getKI hX hP rfl fl_12_655 hS (x := x209) h210 ?_
            refine r_if_lt hX hP rfl (tgt := 358) rfl (by first | decide | omega) (by first | decide | omega) (fun c211 => ?_) (fun c211 => ?_)
            · skip
              exfalso; omega
            · skip
              refine r_ex hX hP 1 (pc' := 352) (st' := [(2, (Ad E 1))]) (lo' := [(0, (2, (Ad E 1))), (1, (0, e)), (2, (0, l2_h27)), (3, (0, l3_h27)), (4, (0, l4_h27)), (5, (1, z201))]) rfl ?_
              refine r_getKI hX hP rfl fl_12_644 hS (x := isFar) isFar_e ?_
              refine r_if_eq hX hP rfl (tgt := 359) rfl (by first | decide | omega) (by first | decide | omega) (fun c212 => ?_) (fun c212 => ?_)
              · skip
                refine r_ex hX hP 2 (pc' := 361) (st' := [(2, (Ad E 1)), (2, (Ad E 1))]) (lo' := [(0, (2, (Ad E 1))), (1, (0, e)), (2, (0, l2_h27)), (3, (0, l3_h27)), (4, (0, l4_h27)), (5, (1, z201))]) rfl ?_
                refine r_getKL hX hP rfl fl_12_662 hS (x := numberTop) numberTop_e ?_
                refine r_ex hX hP 1 (pc' := 365) (st' := [(2, (Ad E 1)), (1, numberTop), (2, (Ad E 1))]) (lo' := [(0, (2, (Ad E 1))), (1, (0, e)), (2, (0, l2_h27)), (3, (0, l3_h27)), (4, (0, l4_h27)), (5, (1, z201))]) rfl ?_
                refine r_getKL hX hP rfl fl_12_665 hS (x := numberLow) numberLow_e ?_
                refine r_ex hX hP 1 (pc' := 369) (st' := [(2, (Ad E 1)), (1, numberLow), (1, numberTop), (2, (Ad E 1))]) (lo' := [(0, (2, (Ad E 1))), (1, (0, e)), (2, (0, l2_h27)), (3, (0, l3_h27)), (4, (0, l4_h27)), (5, (1, z201))]) rfl ?_
                refine r_getKL hX hP rfl fl_12_635 hS (x := q204) h205 ?_
                refine r_ex hX hP 1 (pc' := 373) (st' := [(2, (Ad E 1)), (1, q204), (1, numberLow), (1, numberTop), (2, (Ad E 1))]) (lo' := [(0, (2, (Ad E 1))), (1, (0, e)), (2, (0, l2_h27)), (3, (0, l3_h27)), (4, (0, l4_h27)), (5, (1, z201))]) rfl ?_
                refine r_getKL hX hP rfl fl_12_638 hS (x := q206) h207 ?_
                refine r_callV gd hX hP rfl cv_12_668 hS (d' := 4) (mc' := 0) (ms' := 0) (as' := [(1, numberTop), (1, numberLow), (1, q204), (1, q206)]) (st := []) (by first | decide | omega) (by first | decide | omega) (by first | decide | omega) rfl rfl (Nat.le_of_ble_eq_true rfl) (c_X12_times E S (up (up (up (up (up (up (up G 1 (Ad E 1) 133 1) 1 (Ad E 1) 134 1) 1 (Ad E 1) 133 onk196) 1 (Ad E 1) 134 twk198) 1 (Ad E 1) 133 q204) 1 (Ad E 1) 134 q206) 1 (Ad E 1) 128 x209) numberTop numberLow q204 q206 hS (by first | decide | omega) (by first | decide | omega) (by first | decide | omega) (by first | decide | omega) (by first | decide | omega) (by first | decide | omega) (by first | decide | omega) (by first | decide | omega)) ?_
                rintro _ _ _ ⟨rfl, ⟨G213, rfl⟩, rfl, prh214, prh214e, prh215, prh215e, f216, f217, f218, f219⟩
                refine r_peekL hX (tl1 136 rfl (by decide)) hS (fun o220 o220e o220a o220b => ?_)
                obtain rfl : prh214 = o220 := prh214e.trans o220e.symm
                refine r_peekL hX (tl1 137 rfl (by decide)) hS (fun o221 o221e o221a o221b => ?_)
                obtain rfl : prh215 = o221 := prh215e.trans o221e.symm
                refine r_ex hX hP 2 (pc' := 381) (st' := [(2, (Ad E 1)), (2, (Ad E 1))]) (lo' := [(0, (2, (Ad E 1))), (1, (0, e)), (2, (0, l2_h27)), (3, (0, l3_h27)), (4, (0, l4_h27)), (5, (1, z201))]) rfl ?_
                refine r_getKL hX hP rfl fl_12_649 hS (x := prh214) prh214e ?_
                refine r_putLK hX hP rfl fp_12_662 hS (by first | decide | omega) (by first | decide | omega) (fun h222 => ?_)
                refine r_ex hX hP 2 (pc' := 389) (st' := [(2, (Ad E 1)), (2, (Ad E 1))]) (lo' := [(0, (2, (Ad E 1))), (1, (0, e)), (2, (0, l2_h27)), (3, (0, l3_h27)), (4, (0, l4_h27)), (5, (1, z201))]) rfl ?_
                refine r_getKL hX hP rfl fl_12_652 hS (x := prh215) prh215e ?_
                refine r_putLK hX hP rfl fp_12_665 hS (by first | decide | omega) (by first | decide | omega) (fun h223 => ?_)
                refine r_ex hX hP 2 (pc' := 397) (st' := [(2, (Ad E 1)), (2, (Ad E 1))]) (lo' := [(0, (2, (Ad E 1))), (1, (0, e)), (2, (0, l2_h27)), (3, (0, l3_h27)), (4, (0, l4_h27)), (5, (1, z201))]) rfl ?_
                refine r_getKL hX hP rfl fl_12_672 hS (x := strikeTop) strikeTop_e ?_
                refine r_ex hX hP 1 (pc' := 401) (st' := [(2, (Ad E 1)), (1, strikeTop), (2, (Ad E 1))]) (lo' := [(0, (2, (Ad E 1))), (1, (0, e)), (2, (0, l2_h27)), (3, (0, l3_h27)), (4, (0, l4_h27)), (5, (1, z201))]) rfl ?_
                refine r_getKL hX hP rfl fl_12_675 hS (x := strikeLow) strikeLow_e ?_
                refine r_ex hX hP 1 (pc' := 405) (st' := [(2, (Ad E 1)), (1, strikeLow), (1, strikeTop), (2, (Ad E 1))]) (lo' := [(0, (2, (Ad E 1))), (1, (0, e)), (2, (0, l2_h27)), (3, (0, l3_h27)), (4, (0, l4_h27)), (5, (1, z201))]) rfl ?_
                refine r_getKL hX hP rfl fl_12_638 hS (x := q206) h207 ?_
                refine r_ex hX hP 1 (pc' := 409) (st' := [(2, (Ad E 1)), (1, q206), (1, strikeLow), (1, strikeTop), (2, (Ad E 1))]) (lo' := [(0, (2, (Ad E 1))), (1, (0, e)), (2, (0, l2_h27)), (3, (0, l3_h27)), (4, (0, l4_h27)), (5, (1, z201))]) rfl ?_
                refine r_getKL hX hP rfl fl_12_635 hS (x := q204) h205 ?_
                refine r_callV gd hX hP rfl cv_12_668 hS (d' := 4) (mc' := 0) (ms' := 0) (as' := [(1, strikeTop), (1, strikeLow), (1, q206), (1, q204)]) (st := []) (by first | decide | omega) (by first | decide | omega) (by first | decide | omega) rfl rfl (Nat.le_of_ble_eq_true rfl) (c_X12_times E S (up (up (hv [135, 136, 137] [] (up (up (up (up (up (up (up G 1 (Ad E 1) 133 1) 1 (Ad E 1) 134 1) 1 (Ad E 1) 133 onk196) 1 (Ad E 1) 134 twk198) 1 (Ad E 1) 133 q204) 1 (Ad E 1) 134 q206) 1 (Ad E 1) 128 x209) G213) 1 (Ad E 1) 131 prh214) 1 (Ad E 1) 132 prh215) strikeTop strikeLow q206 q204 hS (by first | decide | omega) (by first | decide | omega) (by first | decide | omega) (by first | decide | omega) (by first | decide | omega) (by first | decide | omega) (by first | decide | omega) (by first | decide | omega)) ?_
                rintro _ _ _ ⟨rfl, ⟨G224, rfl⟩, rfl, prh225, prh225e, prh226, prh226e, f227, f228, f229, f230⟩
                refine r_peekL hX (tl1 136 rfl (by decide)) hS (fun o231 o231e o231a o231b => ?_)
                obtain rfl : prh225 = o231 := prh225e.trans o231e.symm
                refine r_peekL hX (tl1 137 rfl (by decide)) hS (fun o232 o232e o232a o232b => ?_)
                obtain rfl : prh226 = o232 := prh226e.trans o232e.symm
                refine r_ex hX hP 2 (pc' := 417) (st' := [(2, (Ad E 1)), (2, (Ad E 1))]) (lo' := [(0, (2, (Ad E 1))), (1, (0, e)), (2, (0, l2_h27)), (3, (0, l3_h27)), (4, (0, l4_h27)), (5, (1, z201))]) rfl ?_
                refine r_getKL hX hP rfl fl_12_649 hS (x := prh225) prh225e ?_
                refine r_putLK hX hP rfl fp_12_672 hS (by first | decide | omega) (by first | decide | omega) (fun h233 => ?_)
                refine r_ex hX hP 2 (pc' := 425) (st' := [(2, (Ad E 1)), (2, (Ad E 1))]) (lo' := [(0, (2, (Ad E 1))), (1, (0, e)), (2, (0, l2_h27)), (3, (0, l3_h27)), (4, (0, l4_h27)), (5, (1, z201))]) rfl ?_
                refine r_getKL hX hP rfl fl_12_652 hS (x := prh226) prh226e ?_
                refine r_putLK hX hP rfl fp_12_675 hS (by first | decide | omega) (by first | decide | omega) (fun h234 => ?_)
                exact r_retV hX hP rfl rfl (by first | decide | omega) (by first | decide | omega) ⟨rfl, ⟨_, (hq_up (hq_up (hq_call (hq_up (hq_up (hq_call (hq_up (hq_up (hq_up (hq_up (hq_up (hq_up (hq_up (hq_refl _ _ _) rfl) rfl) rfl) rfl) rfl) rfl) rfl) rfl) rfl) rfl) rfl) rfl) rfl).symm⟩, rfl, prh214, h222, prh215, h223, prh225, h233, prh226, h234, (by first | decide | omega), (by first | decide | omega), (by first | decide | omega), (by first | decide | omega)⟩
              · skip
                exfalso; omega
      · skip
        refine r_ex hX hP 6 (pc' := 41) (st' := []) (lo' := [(0, (2, (Ad E 1))), (1, (0, e)), (2, (0, l2_h27)), (3, (0, l3_h27)), (4, (0, l4_h27)), (5, (0, l5_h27)), (6, (0, ((30 * e) + l5_h27)))]) rfl ?_
        refine r_labC hX (tl1 41 rfl (by decide)) hS (fun s235 => ?_)
        refine r_apeekI hX al_29 s235 (i := ((30 * e) + l5_h27)) (by first | decide | omega) (by first | decide | omega) (fun kik236 kik236e kik236a kik236b => ?_)
        refine r_labC hX (tl1 42 rfl (by decide)) hS (fun s237 => ?_)
        refine r_apeekI hX al_30 s237 (i := ((30 * e) + l5_h27)) (by first | decide | omega) (by first | decide | omega) (fun onk238 onk238e onk238a onk238b => ?_)
        refine r_labC hX (tl1 43 rfl (by decide)) hS (fun s239 => ?_)
        refine r_apeekI hX al_31 s239 (i := ((30 * e) + l5_h27)) (by first | decide | omega) (by first | decide | omega) (fun twk240 twk240e twk240a twk240b => ?_)
        refine r_labC hX (tl1 45 rfl (by decide)) hS (fun s241 => ?_)
        refine r_apeekI hX al_33 s241 (i := ((30 * e) + l5_h27)) (by first | decide | omega) (by first | decide | omega) (fun mik242 mik242e mik242a mik242b => ?_)
        refine r_labC hX (tl1 46 rfl (by decide)) hS (fun s243 => ?_)
        refine r_apeekI hX al_34 s243 (i := ((30 * e) + l5_h27)) (by first | decide | omega) (by first | decide | omega) (fun enk244 enk244e enk244a enk244b => ?_)
        have mi245 : MI E (up (up G 1 (Ad E 1) 133 1) 1 (Ad E 1) 134 1) := mi_keep mi rfl rfl rfl rfl rfl rfl (fun _ => rfl) (fun _ => rfl) (fun _ => rfl) (fun _ => rfl) (fun _ => rfl) (fun _ => rfl) (fun _ => rfl) (fun _ => rfl) (fun _ => rfl) (fun _ => rfl) (fun _ => rfl) (fun _ => rfl) (fun _ => rfl)
        have cl246 := mi_cls mi245 events_e cm_e kik236e onk238e twk240e mik242e enk244e (by first | decide | omega) (by first | decide | omega) (by first | decide | omega) (by first | decide | omega)
        refine r_ex hX hP 1 (pc' := 42) (st' := [(2, (Ad E 1))]) (lo' := [(0, (2, (Ad E 1))), (1, (0, e)), (2, (0, l2_h27)), (3, (0, l3_h27)), (4, (0, l4_h27)), (5, (0, l5_h27)), (6, (0, ((30 * e) + l5_h27)))]) rfl ?_
        refine r_getC hX hP rfl fl_12_101 hS (fun _ => ?_)
        refine r_ex hX hP 1 (pc' := 47) (st' := [(0, ((30 * e) + l5_h27)), (2, (Ad E 29))]) (lo' := [(0, (2, (Ad E 1))), (1, (0, e)), (2, (0, l2_h27)), (3, (0, l3_h27)), (4, (0, l4_h27)), (5, (0, l5_h27)), (6, (0, ((30 * e) + l5_h27)))]) rfl ?_
        refine r_ialdK hX hP rfl al_29 s235 (by first | decide | omega) (by first | decide | omega) (x := kik236) kik236e ?_
        refine r_if_ne hX hP rfl (tgt := 54) rfl (by first | decide | omega) (by first | decide | omega) (fun c247 => ?_) (fun c247 => ?_)
        · skip
          refine r_ex hX hP 1 (pc' := 55) (st' := [(2, (Ad E 1))]) (lo' := [(0, (2, (Ad E 1))), (1, (0, e)), (2, (0, l2_h27)), (3, (0, l3_h27)), (4, (0, l4_h27)), (5, (0, l5_h27)), (6, (0, ((30 * e) + l5_h27)))]) rfl ?_
          refine r_getC hX hP rfl fl_12_101 hS (fun _ => ?_)
          refine r_ex hX hP 1 (pc' := 60) (st' := [(0, ((30 * e) + l5_h27)), (2, (Ad E 29))]) (lo' := [(0, (2, (Ad E 1))), (1, (0, e)), (2, (0, l2_h27)), (3, (0, l3_h27)), (4, (0, l4_h27)), (5, (0, l5_h27)), (6, (0, ((30 * e) + l5_h27)))]) rfl ?_
          refine r_ialdK hX hP rfl al_29 s235 (by first | decide | omega) (by first | decide | omega) (x := kik236) kik236e ?_
          refine r_ex hX hP 1 (pc' := 62) (st' := [(0, 1), (0, kik236)]) (lo' := [(0, (2, (Ad E 1))), (1, (0, e)), (2, (0, l2_h27)), (3, (0, l3_h27)), (4, (0, l4_h27)), (5, (0, l5_h27)), (6, (0, ((30 * e) + l5_h27)))]) rfl ?_
          refine r_ic_ne hX hP rfl (tgt := 84) rfl (by first | decide | omega) (by first | decide | omega) (by first | decide | omega) (by first | decide | omega) (fun c248 => ?_) (fun c248 => ?_)
          · skip
            refine r_ex hX hP 1 (pc' := 85) (st' := [(2, (Ad E 1))]) (lo' := [(0, (2, (Ad E 1))), (1, (0, e)), (2, (0, l2_h27)), (3, (0, l3_h27)), (4, (0, l4_h27)), (5, (0, l5_h27)), (6, (0, ((30 * e) + l5_h27)))]) rfl ?_
            refine r_getC hX hP rfl fl_12_101 hS (fun _ => ?_)
            refine r_ex hX hP 1 (pc' := 90) (st' := [(0, ((30 * e) + l5_h27)), (2, (Ad E 29))]) (lo' := [(0, (2, (Ad E 1))), (1, (0, e)), (2, (0, l2_h27)), (3, (0, l3_h27)), (4, (0, l4_h27)), (5, (0, l5_h27)), (6, (0, ((30 * e) + l5_h27)))]) rfl ?_
            refine r_ialdK hX hP rfl al_29 s235 (by first | decide | omega) (by first | decide | omega) (x := kik236) kik236e ?_
            refine r_ex hX hP 1 (pc' := 92) (st' := [(0, 1), (0, kik236)]) (lo' := [(0, (2, (Ad E 1))), (1, (0, e)), (2, (0, l2_h27)), (3, (0, l3_h27)), (4, (0, l4_h27)), (5, (0, l5_h27)), (6, (0, ((30 * e) + l5_h27)))]) rfl ?_
            refine r_ic_eq hX hP rfl (tgt := 119) rfl (by first | decide | omega) (by first | decide | omega) (by first | decide | omega) (by first | decide | omega) (fun c249 => ?_) (fun c249 => ?_)
            · skip
              exfalso; omega
            · skip
              refine r_ex hX hP 1 (pc' := 96) (st' := [(2, (Ad E 1))]) (lo' := [(0, (2, (Ad E 1))), (1, (0, e)), (2, (0, l2_h27)), (3, (0, l3_h27)), (4, (0, l4_h27)), (5, (0, l5_h27)), (6, (0, ((30 * e) + l5_h27)))]) rfl ?_
              refine r_getC hX hP rfl fl_12_101 hS (fun _ => ?_)
              refine r_ex hX hP 1 (pc' := 101) (st' := [(0, ((30 * e) + l5_h27)), (2, (Ad E 29))]) (lo' := [(0, (2, (Ad E 1))), (1, (0, e)), (2, (0, l2_h27)), (3, (0, l3_h27)), (4, (0, l4_h27)), (5, (0, l5_h27)), (6, (0, ((30 * e) + l5_h27)))]) rfl ?_
              refine r_ialdK hX hP rfl al_29 s235 (by first | decide | omega) (by first | decide | omega) (x := kik236) kik236e ?_
              refine r_if_ne hX hP rfl (tgt := 122) rfl (by first | decide | omega) (by first | decide | omega) (fun c250 => ?_) (fun c250 => ?_)
              · skip
                refine r_ex hX hP 2 (pc' := 27) (st' := []) (lo' := [(0, (2, (Ad E 1))), (1, (0, e)), (2, (0, l2_h27)), (3, (0, l3_h27)), (4, (0, l4_h27)), (5, (0, (l5_h27 + (-1)))), (6, (0, ((30 * e) + l5_h27)))]) rfl ?_
                refine r_pick hX [0, 1, 2, 3, 4, 5] (lo' := [(0, (2, (Ad E 1))), (1, (0, e)), (2, (0, l2_h27)), (3, (0, l3_h27)), (4, (0, l4_h27)), (5, (0, (l5_h27 + (-1))))]) rfl ?_
                exact ih27 l2_h27 l3_h27 l4_h27 (l5_h27 + (-1)) (by first | decide | omega) (by first | decide | omega) (by first | decide | omega) (by first | decide | omega) (by first | decide | omega) (by first | decide | omega) (by first | decide | omega) (by first | decide | omega) (by first | decide | omega) (by first | decide | omega) (by first | decide | omega)
              · skip
                exfalso; omega
          · skip
            refine r_ex hX hP 1 (pc' := 66) (st' := [(2, (Ad E 1))]) (lo' := [(0, (2, (Ad E 1))), (1, (0, e)), (2, (0, l2_h27)), (3, (0, l3_h27)), (4, (0, l4_h27)), (5, (0, l5_h27)), (6, (0, ((30 * e) + l5_h27)))]) rfl ?_
            refine r_getC hX hP rfl fl_12_104 hS (fun _ => ?_)
            refine r_ex hX hP 1 (pc' := 71) (st' := [(0, ((30 * e) + l5_h27)), (2, (Ad E 30))]) (lo' := [(0, (2, (Ad E 1))), (1, (0, e)), (2, (0, l2_h27)), (3, (0, l3_h27)), (4, (0, l4_h27)), (5, (0, l5_h27)), (6, (0, ((30 * e) + l5_h27)))]) rfl ?_
            refine r_ialdK hX hP rfl al_30 s237 (by first | decide | omega) (by first | decide | omega) (x := onk238) onk238e ?_
            refine r_ex hX hP 1 (pc' := 73) (st' := [(2, (Ad E 1)), (0, onk238)]) (lo' := [(0, (2, (Ad E 1))), (1, (0, e)), (2, (0, l2_h27)), (3, (0, l3_h27)), (4, (0, l4_h27)), (5, (0, l5_h27)), (6, (0, ((30 * e) + l5_h27)))]) rfl ?_
            refine r_getC hX hP rfl fl_12_107 hS (fun _ => ?_)
            refine r_ex hX hP 1 (pc' := 78) (st' := [(0, ((30 * e) + l5_h27)), (2, (Ad E 31)), (0, onk238)]) (lo' := [(0, (2, (Ad E 1))), (1, (0, e)), (2, (0, l2_h27)), (3, (0, l3_h27)), (4, (0, l4_h27)), (5, (0, l5_h27)), (6, (0, ((30 * e) + l5_h27)))]) rfl ?_
            refine r_ialdK hX hP rfl al_31 s239 (by first | decide | omega) (by first | decide | omega) (x := twk240) twk240e ?_
            refine r_ic_ne hX hP rfl (tgt := 84) rfl (by first | decide | omega) (by first | decide | omega) (by first | decide | omega) (by first | decide | omega) (fun c251 => ?_) (fun c251 => ?_)
            · skip
              refine r_ex hX hP 1 (pc' := 85) (st' := [(2, (Ad E 1))]) (lo' := [(0, (2, (Ad E 1))), (1, (0, e)), (2, (0, l2_h27)), (3, (0, l3_h27)), (4, (0, l4_h27)), (5, (0, l5_h27)), (6, (0, ((30 * e) + l5_h27)))]) rfl ?_
              refine r_getC hX hP rfl fl_12_101 hS (fun _ => ?_)
              refine r_ex hX hP 1 (pc' := 90) (st' := [(0, ((30 * e) + l5_h27)), (2, (Ad E 29))]) (lo' := [(0, (2, (Ad E 1))), (1, (0, e)), (2, (0, l2_h27)), (3, (0, l3_h27)), (4, (0, l4_h27)), (5, (0, l5_h27)), (6, (0, ((30 * e) + l5_h27)))]) rfl ?_
              refine r_ialdK hX hP rfl al_29 s235 (by first | decide | omega) (by first | decide | omega) (x := kik236) kik236e ?_
              refine r_ex hX hP 1 (pc' := 92) (st' := [(0, 1), (0, kik236)]) (lo' := [(0, (2, (Ad E 1))), (1, (0, e)), (2, (0, l2_h27)), (3, (0, l3_h27)), (4, (0, l4_h27)), (5, (0, l5_h27)), (6, (0, ((30 * e) + l5_h27)))]) rfl ?_
              refine r_ic_eq hX hP rfl (tgt := 119) rfl (by first | decide | omega) (by first | decide | omega) (by first | decide | omega) (by first | decide | omega) (fun c252 => ?_) (fun c252 => ?_)
              · skip
                refine r_ex hX hP 4 (pc' := 27) (st' := []) (lo' := [(0, (2, (Ad E 1))), (1, (0, e)), (2, (0, l2_h27)), (3, (0, l3_h27)), (4, (0, 1)), (5, (0, (l5_h27 + (-1)))), (6, (0, ((30 * e) + l5_h27)))]) rfl ?_
                refine r_pick hX [0, 1, 2, 3, 4, 5] (lo' := [(0, (2, (Ad E 1))), (1, (0, e)), (2, (0, l2_h27)), (3, (0, l3_h27)), (4, (0, 1)), (5, (0, (l5_h27 + (-1))))]) rfl ?_
                exact ih27 l2_h27 l3_h27 1 (l5_h27 + (-1)) (by first | decide | omega) (by first | decide | omega) (by first | decide | omega) (by first | decide | omega) (by first | decide | omega) (by first | decide | omega) (by first | decide | omega) (by first | decide | omega) (by first | decide | omega) (by first | decide | omega) (by first | decide | omega)
              · skip
                exfalso; omega
            · skip
              refine r_ex hX hP 3 (pc' := 85) (st' := [(2, (Ad E 1))]) (lo' := [(0, (2, (Ad E 1))), (1, (0, e)), (2, (0, l2_h27)), (3, (0, 1)), (4, (0, l4_h27)), (5, (0, l5_h27)), (6, (0, ((30 * e) + l5_h27)))]) rfl ?_
              refine r_getC hX hP rfl fl_12_101 hS (fun _ => ?_)
              refine r_ex hX hP 1 (pc' := 90) (st' := [(0, ((30 * e) + l5_h27)), (2, (Ad E 29))]) (lo' := [(0, (2, (Ad E 1))), (1, (0, e)), (2, (0, l2_h27)), (3, (0, 1)), (4, (0, l4_h27)), (5, (0, l5_h27)), (6, (0, ((30 * e) + l5_h27)))]) rfl ?_
              refine r_ialdK hX hP rfl al_29 s235 (by first | decide | omega) (by first | decide | omega) (x := kik236) kik236e ?_
              refine r_ex hX hP 1 (pc' := 92) (st' := [(0, 1), (0, kik236)]) (lo' := [(0, (2, (Ad E 1))), (1, (0, e)), (2, (0, l2_h27)), (3, (0, 1)), (4, (0, l4_h27)), (5, (0, l5_h27)), (6, (0, ((30 * e) + l5_h27)))]) rfl ?_
              refine r_ic_eq hX hP rfl (tgt := 119) rfl (by first | decide | omega) (by first | decide | omega) (by first | decide | omega) (by first | decide | omega) (fun c253 => ?_) (fun c253 => ?_)
              · skip
                refine r_ex hX hP 4 (pc' := 27) (st' := []) (lo' := [(0, (2, (Ad E 1))), (1, (0, e)), (2, (0, l2_h27)), (3, (0, 1)), (4, (0, 1)), (5, (0, (l5_h27 + (-1)))), (6, (0, ((30 * e) + l5_h27)))]) rfl ?_
                refine r_pick hX [0, 1, 2, 3, 4, 5] (lo' := [(0, (2, (Ad E 1))), (1, (0, e)), (2, (0, l2_h27)), (3, (0, 1)), (4, (0, 1)), (5, (0, (l5_h27 + (-1))))]) rfl ?_
                exact ih27 l2_h27 1 1 (l5_h27 + (-1)) (by first | decide | omega) (by first | decide | omega) (by first | decide | omega) (by first | decide | omega) (by first | decide | omega) (by first | decide | omega) (by first | decide | omega) (by first | decide | omega) (by first | decide | omega) (by first | decide | omega) (by first | decide | omega)
              · skip
                exfalso; omega
        · skip
          refine r_ex hX hP 3 (pc' := 55) (st' := [(2, (Ad E 1))]) (lo' := [(0, (2, (Ad E 1))), (1, (0, e)), (2, (0, ((30 * e) + l5_h27))), (3, (0, l3_h27)), (4, (0, l4_h27)), (5, (0, l5_h27)), (6, (0, ((30 * e) + l5_h27)))]) rfl ?_
          refine r_getC hX hP rfl fl_12_101 hS (fun _ => ?_)
          refine r_ex hX hP 1 (pc' := 60) (st' := [(0, ((30 * e) + l5_h27)), (2, (Ad E 29))]) (lo' := [(0, (2, (Ad E 1))), (1, (0, e)), (2, (0, ((30 * e) + l5_h27))), (3, (0, l3_h27)), (4, (0, l4_h27)), (5, (0, l5_h27)), (6, (0, ((30 * e) + l5_h27)))]) rfl ?_
          refine r_ialdK hX hP rfl al_29 s235 (by first | decide | omega) (by first | decide | omega) (x := kik236) kik236e ?_
          refine r_ex hX hP 1 (pc' := 62) (st' := [(0, 1), (0, kik236)]) (lo' := [(0, (2, (Ad E 1))), (1, (0, e)), (2, (0, ((30 * e) + l5_h27))), (3, (0, l3_h27)), (4, (0, l4_h27)), (5, (0, l5_h27)), (6, (0, ((30 * e) + l5_h27)))]) rfl ?_
          refine r_ic_ne hX hP rfl (tgt := 84) rfl (by first | decide | omega) (by first | decide | omega) (by first | decide | omega) (by first | decide | omega) (fun c254 => ?_) (fun c254 => ?_)
          · skip
            refine r_ex hX hP 1 (pc' := 85) (st' := [(2, (Ad E 1))]) (lo' := [(0, (2, (Ad E 1))), (1, (0, e)), (2, (0, ((30 * e) + l5_h27))), (3, (0, l3_h27)), (4, (0, l4_h27)), (5, (0, l5_h27)), (6, (0, ((30 * e) + l5_h27)))]) rfl ?_
            refine r_getC hX hP rfl fl_12_101 hS (fun _ => ?_)
            refine r_ex hX hP 1 (pc' := 90) (st' := [(0, ((30 * e) + l5_h27)), (2, (Ad E 29))]) (lo' := [(0, (2, (Ad E 1))), (1, (0, e)), (2, (0, ((30 * e) + l5_h27))), (3, (0, l3_h27)), (4, (0, l4_h27)), (5, (0, l5_h27)), (6, (0, ((30 * e) + l5_h27)))]) rfl ?_
            refine r_ialdK hX hP rfl al_29 s235 (by first | decide | omega) (by first | decide | omega) (x := kik236) kik236e ?_
            refine r_ex hX hP 1 (pc' := 92) (st' := [(0, 1), (0, kik236)]) (lo' := [(0, (2, (Ad E 1))), (1, (0, e)), (2, (0, ((30 * e) + l5_h27))), (3, (0, l3_h27)), (4, (0, l4_h27)), (5, (0, l5_h27)), (6, (0, ((30 * e) + l5_h27)))]) rfl ?_
            refine r_ic_eq hX hP rfl (tgt := 119) rfl (by first | decide | omega) (by first | decide | omega) (by first | decide | omega) (by first | decide | omega) (fun c255 => ?_) (fun c255 => ?_)
            · skip
              exfalso; omega
            · skip
              refine r_ex hX hP 1 (pc' := 96) (st' := [(2, (Ad E 1))]) (lo' := [(0, (2, (Ad E 1))), (1, (0, e)), (2, (0, ((30 * e) + l5_h27))), (3, (0, l3_h27)), (4, (0, l4_h27)), (5, (0, l5_h27)), (6, (0, ((30 * e) + l5_h27)))]) rfl ?_
              refine r_getC hX hP rfl fl_12_101 hS (fun _ => ?_)
              refine r_ex hX hP 1 (pc' := 101) (st' := [(0, ((30 * e) + l5_h27)), (2, (Ad E 29))]) (lo' := [(0, (2, (Ad E 1))), (1, (0, e)), (2, (0, ((30 * e) + l5_h27))), (3, (0, l3_h27)), (4, (0, l4_h27)), (5, (0, l5_h27)), (6, (0, ((30 * e) + l5_h27)))]) rfl ?_
              refine r_ialdK hX hP rfl al_29 s235 (by first | decide | omega) (by first | decide | omega) (x := kik236) kik236e ?_
              refine r_if_ne hX hP rfl (tgt := 122) rfl (by first | decide | omega) (by first | decide | omega) (fun c256 => ?_) (fun c256 => ?_)
              · skip
                exfalso; omega
              · skip
                refine r_ex hX hP 1 (pc' := 106) (st' := [(2, (Ad E 1))]) (lo' := [(0, (2, (Ad E 1))), (1, (0, e)), (2, (0, ((30 * e) + l5_h27))), (3, (0, l3_h27)), (4, (0, l4_h27)), (5, (0, l5_h27)), (6, (0, ((30 * e) + l5_h27)))]) rfl ?_
                refine r_getC hX hP rfl fl_12_110 hS (fun s257 => ?_)
                refine r_ex hX hP 1 (pc' := 111) (st' := [(0, ((30 * e) + l5_h27)), (2, (Ad E 32))]) (lo' := [(0, (2, (Ad E 1))), (1, (0, e)), (2, (0, ((30 * e) + l5_h27))), (3, (0, l3_h27)), (4, (0, l4_h27)), (5, (0, l5_h27)), (6, (0, ((30 * e) + l5_h27)))]) rfl ?_
                refine r_iald hX hP rfl al_32 s257 (by first | decide | omega) (by first | decide | omega) (fun x258 x258e x258a x258b => ?_)
                refine r_ex hX hP 1 (pc' := 113) (st' := [(2, (Ad E 1)), (0, x258)]) (lo' := [(0, (2, (Ad E 1))), (1, (0, e)), (2, (0, ((30 * e) + l5_h27))), (3, (0, l3_h27)), (4, (0, l4_h27)), (5, (0, l5_h27)), (6, (0, ((30 * e) + l5_h27)))]) rfl ?_
                refine r_getKI hX hP rfl fl_12_655 hS (x := on) on_e ?_
                refine r_ic_ne hX hP rfl (tgt := 122) rfl (by first | decide | omega) (by first | decide | omega) (by first | decide | omega) (by first | decide | omega) (fun c259 => ?_) (fun c259 => ?_)
                · skip
                  refine r_ex hX hP 2 (pc' := 27) (st' := []) (lo' := [(0, (2, (Ad E 1))), (1, (0, e)), (2, (0, ((30 * e) + l5_h27))), (3, (0, l3_h27)), (4, (0, l4_h27)), (5, (0, (l5_h27 + (-1)))), (6, (0, ((30 * e) + l5_h27)))]) rfl ?_
                  refine r_pick hX [0, 1, 2, 3, 4, 5] (lo' := [(0, (2, (Ad E 1))), (1, (0, e)), (2, (0, ((30 * e) + l5_h27))), (3, (0, l3_h27)), (4, (0, l4_h27)), (5, (0, (l5_h27 + (-1))))]) rfl ?_
                  exact ih27 ((30 * e) + l5_h27) l3_h27 l4_h27 (l5_h27 + (-1)) (by first | decide | omega) (by first | decide | omega) (by first | decide | omega) (by first | decide | omega) (by first | decide | omega) (by first | decide | omega) (by first | decide | omega) (by first | decide | omega) (by first | decide | omega) (by first | decide | omega) (by first | decide | omega)
                · skip
                  refine r_ex hX hP 4 (pc' := 27) (st' := []) (lo' := [(0, (2, (Ad E 1))), (1, (0, e)), (2, (0, ((30 * e) + l5_h27))), (3, (0, l3_h27)), (4, (0, 1)), (5, (0, (l5_h27 + (-1)))), (6, (0, ((30 * e) + l5_h27)))]) rfl ?_
                  refine r_pick hX [0, 1, 2, 3, 4, 5] (lo' := [(0, (2, (Ad E 1))), (1, (0, e)), (2, (0, ((30 * e) + l5_h27))), (3, (0, l3_h27)), (4, (0, 1)), (5, (0, (l5_h27 + (-1))))]) rfl ?_
                  exact ih27 ((30 * e) + l5_h27) l3_h27 1 (l5_h27 + (-1)) (by first | decide | omega) (by first | decide | omega) (by first | decide | omega) (by first | decide | omega) (by first | decide | omega) (by first | decide | omega) (by first | decide | omega) (by first | decide | omega) (by first | decide | omega) (by first | decide | omega) (by first | decide | omega)
          · skip
            exfalso; omega
  exact loop27 (((cm - 1) - (-1)) + 1 : Int).toNat (-1) 0 0 (cm - 1) (by first | decide | omega) (by first | decide | omega) (by first | decide | omega) (by first | decide | omega) (by first | decide | omega) (by first | decide | omega) (by first | decide | omega) (by first | decide | omega) (by first | decide | omega) (by first | decide | omega) (by first | decide | omega)
set_option maxRecDepth 100000 in
set_option maxHeartbeats 4000000 in
theorem c_X12_becomes (E : En) (S : Sg) (G : Gh) (o day : Int) (hS : S (Ad E 1) = 1) (options : Int) (options_e : options = G 1 (Ad E 1) 11) (o_a : 0 ≤ o) (o_b : o ≤ 9) (day_a : 0 ≤ day) (day_b : day ≤ 40000) (pre0 : o < options) (mi : MI E G) : Calls E mX12_becomes [(2, (Ad E 1)), (0, o), (0, day)] S G 6 0 0 (fun r S' G' => S = S' ∧ (∃ G1, hv [128, 129, 130, 131, 132, 133, 134, 135, 136, 137] [] G G1 = G') ∧ ∃ z : Int, r = some (0, z) ∧ 0 ≤ z ∧ z ≤ 8) := by
  refine calls_by [(0, (2, (Ad E 1))), (1, (0, o)), (2, (0, day))] rfl rfl (Nat.le_of_ble_eq_true rfl) (fun X hX => ?_)
  have hP := hPX12_becomes
  refine r_peekI hX (tl1 11 rfl (by decide)) hS (fun options_o options_oe options_oa options_ob => ?_)
  obtain rfl : options = options_o := options_e.trans options_oe.symm
  refine r_ex hX hP 2 (pc' := 2) (st' := [(2, (Ad E 1)), (2, (Ad E 1))]) (lo' := [(0, (2, (Ad E 1))), (1, (0, o)), (2, (0, day))]) rfl ?_
  refine r_getC hX hP rfl fl_12_146 hS (fun s1 => ?_)
  refine r_ex hX hP 1 (pc' := 6) (st' := [(0, o), (2, (Ad E 44)), (2, (Ad E 1))]) (lo' := [(0, (2, (Ad E 1))), (1, (0, o)), (2, (0, day))]) rfl ?_
  refine r_iald hX hP rfl al_44 s1 (by first | decide | omega) (by first | decide | omega) (fun x2 x2e x2a x2b => ?_)
  refine r_putIK hX hP rfl fp_12_655 hS (by first | decide | omega) (by first | decide | omega) (fun h3 => ?_)
  refine r_ex hX hP 2 (pc' := 12) (st' := [(2, (Ad E 1)), (2, (Ad E 1))]) (lo' := [(0, (2, (Ad E 1))), (1, (0, o)), (2, (0, day))]) rfl ?_
  refine r_getC hX hP rfl fl_12_152 hS (fun s4 => ?_)
  refine r_ex hX hP 1 (pc' := 16) (st' := [(0, o), (2, (Ad E 46)), (2, (Ad E 1))]) (lo' := [(0, (2, (Ad E 1))), (1, (0, o)), (2, (0, day))]) rfl ?_
  refine r_iald hX hP rfl al_46 s4 (by first | decide | omega) (by first | decide | omega) (fun x5 x5e x5a x5b => ?_)
  have mi6 : MI E (up G 1 (Ad E 1) 128 x2) := mi_keep mi rfl rfl rfl rfl rfl rfl (fun _ => rfl) (fun _ => rfl) (fun _ => rfl) (fun _ => rfl) (fun _ => rfl) (fun _ => rfl) (fun _ => rfl) (fun _ => rfl) (fun _ => rfl) (fun _ => rfl) (fun _ => rfl) (fun _ => rfl) (fun _ => rfl)
  have x5m := mi_optS mi6 options_e x5e (by first | decide | omega) (by first | decide | omega)
  refine r_i2l hX hP rfl (by first | decide | omega) (by first | decide | omega) ?_
  refine r_putLK hX hP rfl fp_12_672 hS (by first | decide | omega) (by first | decide | omega) (fun h7 => ?_)
  refine r_ex hX hP 2 (pc' := 23) (st' := [(1, 1), (2, (Ad E 1))]) (lo' := [(0, (2, (Ad E 1))), (1, (0, o)), (2, (0, day))]) rfl ?_
  refine r_putLK hX hP rfl fp_12_675 hS (by first | decide | omega) (by first | decide | omega) (fun h8 => ?_)
  refine r_ex hX hP 2 (pc' := 28) (st' := [(2, (Ad E 1)), (2, (Ad E 1))]) (lo' := [(0, (2, (Ad E 1))), (1, (0, o)), (2, (0, day))]) rfl ?_
  refine r_getC hX hP rfl fl_12_155 hS (fun s9 => ?_)
  refine r_ex hX hP 1 (pc' := 32) (st' := [(0, o), (2, (Ad E 47)), (2, (Ad E 1))]) (lo' := [(0, (2, (Ad E 1))), (1, (0, o)), (2, (0, day))]) rfl ?_
  refine r_iald hX hP rfl al_47 s9 (by first | decide | omega) (by first | decide | omega) (fun x10 x10e x10a x10b => ?_)
  have mi11 : MI E (up (up (up G 1 (Ad E 1) 128 x2) 1 (Ad E 1) 129 x5) 1 (Ad E 1) 130 1) := mi_keep mi6 rfl rfl rfl rfl rfl rfl (fun _ => rfl) (fun _ => rfl) (fun _ => rfl) (fun _ => rfl) (fun _ => rfl) (fun _ => rfl) (fun _ => rfl) (fun _ => rfl) (fun _ => rfl) (fun _ => rfl) (fun _ => rfl) (fun _ => rfl) (fun _ => rfl)
  have x10m := mi_optN mi11 options_e x10e (by first | decide | omega) (by first | decide | omega)
  refine r_i2l hX hP rfl (by first | decide | omega) (by first | decide | omega) ?_
  refine r_putLK hX hP rfl fp_12_662 hS (by first | decide | omega) (by first | decide | omega) (fun h12 => ?_)
  refine r_ex hX hP 2 (pc' := 39) (st' := [(1, 1), (2, (Ad E 1))]) (lo' := [(0, (2, (Ad E 1))), (1, (0, o)), (2, (0, day))]) rfl ?_
  refine r_putLK hX hP rfl fp_12_665 hS (by first | decide | omega) (by first | decide | omega) (fun h13 => ?_)
  refine r_ex hX hP 2 (pc' := 44) (st' := [(0, 0), (2, (Ad E 1))]) (lo' := [(0, (2, (Ad E 1))), (1, (0, o)), (2, (0, day))]) rfl ?_
  refine r_putIK hX hP rfl fp_12_644 hS (by first | decide | omega) (by first | decide | omega) (fun h14 => ?_)
  refine r_ex hX hP 1 (pc' := 48) (st' := [(2, (Ad E 1))]) (lo' := [(0, (2, (Ad E 1))), (1, (0, o)), (2, (0, day))]) rfl ?_
  refine r_getC hX hP rfl fl_12_149 hS (fun s15 => ?_)
  refine r_ex hX hP 1 (pc' := 52) (st' := [(0, o), (2, (Ad E 45))]) (lo' := [(0, (2, (Ad E 1))), (1, (0, o)), (2, (0, day))]) rfl ?_
  refine r_iald hX hP rfl al_45 s15 (by first | decide | omega) (by first | decide | omega) (fun x16 x16e x16a x16b => ?_)
  refine r_ex hX hP 3 (pc' := 56) (st' := []) (lo' := [(0, (2, (Ad E 1))), (1, (0, o)), (2, (0, day)), (3, (0, (x16 - 1)))]) rfl ?_
  have x228 : ∀ (l3_x228 numberTop_x228 numberLow_x228 strikeTop_x228 strikeLow_x228 isFar_x228 on_x228 : Int) (Gx228 : Gh), numberTop_x228 = (hv [128, 129, 130, 131, 132, 133, 134, 135, 136, 137] [] (up (up (up (up (up (up G 1 (Ad E 1) 128 x2) 1 (Ad E 1) 129 x5) 1 (Ad E 1) 130 1) 1 (Ad E 1) 131 x10) 1 (Ad E 1) 132 1) 1 (Ad E 1) 135 0) Gx228) 1 (Ad E 1) 131 → numberLow_x228 = (hv [128, 129, 130, 131, 132, 133, 134, 135, 136, 137] [] (up (up (up (up (up (up G 1 (Ad E 1) 128 x2) 1 (Ad E 1) 129 x5) 1 (Ad E 1) 130 1) 1 (Ad E 1) 131 x10) 1 (Ad E 1) 132 1) 1 (Ad E 1) 135 0) Gx228) 1 (Ad E 1) 132 → strikeTop_x228 = (hv [128, 129, 130, 131, 132, 133, 134, 135, 136, 137] [] (up (up (up (up (up (up G 1 (Ad E 1) 128 x2) 1 (Ad E 1) 129 x5) 1 (Ad E 1) 130 1) 1 (Ad E 1) 131 x10) 1 (Ad E 1) 132 1) 1 (Ad E 1) 135 0) Gx228) 1 (Ad E 1) 129 → strikeLow_x228 = (hv [128, 129, 130, 131, 132, 133, 134, 135, 136, 137] [] (up (up (up (up (up (up G 1 (Ad E 1) 128 x2) 1 (Ad E 1) 129 x5) 1 (Ad E 1) 130 1) 1 (Ad E 1) 131 x10) 1 (Ad E 1) 132 1) 1 (Ad E 1) 135 0) Gx228) 1 (Ad E 1) 130 → isFar_x228 = (hv [128, 129, 130, 131, 132, 133, 134, 135, 136, 137] [] (up (up (up (up (up (up G 1 (Ad E 1) 128 x2) 1 (Ad E 1) 129 x5) 1 (Ad E 1) 130 1) 1 (Ad E 1) 131 x10) 1 (Ad E 1) 132 1) 1 (Ad E 1) 135 0) Gx228) 1 (Ad E 1) 135 → on_x228 = (hv [128, 129, 130, 131, 132, 133, 134, 135, 136, 137] [] (up (up (up (up (up (up G 1 (Ad E 1) 128 x2) 1 (Ad E 1) 129 x5) 1 (Ad E 1) 130 1) 1 (Ad E 1) 131 x10) 1 (Ad E 1) 132 1) 1 (Ad E 1) 135 0) Gx228) 1 (Ad E 1) 128 → (-1) ≤ l3_x228 → l3_x228 ≤ 40000 → 1 ≤ numberTop_x228 → numberTop_x228 ≤ 1000000000000 → 1 ≤ numberLow_x228 → numberLow_x228 ≤ 1000000000000 → 1 ≤ strikeTop_x228 → strikeTop_x228 ≤ 1000000000000 → 1 ≤ strikeLow_x228 → strikeLow_x228 ≤ 1000000000000 → 0 ≤ isFar_x228 → isFar_x228 ≤ 1 → (-1) ≤ on_x228 → on_x228 ≤ 19 → X 0 0 228 [] [(0, (2, (Ad E 1))), (1, (0, o)), (2, (0, day)), (3, (0, l3_x228))] S (hv [128, 129, 130, 131, 132, 133, 134, 135, 136, 137] [] (up (up (up (up (up (up G 1 (Ad E 1) 128 x2) 1 (Ad E 1) 129 x5) 1 (Ad E 1) 130 1) 1 (Ad E 1) 131 x10) 1 (Ad E 1) 132 1) 1 (Ad E 1) 135 0) Gx228) := by
    intro l3_x228 numberTop_x228 numberLow_x228 strikeTop_x228 strikeLow_x228 isFar_x228 on_x228 Gx228 numberTop_x228_e numberLow_x228_e strikeTop_x228_e strikeLow_x228_e isFar_x228_e on_x228_e yx228_0 yx228_1 yx228_2 yx228_3 yx228_4 yx228_5 yx228_6 yx228_7 yx228_8 yx228_9 yx228_10 yx228_11 yx228_12 yx228_13
    refine r_ex hX hP 1 (pc' := 229) (st' := [(2, (Ad E 1))]) (lo' := [(0, (2, (Ad E 1))), (1, (0, o)), (2, (0, day)), (3, (0, l3_x228))]) rfl ?_
    refine r_getKI hX hP rfl fl_12_644 hS (x := isFar_x228) isFar_x228_e ?_
    refine r_if_eq hX hP rfl (tgt := 240) rfl (by first | decide | omega) (by first | decide | omega) (fun c17 => ?_) (fun c17 => ?_)
    · skip
      refine r_ex hX hP 1 (pc' := 241) (st' := [(2, (Ad E 1))]) (lo' := [(0, (2, (Ad E 1))), (1, (0, o)), (2, (0, day)), (3, (0, l3_x228))]) rfl ?_
      refine r_getKI hX hP rfl fl_12_655 hS (x := on_x228) on_x228_e ?_
      refine r_if_ge hX hP rfl (tgt := 251) rfl (by first | decide | omega) (by first | decide | omega) (fun c18 => ?_) (fun c18 => ?_)
      · skip
        refine r_ex hX hP 1 (pc' := 252) (st' := [(0, 0)]) (lo' := [(0, (2, (Ad E 1))), (1, (0, o)), (2, (0, day)), (3, (0, l3_x228))]) rfl ?_
        exact r_retI hX hP rfl rfl (by first | decide | omega) (by first | decide | omega) ⟨rfl, ⟨_, (hq_loop (hq_up (hq_up (hq_up (hq_up (hq_up (hq_up (hq_refl _ _ _) rfl) rfl) rfl) rfl) rfl) rfl) rfl).symm⟩, 0, rfl, (by first | decide | omega)⟩
      · skip
        refine r_ex hX hP 2 (pc' := 252) (st' := [(0, 5)]) (lo' := [(0, (2, (Ad E 1))), (1, (0, o)), (2, (0, day)), (3, (0, l3_x228))]) rfl ?_
        exact r_retI hX hP rfl rfl (by first | decide | omega) (by first | decide | omega) ⟨rfl, ⟨_, (hq_loop (hq_up (hq_up (hq_up (hq_up (hq_up (hq_up (hq_refl _ _ _) rfl) rfl) rfl) rfl) rfl) rfl) rfl).symm⟩, 5, rfl, (by first | decide | omega)⟩
    · skip
      refine r_ex hX hP 2 (pc' := 252) (st' := [(0, 8)]) (lo' := [(0, (2, (Ad E 1))), (1, (0, o)), (2, (0, day)), (3, (0, l3_x228))]) rfl ?_
      exact r_retI hX hP rfl rfl (by first | decide | omega) (by first | decide | omega) ⟨rfl, ⟨_, (hq_loop (hq_up (hq_up (hq_up (hq_up (hq_up (hq_up (hq_refl _ _ _) rfl) rfl) rfl) rfl) rfl) rfl) rfl).symm⟩, 8, rfl, (by first | decide | omega)⟩
  have loop56 : ∀ (nF : Nat) (l3_h56 numberTop_h56 numberLow_h56 strikeTop_h56 strikeLow_h56 isFar_h56 on_h56 : Int) (Gh56 : Gh), numberTop_h56 = (hv [128, 129, 130, 131, 132, 133, 134, 135, 136, 137] [] (up (up (up (up (up (up G 1 (Ad E 1) 128 x2) 1 (Ad E 1) 129 x5) 1 (Ad E 1) 130 1) 1 (Ad E 1) 131 x10) 1 (Ad E 1) 132 1) 1 (Ad E 1) 135 0) Gh56) 1 (Ad E 1) 131 → numberLow_h56 = (hv [128, 129, 130, 131, 132, 133, 134, 135, 136, 137] [] (up (up (up (up (up (up G 1 (Ad E 1) 128 x2) 1 (Ad E 1) 129 x5) 1 (Ad E 1) 130 1) 1 (Ad E 1) 131 x10) 1 (Ad E 1) 132 1) 1 (Ad E 1) 135 0) Gh56) 1 (Ad E 1) 132 → strikeTop_h56 = (hv [128, 129, 130, 131, 132, 133, 134, 135, 136, 137] [] (up (up (up (up (up (up G 1 (Ad E 1) 128 x2) 1 (Ad E 1) 129 x5) 1 (Ad E 1) 130 1) 1 (Ad E 1) 131 x10) 1 (Ad E 1) 132 1) 1 (Ad E 1) 135 0) Gh56) 1 (Ad E 1) 129 → strikeLow_h56 = (hv [128, 129, 130, 131, 132, 133, 134, 135, 136, 137] [] (up (up (up (up (up (up G 1 (Ad E 1) 128 x2) 1 (Ad E 1) 129 x5) 1 (Ad E 1) 130 1) 1 (Ad E 1) 131 x10) 1 (Ad E 1) 132 1) 1 (Ad E 1) 135 0) Gh56) 1 (Ad E 1) 130 → isFar_h56 = (hv [128, 129, 130, 131, 132, 133, 134, 135, 136, 137] [] (up (up (up (up (up (up G 1 (Ad E 1) 128 x2) 1 (Ad E 1) 129 x5) 1 (Ad E 1) 130 1) 1 (Ad E 1) 131 x10) 1 (Ad E 1) 132 1) 1 (Ad E 1) 135 0) Gh56) 1 (Ad E 1) 135 → on_h56 = (hv [128, 129, 130, 131, 132, 133, 134, 135, 136, 137] [] (up (up (up (up (up (up G 1 (Ad E 1) 128 x2) 1 (Ad E 1) 129 x5) 1 (Ad E 1) 130 1) 1 (Ad E 1) 131 x10) 1 (Ad E 1) 132 1) 1 (Ad E 1) 135 0) Gh56) 1 (Ad E 1) 128 → (-1) ≤ l3_h56 → l3_h56 ≤ 40000 → 1 ≤ numberTop_h56 → numberTop_h56 ≤ 1000000000000 → 1 ≤ numberLow_h56 → numberLow_h56 ≤ 1000000000000 → 1 ≤ strikeTop_h56 → strikeTop_h56 ≤ 1000000000000 → 1 ≤ strikeLow_h56 → strikeLow_h56 ≤ 1000000000000 → 0 ≤ isFar_h56 → isFar_h56 ≤ 1 → (-1) ≤ on_h56 → on_h56 ≤ 19 → 40001 - l3_h56 < (nF : Int) → X 0 0 56 [] [(0, (2, (Ad E 1))), (1, (0, o)), (2, (0, day)), (3, (0, l3_h56))] S (hv [128, 129, 130, 131, 132, 133, 134, 135, 136, 137] [] (up (up (up (up (up (up G 1 (Ad E 1) 128 x2) 1 (Ad E 1) 129 x5) 1 (Ad E 1) 130 1) 1 (Ad E 1) 131 x10) 1 (Ad E 1) 132 1) 1 (Ad E 1) 135 0) Gh56) := by
    intro nF
    induction nF with
    | zero => intro l3_h56 numberTop_h56 numberLow_h56 strikeTop_h56 strikeLow_h56 isFar_h56 on_h56 Gh56 numberTop_h56_e numberLow_h56_e strikeTop_h56_e strikeLow_h56_e isFar_h56_e on_h56_e yh56_0 yh56_1 yh56_2 yh56_3 yh56_4 yh56_5 yh56_6 yh56_7 yh56_8 yh56_9 yh56_10 yh56_11 yh56_12 yh56_13 ym56; exfalso; omega
    | succ nF ih56 =>
      intro l3_h56 numberTop_h56 numberLow_h56 strikeTop_h56 strikeLow_h56 isFar_h56 on_h56 Gh56 numberTop_h56_e numberLow_h56_e strikeTop_h56_e strikeLow_h56_e isFar_h56_e on_h56_e yh56_0 yh56_1 yh56_2 yh56_3 yh56_4 yh56_5 yh56_6 yh56_7 yh56_8 yh56_9 yh56_10 yh56_11 yh56_12 yh56_13 ym56
      refine r_ex hX hP 2 (pc' := 58) (st' := [(0, day), (0, l3_h56)]) (lo' := [(0, (2, (Ad E 1))), (1, (0, o)), (2, (0, day)), (3, (0, l3_h56))]) rfl ?_
      refine r_ic_ge hX hP rfl (tgt := 228) rfl (by first | decide | omega) (by first | decide | omega) (by first | decide | omega) (by first | decide | omega) (fun c19 => ?_) (fun c19 => ?_)
      · skip
        refine r_eqG (X := X) (hq_loop (hq_refl [128, 129, 130, 131, 132, 133, 134, 135, 136, 137] [] _) rfl) ?_
        exact x228 l3_h56 numberTop_h56 numberLow_h56 strikeTop_h56 strikeLow_h56 isFar_h56 on_h56 _ numberTop_h56_e numberLow_h56_e strikeTop_h56_e strikeLow_h56_e isFar_h56_e on_h56_e (by first | decide | omega) (by first | decide | omega) (by first | decide | omega) (by first | decide | omega) (by first | decide | omega) (by first | decide | omega) (by first | decide | omega) (by first | decide | omega) (by first | decide | omega) (by first | decide | omega) (by first | decide | omega) (by first | decide | omega) (by first | decide | omega) (by first | decide | omega)
      · skip
        refine r_ex hX hP 1 (pc' := 62) (st' := [(2, (Ad E 1))]) (lo' := [(0, (2, (Ad E 1))), (1, (0, o)), (2, (0, day)), (3, (0, l3_h56))]) rfl ?_
        refine r_getKI hX hP rfl fl_12_655 hS (x := on_h56) on_h56_e ?_
        refine r_if_lt hX hP rfl (tgt := 228) rfl (by first | decide | omega) (by first | decide | omega) (fun c20 => ?_) (fun c20 => ?_)
        · skip
          refine r_eqG (X := X) (hq_loop (hq_refl [128, 129, 130, 131, 132, 133, 134, 135, 136, 137] [] _) rfl) ?_
          exact x228 l3_h56 numberTop_h56 numberLow_h56 strikeTop_h56 strikeLow_h56 isFar_h56 on_h56 _ numberTop_h56_e numberLow_h56_e strikeTop_h56_e strikeLow_h56_e isFar_h56_e on_h56_e (by first | decide | omega) (by first | decide | omega) (by first | decide | omega) (by first | decide | omega) (by first | decide | omega) (by first | decide | omega) (by first | decide | omega) (by first | decide | omega) (by first | decide | omega) (by first | decide | omega) (by first | decide | omega) (by first | decide | omega) (by first | decide | omega) (by first | decide | omega)
        · skip
          refine r_ex hX hP 1 (pc' := 69) (st' := [(2, (Ad E 1))]) (lo' := [(0, (2, (Ad E 1))), (1, (0, o)), (2, (0, day)), (3, (0, l3_h56))]) rfl ?_
          refine r_getKI hX hP rfl fl_12_644 hS (x := isFar_h56) isFar_h56_e ?_
          refine r_if_ne hX hP rfl (tgt := 228) rfl (by first | decide | omega) (by first | decide | omega) (fun c21 => ?_) (fun c21 => ?_)
          · skip
            refine r_eqG (X := X) (hq_loop (hq_refl [128, 129, 130, 131, 132, 133, 134, 135, 136, 137] [] _) rfl) ?_
            exact x228 l3_h56 numberTop_h56 numberLow_h56 strikeTop_h56 strikeLow_h56 isFar_h56 on_h56 _ numberTop_h56_e numberLow_h56_e strikeTop_h56_e strikeLow_h56_e isFar_h56_e on_h56_e (by first | decide | omega) (by first | decide | omega) (by first | decide | omega) (by first | decide | omega) (by first | decide | omega) (by first | decide | omega) (by first | decide | omega) (by first | decide | omega) (by first | decide | omega) (by first | decide | omega) (by first | decide | omega) (by first | decide | omega) (by first | decide | omega) (by first | decide | omega)
          · skip
            refine r_ldcw hX hP rfl (v := 1000000000) (tbg sg9 109 rfl rfl) ?_
            refine r_ex hX hP 3 (pc' := 83) (st' := []) (lo' := [(0, (2, (Ad E 1))), (1, (0, o)), (2, (0, day)), (3, (0, l3_h56)), (4, (0, 1000000000)), (5, (0, 0))]) rfl ?_
            have loop83 : ∀ (nF : Nat) (l4_h83 l5_h83 : Int), 0 ≤ l4_h83 → l4_h83 ≤ 1000000000 → 0 ≤ l5_h83 → l5_h83 ≤ 16 → l3_h56 < l4_h83 → 16 - l5_h83 < (nF : Int) → X 0 0 83 [] [(0, (2, (Ad E 1))), (1, (0, o)), (2, (0, day)), (3, (0, l3_h56)), (4, (0, l4_h83)), (5, (0, l5_h83))] S (hv [128, 129, 130, 131, 132, 133, 134, 135, 136, 137] [] (up (up (up (up (up (up G 1 (Ad E 1) 128 x2) 1 (Ad E 1) 129 x5) 1 (Ad E 1) 130 1) 1 (Ad E 1) 131 x10) 1 (Ad E 1) 132 1) 1 (Ad E 1) 135 0) Gh56) := by
              intro nF
              induction nF with
              | zero => intro l4_h83 l5_h83 yh83_0 yh83_1 yh83_2 yh83_3 yh83_4 ym83; exfalso; omega
              | succ nF ih83 =>
                intro l4_h83 l5_h83 yh83_0 yh83_1 yh83_2 yh83_3 yh83_4 ym83
                refine r_ex hX hP 2 (pc' := 86) (st' := [(2, (Ad E 1)), (0, l5_h83)]) (lo' := [(0, (2, (Ad E 1))), (1, (0, o)), (2, (0, day)), (3, (0, l3_h56)), (4, (0, l4_h83)), (5, (0, l5_h83))]) rfl ?_
                refine r_getI hX hP rfl fl_12_490 hS (fun ef22 ef22e ef22a ef22b => ?_)
                refine r_ic_ge hX hP rfl (tgt := 132) rfl (by first | decide | omega) (by first | decide | omega) (by first | decide | omega) (by first | decide | omega) (fun c23 => ?_) (fun c23 => ?_)
                · skip
                  refine r_ex hX hP 2 (pc' := 135) (st' := [(0, day), (0, l4_h83)]) (lo' := [(0, (2, (Ad E 1))), (1, (0, o)), (2, (0, day)), (3, (0, l3_h56)), (4, (0, l4_h83)), (5, (0, l5_h83))]) rfl ?_
                  refine r_ic_le hX hP rfl (tgt := 141) rfl (by first | decide | omega) (by first | decide | omega) (by first | decide | omega) (by first | decide | omega) (fun c24 => ?_) (fun c24 => ?_)
                  · skip
                    refine r_ex hX hP 4 (pc' := 147) (st' := []) (lo' := [(0, (2, (Ad E 1))), (1, (0, o)), (2, (0, day)), (3, (0, l4_h83)), (4, (0, l4_h83)), (5, (0, 0))]) rfl ?_
                    have x225 : ∀ (l5_x225 numberTop_x225 numberLow_x225 strikeTop_x225 strikeLow_x225 isFar_x225 on_x225 : Int) (Gx225 : Gh), numberTop_x225 = (hv [128, 129, 130, 131, 132, 133, 134, 135, 136, 137] [] (hv [128, 129, 130, 131, 132, 133, 134, 135, 136, 137] [] (up (up (up (up (up (up G 1 (Ad E 1) 128 x2) 1 (Ad E 1) 129 x5) 1 (Ad E 1) 130 1) 1 (Ad E 1) 131 x10) 1 (Ad E 1) 132 1) 1 (Ad E 1) 135 0) Gh56) Gx225) 1 (Ad E 1) 131 → numberLow_x225 = (hv [128, 129, 130, 131, 132, 133, 134, 135, 136, 137] [] (hv [128, 129, 130, 131, 132, 133, 134, 135, 136, 137] [] (up (up (up (up (up (up G 1 (Ad E 1) 128 x2) 1 (Ad E 1) 129 x5) 1 (Ad E 1) 130 1) 1 (Ad E 1) 131 x10) 1 (Ad E 1) 132 1) 1 (Ad E 1) 135 0) Gh56) Gx225) 1 (Ad E 1) 132 → strikeTop_x225 = (hv [128, 129, 130, 131, 132, 133, 134, 135, 136, 137] [] (hv [128, 129, 130, 131, 132, 133, 134, 135, 136, 137] [] (up (up (up (up (up (up G 1 (Ad E 1) 128 x2) 1 (Ad E 1) 129 x5) 1 (Ad E 1) 130 1) 1 (Ad E 1) 131 x10) 1 (Ad E 1) 132 1) 1 (Ad E 1) 135 0) Gh56) Gx225) 1 (Ad E 1) 129 → strikeLow_x225 = (hv [128, 129, 130, 131, 132, 133, 134, 135, 136, 137] [] (hv [128, 129, 130, 131, 132, 133, 134, 135, 136, 137] [] (up (up (up (up (up (up G 1 (Ad E 1) 128 x2) 1 (Ad E 1) 129 x5) 1 (Ad E 1) 130 1) 1 (Ad E 1) 131 x10) 1 (Ad E 1) 132 1) 1 (Ad E 1) 135 0) Gh56) Gx225) 1 (Ad E 1) 130 → isFar_x225 = (hv [128, 129, 130, 131, 132, 133, 134, 135, 136, 137] [] (hv [128, 129, 130, 131, 132, 133, 134, 135, 136, 137] [] (up (up (up (up (up (up G 1 (Ad E 1) 128 x2) 1 (Ad E 1) 129 x5) 1 (Ad E 1) 130 1) 1 (Ad E 1) 131 x10) 1 (Ad E 1) 132 1) 1 (Ad E 1) 135 0) Gh56) Gx225) 1 (Ad E 1) 135 → on_x225 = (hv [128, 129, 130, 131, 132, 133, 134, 135, 136, 137] [] (hv [128, 129, 130, 131, 132, 133, 134, 135, 136, 137] [] (up (up (up (up (up (up G 1 (Ad E 1) 128 x2) 1 (Ad E 1) 129 x5) 1 (Ad E 1) 130 1) 1 (Ad E 1) 131 x10) 1 (Ad E 1) 132 1) 1 (Ad E 1) 135 0) Gh56) Gx225) 1 (Ad E 1) 128 → 0 ≤ l5_x225 → l5_x225 ≤ 16 → 1 ≤ numberTop_x225 → numberTop_x225 ≤ 1000000000000 → 1 ≤ numberLow_x225 → numberLow_x225 ≤ 1000000000000 → 1 ≤ strikeTop_x225 → strikeTop_x225 ≤ 1000000000000 → 1 ≤ strikeLow_x225 → strikeLow_x225 ≤ 1000000000000 → 0 ≤ isFar_x225 → isFar_x225 ≤ 1 → (-1) ≤ on_x225 → on_x225 ≤ 19 → X 0 0 225 [] [(0, (2, (Ad E 1))), (1, (0, o)), (2, (0, day)), (3, (0, l4_h83)), (4, (0, l4_h83)), (5, (0, l5_x225))] S (hv [128, 129, 130, 131, 132, 133, 134, 135, 136, 137] [] (hv [128, 129, 130, 131, 132, 133, 134, 135, 136, 137] [] (up (up (up (up (up (up G 1 (Ad E 1) 128 x2) 1 (Ad E 1) 129 x5) 1 (Ad E 1) 130 1) 1 (Ad E 1) 131 x10) 1 (Ad E 1) 132 1) 1 (Ad E 1) 135 0) Gh56) Gx225) := by
                      intro l5_x225 numberTop_x225 numberLow_x225 strikeTop_x225 strikeLow_x225 isFar_x225 on_x225 Gx225 numberTop_x225_e numberLow_x225_e strikeTop_x225_e strikeLow_x225_e isFar_x225_e on_x225_e yx225_0 yx225_1 yx225_2 yx225_3 yx225_4 yx225_5 yx225_6 yx225_7 yx225_8 yx225_9 yx225_10 yx225_11 yx225_12 yx225_13
                      refine r_ex hX hP 1 (pc' := 56) (st' := []) (lo' := [(0, (2, (Ad E 1))), (1, (0, o)), (2, (0, day)), (3, (0, l4_h83)), (4, (0, l4_h83)), (5, (0, l5_x225))]) rfl ?_
                      refine r_pick hX [0, 1, 2, 3] (lo' := [(0, (2, (Ad E 1))), (1, (0, o)), (2, (0, day)), (3, (0, l4_h83))]) rfl ?_
                      refine r_eqG (X := X) (hq_loop (hq_base _ _ _ _) rfl) ?_
                      exact ih56 l4_h83 numberTop_x225 numberLow_x225 strikeTop_x225 strikeLow_x225 isFar_x225 on_x225 _ numberTop_x225_e numberLow_x225_e strikeTop_x225_e strikeLow_x225_e isFar_x225_e on_x225_e (by first | decide | omega) (by first | decide | omega) (by first | decide | omega) (by first | decide | omega) (by first | decide | omega) (by first | decide | omega) (by first | decide | omega) (by first | decide | omega) (by first | decide | omega) (by first | decide | omega) (by first | decide | omega) (by first | decide | omega) (by first | decide | omega) (by first | decide | omega) (by first | decide | omega)
                    have loop147 : ∀ (nF : Nat) (l5_h147 numberTop_h147 numberLow_h147 strikeTop_h147 strikeLow_h147 isFar_h147 on_h147 : Int) (Gh147 : Gh), numberTop_h147 = (hv [128, 129, 130, 131, 132, 133, 134, 135, 136, 137] [] (hv [128, 129, 130, 131, 132, 133, 134, 135, 136, 137] [] (up (up (up (up (up (up G 1 (Ad E 1) 128 x2) 1 (Ad E 1) 129 x5) 1 (Ad E 1) 130 1) 1 (Ad E 1) 131 x10) 1 (Ad E 1) 132 1) 1 (Ad E 1) 135 0) Gh56) Gh147) 1 (Ad E 1) 131 → numberLow_h147 = (hv [128, 129, 130, 131, 132, 133, 134, 135, 136, 137] [] (hv [128, 129, 130, 131, 132, 133, 134, 135, 136, 137] [] (up (up (up (up (up (up G 1 (Ad E 1) 128 x2) 1 (Ad E 1) 129 x5) 1 (Ad E 1) 130 1) 1 (Ad E 1) 131 x10) 1 (Ad E 1) 132 1) 1 (Ad E 1) 135 0) Gh56) Gh147) 1 (Ad E 1) 132 → strikeTop_h147 = (hv [128, 129, 130, 131, 132, 133, 134, 135, 136, 137] [] (hv [128, 129, 130, 131, 132, 133, 134, 135, 136, 137] [] (up (up (up (up (up (up G 1 (Ad E 1) 128 x2) 1 (Ad E 1) 129 x5) 1 (Ad E 1) 130 1) 1 (Ad E 1) 131 x10) 1 (Ad E 1) 132 1) 1 (Ad E 1) 135 0) Gh56) Gh147) 1 (Ad E 1) 129 → strikeLow_h147 = (hv [128, 129, 130, 131, 132, 133, 134, 135, 136, 137] [] (hv [128, 129, 130, 131, 132, 133, 134, 135, 136, 137] [] (up (up (up (up (up (up G 1 (Ad E 1) 128 x2) 1 (Ad E 1) 129 x5) 1 (Ad E 1) 130 1) 1 (Ad E 1) 131 x10) 1 (Ad E 1) 132 1) 1 (Ad E 1) 135 0) Gh56) Gh147) 1 (Ad E 1) 130 → isFar_h147 = (hv [128, 129, 130, 131, 132, 133, 134, 135, 136, 137] [] (hv [128, 129, 130, 131, 132, 133, 134, 135, 136, 137] [] (up (up (up (up (up (up G 1 (Ad E 1) 128 x2) 1 (Ad E 1) 129 x5) 1 (Ad E 1) 130 1) 1 (Ad E 1) 131 x10) 1 (Ad E 1) 132 1) 1 (Ad E 1) 135 0) Gh56) Gh147) 1 (Ad E 1) 135 → on_h147 = (hv [128, 129, 130, 131, 132, 133, 134, 135, 136, 137] [] (hv [128, 129, 130, 131, 132, 133, 134, 135, 136, 137] [] (up (up (up (up (up (up G 1 (Ad E 1) 128 x2) 1 (Ad E 1) 129 x5) 1 (Ad E 1) 130 1) 1 (Ad E 1) 131 x10) 1 (Ad E 1) 132 1) 1 (Ad E 1) 135 0) Gh56) Gh147) 1 (Ad E 1) 128 → 0 ≤ l5_h147 → l5_h147 ≤ 16 → 1 ≤ numberTop_h147 → numberTop_h147 ≤ 1000000000000 → 1 ≤ numberLow_h147 → numberLow_h147 ≤ 1000000000000 → 1 ≤ strikeTop_h147 → strikeTop_h147 ≤ 1000000000000 → 1 ≤ strikeLow_h147 → strikeLow_h147 ≤ 1000000000000 → 0 ≤ isFar_h147 → isFar_h147 ≤ 1 → (-1) ≤ on_h147 → on_h147 ≤ 19 → 16 - l5_h147 < (nF : Int) → X 0 0 147 [] [(0, (2, (Ad E 1))), (1, (0, o)), (2, (0, day)), (3, (0, l4_h83)), (4, (0, l4_h83)), (5, (0, l5_h147))] S (hv [128, 129, 130, 131, 132, 133, 134, 135, 136, 137] [] (hv [128, 129, 130, 131, 132, 133, 134, 135, 136, 137] [] (up (up (up (up (up (up G 1 (Ad E 1) 128 x2) 1 (Ad E 1) 129 x5) 1 (Ad E 1) 130 1) 1 (Ad E 1) 131 x10) 1 (Ad E 1) 132 1) 1 (Ad E 1) 135 0) Gh56) Gh147) := by
                      intro nF
                      induction nF with
                      | zero => intro l5_h147 numberTop_h147 numberLow_h147 strikeTop_h147 strikeLow_h147 isFar_h147 on_h147 Gh147 numberTop_h147_e numberLow_h147_e strikeTop_h147_e strikeLow_h147_e isFar_h147_e on_h147_e yh147_0 yh147_1 yh147_2 yh147_3 yh147_4 yh147_5 yh147_6 yh147_7 yh147_8 yh147_9 yh147_10 yh147_11 yh147_12 yh147_13 ym147; exfalso; omega
                      | succ nF ih147 =>
                        intro l5_h147 numberTop_h147 numberLow_h147 strikeTop_h147 strikeLow_h147 isFar_h147 on_h147 Gh147 numberTop_h147_e numberLow_h147_e strikeTop_h147_e strikeLow_h147_e isFar_h147_e on_h147_e yh147_0 yh147_1 yh147_2 yh147_3 yh147_4 yh147_5 yh147_6 yh147_7 yh147_8 yh147_9 yh147_10 yh147_11 yh147_12 yh147_13 ym147
                        refine r_ex hX hP 2 (pc' := 150) (st' := [(2, (Ad E 1)), (0, l5_h147)]) (lo' := [(0, (2, (Ad E 1))), (1, (0, o)), (2, (0, day)), (3, (0, l4_h83)), (4, (0, l4_h83)), (5, (0, l5_h147))]) rfl ?_
                        refine r_getKI hX hP rfl fl_12_490 hS (x := ef22) ef22e ?_
                        refine r_ic_ge hX hP rfl (tgt := 225) rfl (by first | decide | omega) (by first | decide | omega) (by first | decide | omega) (by first | decide | omega) (fun c25 => ?_) (fun c25 => ?_)
                        · skip
                          refine r_eqG (X := X) (hq_loop (hq_refl [128, 129, 130, 131, 132, 133, 134, 135, 136, 137] [] _) rfl) ?_
                          exact x225 l5_h147 numberTop_h147 numberLow_h147 strikeTop_h147 strikeLow_h147 isFar_h147 on_h147 _ numberTop_h147_e numberLow_h147_e strikeTop_h147_e strikeLow_h147_e isFar_h147_e on_h147_e (by first | decide | omega) (by first | decide | omega) (by first | decide | omega) (by first | decide | omega) (by first | decide | omega) (by first | decide | omega) (by first | decide | omega) (by first | decide | omega) (by first | decide | omega) (by first | decide | omega) (by first | decide | omega) (by first | decide | omega) (by first | decide | omega) (by first | decide | omega)
                        · skip
                          refine r_ex hX hP 1 (pc' := 157) (st' := [(2, (Ad E 1))]) (lo' := [(0, (2, (Ad E 1))), (1, (0, o)), (2, (0, day)), (3, (0, l4_h83)), (4, (0, l4_h83)), (5, (0, l5_h147))]) rfl ?_
                          refine r_getKI hX hP rfl fl_12_655 hS (x := on_h147) on_h147_e ?_
                          refine r_if_lt hX hP rfl (tgt := 225) rfl (by first | decide | omega) (by first | decide | omega) (fun c26 => ?_) (fun c26 => ?_)
                          · skip
                            refine r_eqG (X := X) (hq_loop (hq_refl [128, 129, 130, 131, 132, 133, 134, 135, 136, 137] [] _) rfl) ?_
                            exact x225 l5_h147 numberTop_h147 numberLow_h147 strikeTop_h147 strikeLow_h147 isFar_h147 on_h147 _ numberTop_h147_e numberLow_h147_e strikeTop_h147_e strikeLow_h147_e isFar_h147_e on_h147_e (by first | decide | omega) (by first | decide | omega) (by first | decide | omega) (by first | decide | omega) (by first | decide | omega) (by first | decide | omega) (by first | decide | omega) (by first | decide | omega) (by first | decide | omega) (by first | decide | omega) (by first | decide | omega) (by first | decide | omega) (by first | decide | omega) (by first | decide | omega)
                          · skip
                            refine r_ex hX hP 1 (pc' := 164) (st' := [(2, (Ad E 1))]) (lo' := [(0, (2, (Ad E 1))), (1, (0, o)), (2, (0, day)), (3, (0, l4_h83)), (4, (0, l4_h83)), (5, (0, l5_h147))]) rfl ?_
                            refine r_getKI hX hP rfl fl_12_644 hS (x := isFar_h147) isFar_h147_e ?_
                            refine r_if_ne hX hP rfl (tgt := 225) rfl (by first | decide | omega) (by first | decide | omega) (fun c27 => ?_) (fun c27 => ?_)
                            · skip
                              refine r_eqG (X := X) (hq_loop (hq_refl [128, 129, 130, 131, 132, 133, 134, 135, 136, 137] [] _) rfl) ?_
                              exact x225 l5_h147 numberTop_h147 numberLow_h147 strikeTop_h147 strikeLow_h147 isFar_h147 on_h147 _ numberTop_h147_e numberLow_h147_e strikeTop_h147_e strikeLow_h147_e isFar_h147_e on_h147_e (by first | decide | omega) (by first | decide | omega) (by first | decide | omega) (by first | decide | omega) (by first | decide | omega) (by first | decide | omega) (by first | decide | omega) (by first | decide | omega) (by first | decide | omega) (by first | decide | omega) (by first | decide | omega) (by first | decide | omega) (by first | decide | omega) (by first | decide | omega)
                            · skip
                              refine r_ex hX hP 2 (pc' := 173) (st' := [(0, l5_h147), (2, (Ad E 1))]) (lo' := [(0, (2, (Ad E 1))), (1, (0, o)), (2, (0, day)), (3, (0, l4_h83)), (4, (0, l4_h83)), (5, (0, l5_h147))]) rfl ?_
                              refine r_callV gd hX hP rfl cv_12_512 hS (d' := 1) (mc' := 0) (ms' := 0) (as' := [(0, l5_h147)]) (st := []) (by first | decide | omega) (by first | decide | omega) (by first | decide | omega) rfl rfl (Nat.le_of_ble_eq_true rfl) (c_X12_eventCounts E S (hv [128, 129, 130, 131, 132, 133, 134, 135, 136, 137] [] (hv [128, 129, 130, 131, 132, 133, 134, 135, 136, 137] [] (up (up (up (up (up (up G 1 (Ad E 1) 128 x2) 1 (Ad E 1) 129 x5) 1 (Ad E 1) 130 1) 1 (Ad E 1) 131 x10) 1 (Ad E 1) 132 1) 1 (Ad E 1) 135 0) Gh56) Gh147) l5_h147 hS (by first | decide | omega) (by first | decide | omega)) ?_
                              rintro _ _ _ ⟨rfl, rfl, z28, rfl, z28a, z28b⟩
                              refine r_if_eq hX hP rfl (tgt := 219) rfl (by first | decide | omega) (by first | decide | omega) (fun c29 => ?_) (fun c29 => ?_)
                              · skip
                                refine r_ex hX hP 2 (pc' := 147) (st' := []) (lo' := [(0, (2, (Ad E 1))), (1, (0, o)), (2, (0, day)), (3, (0, l4_h83)), (4, (0, l4_h83)), (5, (0, (l5_h147 + 1)))]) rfl ?_
                                refine r_eqG (X := X) (hq_base _ _ _ _) ?_
                                exact ih147 (l5_h147 + 1) numberTop_h147 numberLow_h147 strikeTop_h147 strikeLow_h147 isFar_h147 on_h147 _ numberTop_h147_e numberLow_h147_e strikeTop_h147_e strikeLow_h147_e isFar_h147_e on_h147_e (by first | decide | omega) (by first | decide | omega) (by first | decide | omega) (by first | decide | omega) (by first | decide | omega) (by first | decide | omega) (by first | decide | omega) (by first | decide | omega) (by first | decide | omega) (by first | decide | omega) (by first | decide | omega) (by first | decide | omega) (by first | decide | omega) (by first | decide | omega) (by first | decide | omega)
                              · skip
                                refine r_ex hX hP 1 (pc' := 180) (st' := [(2, (Ad E 1))]) (lo' := [(0, (2, (Ad E 1))), (1, (0, o)), (2, (0, day)), (3, (0, l4_h83)), (4, (0, l4_h83)), (5, (0, l5_h147))]) rfl ?_
                                refine r_getC hX hP rfl fl_12_80 hS (fun s30 => ?_)
                                refine r_ex hX hP 1 (pc' := 185) (st' := [(0, l5_h147), (2, (Ad E 22))]) (lo' := [(0, (2, (Ad E 1))), (1, (0, o)), (2, (0, day)), (3, (0, l4_h83)), (4, (0, l4_h83)), (5, (0, l5_h147))]) rfl ?_
                                refine r_iald hX hP rfl al_22 s30 (by first | decide | omega) (by first | decide | omega) (fun x31 x31e x31a x31b => ?_)
                                refine r_ex hX hP 1 (pc' := 187) (st' := [(0, l4_h83), (0, x31)]) (lo' := [(0, (2, (Ad E 1))), (1, (0, o)), (2, (0, day)), (3, (0, l4_h83)), (4, (0, l4_h83)), (5, (0, l5_h147))]) rfl ?_
                                refine r_ic_ne hX hP rfl (tgt := 219) rfl (by first | decide | omega) (by first | decide | omega) (by first | decide | omega) (by first | decide | omega) (fun c32 => ?_) (fun c32 => ?_)
                                · skip
                                  refine r_ex hX hP 2 (pc' := 147) (st' := []) (lo' := [(0, (2, (Ad E 1))), (1, (0, o)), (2, (0, day)), (3, (0, l4_h83)), (4, (0, l4_h83)), (5, (0, (l5_h147 + 1)))]) rfl ?_
                                  refine r_eqG (X := X) (hq_base _ _ _ _) ?_
                                  exact ih147 (l5_h147 + 1) numberTop_h147 numberLow_h147 strikeTop_h147 strikeLow_h147 isFar_h147 on_h147 _ numberTop_h147_e numberLow_h147_e strikeTop_h147_e strikeLow_h147_e isFar_h147_e on_h147_e (by first | decide | omega) (by first | decide | omega) (by first | decide | omega) (by first | decide | omega) (by first | decide | omega) (by first | decide | omega) (by first | decide | omega) (by first | decide | omega) (by first | decide | omega) (by first | decide | omega) (by first | decide | omega) (by first | decide | omega) (by first | decide | omega) (by first | decide | omega) (by first | decide | omega)
                                · skip
                                  refine r_ex hX hP 1 (pc' := 191) (st' := [(2, (Ad E 1))]) (lo' := [(0, (2, (Ad E 1))), (1, (0, o)), (2, (0, day)), (3, (0, l4_h83)), (4, (0, l4_h83)), (5, (0, l5_h147))]) rfl ?_
                                  refine r_getC hX hP rfl fl_12_74 hS (fun s33 => ?_)
                                  refine r_ex hX hP 1 (pc' := 196) (st' := [(0, l5_h147), (2, (Ad E 20))]) (lo' := [(0, (2, (Ad E 1))), (1, (0, o)), (2, (0, day)), (3, (0, l4_h83)), (4, (0, l4_h83)), (5, (0, l5_h147))]) rfl ?_
                                  refine r_iald hX hP rfl al_20 s33 (by first | decide | omega) (by first | decide | omega) (fun x34 x34e x34a x34b => ?_)
                                  refine r_ex hX hP 1 (pc' := 198) (st' := [(2, (Ad E 1)), (0, x34)]) (lo' := [(0, (2, (Ad E 1))), (1, (0, o)), (2, (0, day)), (3, (0, l4_h83)), (4, (0, l4_h83)), (5, (0, l5_h147))]) rfl ?_
                                  refine r_getKI hX hP rfl fl_12_655 hS (x := on_h147) on_h147_e ?_
                                  refine r_ic_ne hX hP rfl (tgt := 219) rfl (by first | decide | omega) (by first | decide | omega) (by first | decide | omega) (by first | decide | omega) (fun c35 => ?_) (fun c35 => ?_)
                                  · skip
                                    refine r_ex hX hP 2 (pc' := 147) (st' := []) (lo' := [(0, (2, (Ad E 1))), (1, (0, o)), (2, (0, day)), (3, (0, l4_h83)), (4, (0, l4_h83)), (5, (0, (l5_h147 + 1)))]) rfl ?_
                                    refine r_eqG (X := X) (hq_base _ _ _ _) ?_
                                    exact ih147 (l5_h147 + 1) numberTop_h147 numberLow_h147 strikeTop_h147 strikeLow_h147 isFar_h147 on_h147 _ numberTop_h147_e numberLow_h147_e strikeTop_h147_e strikeLow_h147_e isFar_h147_e on_h147_e (by first | decide | omega) (by first | decide | omega) (by first | decide | omega) (by first | decide | omega) (by first | decide | omega) (by first | decide | omega) (by first | decide | omega) (by first | decide | omega) (by first | decide | omega) (by first | decide | omega) (by first | decide | omega) (by first | decide | omega) (by first | decide | omega) (by first | decide | omega) (by first | decide | omega)
                                  · skip
                                    refine r_ex hX hP 2 (pc' := 207) (st' := [(0, l5_h147), (2, (Ad E 1))]) (lo' := [(0, (2, (Ad E 1))), (1, (0, o)), (2, (0, day)), (3, (0, l4_h83)), (4, (0, l4_h83)), (5, (0, l5_h147))]) rfl ?_
                                    refine r_callV gd hX hP rfl cv_12_678 hS (d' := 0) (mc' := 0) (ms' := 0) (as' := [(0, l5_h147)]) (st := []) (by first | decide | omega) (by first | decide | omega) (by first | decide | omega) rfl rfl (Nat.le_of_ble_eq_true rfl) (c_X12_isPlain E S (hv [128, 129, 130, 131, 132, 133, 134, 135, 136, 137] [] (hv [128, 129, 130, 131, 132, 133, 134, 135, 136, 137] [] (up (up (up (up (up (up G 1 (Ad E 1) 128 x2) 1 (Ad E 1) 129 x5) 1 (Ad E 1) 130 1) 1 (Ad E 1) 131 x10) 1 (Ad E 1) 132 1) 1 (Ad E 1) 135 0) Gh56) Gh147) l5_h147 hS (by first | decide | omega) (by first | decide | omega)) ?_
                                    rintro _ _ _ ⟨rfl, rfl, z36, rfl, z36a, z36b⟩
                                    refine r_if_eq hX hP rfl (tgt := 219) rfl (by first | decide | omega) (by first | decide | omega) (fun c37 => ?_) (fun c37 => ?_)
                                    · skip
                                      refine r_ex hX hP 2 (pc' := 147) (st' := []) (lo' := [(0, (2, (Ad E 1))), (1, (0, o)), (2, (0, day)), (3, (0, l4_h83)), (4, (0, l4_h83)), (5, (0, (l5_h147 + 1)))]) rfl ?_
                                      refine r_eqG (X := X) (hq_base _ _ _ _) ?_
                                      exact ih147 (l5_h147 + 1) numberTop_h147 numberLow_h147 strikeTop_h147 strikeLow_h147 isFar_h147 on_h147 _ numberTop_h147_e numberLow_h147_e strikeTop_h147_e strikeLow_h147_e isFar_h147_e on_h147_e (by first | decide | omega) (by first | decide | omega) (by first | decide | omega) (by first | decide | omega) (by first | decide | omega) (by first | decide | omega) (by first | decide | omega) (by first | decide | omega) (by first | decide | omega) (by first | decide | omega) (by first | decide | omega) (by first | decide | omega) (by first | decide | omega) (by first | decide | omega) (by first | decide | omega)
                                    · skip
                                      refine r_ex hX hP 2 (pc' := 216) (st' := [(0, l5_h147), (2, (Ad E 1))]) (lo' := [(0, (2, (Ad E 1))), (1, (0, o)), (2, (0, day)), (3, (0, l4_h83)), (4, (0, l4_h83)), (5, (0, l5_h147))]) rfl ?_
                                      refine r_labC hX (tl1 38 rfl (by decide)) hS (fun s38 => ?_)
                                      refine r_apeekI hX al_26 s38 (i := l5_h147) (by first | decide | omega) (by first | decide | omega) (fun clk39 clk39e clk39a clk39b => ?_)
                                      have mi40 : MI E (hv [128, 129, 130, 131, 132, 133, 134, 135, 136, 137] [] (hv [128, 129, 130, 131, 132, 133, 134, 135, 136, 137] [] (up (up (up (up (up (up G 1 (Ad E 1) 128 x2) 1 (Ad E 1) 129 x5) 1 (Ad E 1) 130 1) 1 (Ad E 1) 131 x10) 1 (Ad E 1) 132 1) 1 (Ad E 1) 135 0) Gh56) Gh147) := mi_keep mi11 rfl rfl rfl rfl rfl rfl (fun _ => rfl) (fun _ => rfl) (fun _ => rfl) (fun _ => rfl) (fun _ => rfl) (fun _ => rfl) (fun _ => rfl) (fun _ => rfl) (fun _ => rfl) (fun _ => rfl) (fun _ => rfl) (fun _ => rfl) (fun _ => rfl)
                                      refine r_callV gd hX hP rfl cv_12_681 hS (d' := 5) (mc' := 0) (ms' := 0) (as' := [(0, l5_h147)]) (st := []) (by first | decide | omega) (by first | decide | omega) (by first | decide | omega) rfl rfl (Nat.le_of_ble_eq_true rfl) (c_X12_changes E S (hv [128, 129, 130, 131, 132, 133, 134, 135, 136, 137] [] (hv [128, 129, 130, 131, 132, 133, 134, 135, 136, 137] [] (up (up (up (up (up (up G 1 (Ad E 1) 128 x2) 1 (Ad E 1) 129 x5) 1 (Ad E 1) 130 1) 1 (Ad E 1) 131 x10) 1 (Ad E 1) 132 1) 1 (Ad E 1) 135 0) Gh56) Gh147) l5_h147 hS numberTop_h147 numberTop_h147_e numberLow_h147 numberLow_h147_e strikeTop_h147 strikeTop_h147_e strikeLow_h147 strikeLow_h147_e isFar_h147 isFar_h147_e on_h147 on_h147_e ef22 ef22e clk39 clk39e (by first | decide | omega) (by first | decide | omega) (by first | decide | omega) (by first | decide | omega) (by first | decide | omega) (by first | decide | omega) (by first | decide | omega) (by first | decide | omega) (by first | decide | omega) (by first | decide | omega) (by first | decide | omega) (by first | decide | omega) (by first | decide | omega) mi40) ?_
                                      rintro _ _ _ ⟨rfl, ⟨G41, rfl⟩, rfl, nuh42, nuh42e, nuh43, nuh43e, sth44, sth44e, sth45, sth45e, f46, f47, f48, f49⟩
                                      refine r_peekL hX (tl1 131 rfl (by decide)) hS (fun o50 o50e o50a o50b => ?_)
                                      obtain rfl : nuh42 = o50 := nuh42e.trans o50e.symm
                                      refine r_peekL hX (tl1 132 rfl (by decide)) hS (fun o51 o51e o51a o51b => ?_)
                                      obtain rfl : nuh43 = o51 := nuh43e.trans o51e.symm
                                      refine r_peekL hX (tl1 129 rfl (by decide)) hS (fun o52 o52e o52a o52b => ?_)
                                      obtain rfl : sth44 = o52 := sth44e.trans o52e.symm
                                      refine r_peekL hX (tl1 130 rfl (by decide)) hS (fun o53 o53e o53a o53b => ?_)
                                      obtain rfl : sth45 = o53 := sth45e.trans o53e.symm
                                      refine r_ex hX hP 2 (pc' := 147) (st' := []) (lo' := [(0, (2, (Ad E 1))), (1, (0, o)), (2, (0, day)), (3, (0, l4_h83)), (4, (0, l4_h83)), (5, (0, (l5_h147 + 1)))]) rfl ?_
                                      refine r_peekI hX (tl1 135 rfl (by decide)) hS (fun isp54 isp54e isp54a isp54b => ?_)
                                      refine r_peekI hX (tl1 128 rfl (by decide)) hS (fun onp55 onp55e onp55a onp55b => ?_)
                                      refine r_eqG (X := X) (hq_call (hq_base _ _ _ _) rfl) ?_
                                      exact ih147 (l5_h147 + 1) nuh42 nuh43 sth44 sth45 isp54 onp55 _ nuh42e nuh43e sth44e sth45e isp54e onp55e (by first | decide | omega) (by first | decide | omega) (by first | decide | omega) (by first | decide | omega) (by first | decide | omega) (by first | decide | omega) (by first | decide | omega) (by first | decide | omega) (by first | decide | omega) (by first | decide | omega) (by first | decide | omega) (by first | decide | omega) (by first | decide | omega) (by first | decide | omega) (by first | decide | omega)
                    refine r_eqG (X := X) (hq_refl [128, 129, 130, 131, 132, 133, 134, 135, 136, 137] [] _) ?_
                    exact loop147 ((16 - 0) + 1 : Int).toNat 0 numberTop_h56 numberLow_h56 strikeTop_h56 strikeLow_h56 isFar_h56 on_h56 _ numberTop_h56_e numberLow_h56_e strikeTop_h56_e strikeLow_h56_e isFar_h56_e on_h56_e (by first | decide | omega) (by first | decide | omega) (by first | decide | omega) (by first | decide | omega) (by first | decide | omega) (by first | decide | omega) (by first | decide | omega) (by first | decide | omega) (by first | decide | omega) (by first | decide | omega) (by first | decide | omega) (by first | decide | omega) (by first | decide | omega) (by first | decide | omega) (by first | decide | omega)
                  · skip
                    refine r_ex hX hP 1 (pc' := 228) (st' := []) (lo' := [(0, (2, (Ad E 1))), (1, (0, o)), (2, (0, day)), (3, (0, l3_h56)), (4, (0, l4_h83)), (5, (0, l5_h83))]) rfl ?_
                    refine r_pick hX [0, 1, 2, 3] (lo' := [(0, (2, (Ad E 1))), (1, (0, o)), (2, (0, day)), (3, (0, l3_h56))]) rfl ?_
                    refine r_eqG (X := X) (hq_loop (hq_refl [128, 129, 130, 131, 132, 133, 134, 135, 136, 137] [] _) rfl) ?_
                    exact x228 l3_h56 numberTop_h56 numberLow_h56 strikeTop_h56 strikeLow_h56 isFar_h56 on_h56 _ numberTop_h56_e numberLow_h56_e strikeTop_h56_e strikeLow_h56_e isFar_h56_e on_h56_e (by first | decide | omega) (by first | decide | omega) (by first | decide | omega) (by first | decide | omega) (by first | decide | omega) (by first | decide | omega) (by first | decide | omega) (by first | decide | omega) (by first | decide | omega) (by first | decide | omega) (by first | decide | omega) (by first | decide | omega) (by first | decide | omega) (by first | decide | omega)
                · skip
                  refine r_ex hX hP 2 (pc' := 95) (st' := [(0, l5_h83), (2, (Ad E 1))]) (lo' := [(0, (2, (Ad E 1))), (1, (0, o)), (2, (0, day)), (3, (0, l3_h56)), (4, (0, l4_h83)), (5, (0, l5_h83))]) rfl ?_
                  refine r_callV gd hX hP rfl cv_12_512 hS (d' := 1) (mc' := 0) (ms' := 0) (as' := [(0, l5_h83)]) (st := []) (by first | decide | omega) (by first | decide | omega) (by first | decide | omega) rfl rfl (Nat.le_of_ble_eq_true rfl) (c_X12_eventCounts E S (hv [128, 129, 130, 131, 132, 133, 134, 135, 136, 137] [] (up (up (up (up (up (up G 1 (Ad E 1) 128 x2) 1 (Ad E 1) 129 x5) 1 (Ad E 1) 130 1) 1 (Ad E 1) 131 x10) 1 (Ad E 1) 132 1) 1 (Ad E 1) 135 0) Gh56) l5_h83 hS (by first | decide | omega) (by first | decide | omega)) ?_
                  rintro _ _ _ ⟨rfl, rfl, z56, rfl, z56a, z56b⟩
                  refine r_if_eq hX hP rfl (tgt := 126) rfl (by first | decide | omega) (by first | decide | omega) (fun c57 => ?_) (fun c57 => ?_)
                  · skip
                    refine r_ex hX hP 2 (pc' := 83) (st' := []) (lo' := [(0, (2, (Ad E 1))), (1, (0, o)), (2, (0, day)), (3, (0, l3_h56)), (4, (0, l4_h83)), (5, (0, (l5_h83 + 1)))]) rfl ?_
                    exact ih83 l4_h83 (l5_h83 + 1) (by first | decide | omega) (by first | decide | omega) (by first | decide | omega) (by first | decide | omega) (by first | decide | omega) (by first | decide | omega)
                  · skip
                    refine r_ex hX hP 1 (pc' := 102) (st' := [(2, (Ad E 1))]) (lo' := [(0, (2, (Ad E 1))), (1, (0, o)), (2, (0, day)), (3, (0, l3_h56)), (4, (0, l4_h83)), (5, (0, l5_h83))]) rfl ?_
                    refine r_getC hX hP rfl fl_12_80 hS (fun s58 => ?_)
                    refine r_ex hX hP 1 (pc' := 107) (st' := [(0, l5_h83), (2, (Ad E 22))]) (lo' := [(0, (2, (Ad E 1))), (1, (0, o)), (2, (0, day)), (3, (0, l3_h56)), (4, (0, l4_h83)), (5, (0, l5_h83))]) rfl ?_
                    refine r_iald hX hP rfl al_22 s58 (by first | decide | omega) (by first | decide | omega) (fun x59 x59e x59a x59b => ?_)
                    refine r_ex hX hP 1 (pc' := 109) (st' := [(0, l3_h56), (0, x59)]) (lo' := [(0, (2, (Ad E 1))), (1, (0, o)), (2, (0, day)), (3, (0, l3_h56)), (4, (0, l4_h83)), (5, (0, l5_h83))]) rfl ?_
                    refine r_ic_le hX hP rfl (tgt := 126) rfl (by first | decide | omega) (by first | decide | omega) (by first | decide | omega) (by first | decide | omega) (fun c60 => ?_) (fun c60 => ?_)
                    · skip
                      refine r_ex hX hP 2 (pc' := 83) (st' := []) (lo' := [(0, (2, (Ad E 1))), (1, (0, o)), (2, (0, day)), (3, (0, l3_h56)), (4, (0, l4_h83)), (5, (0, (l5_h83 + 1)))]) rfl ?_
                      exact ih83 l4_h83 (l5_h83 + 1) (by first | decide | omega) (by first | decide | omega) (by first | decide | omega) (by first | decide | omega) (by first | decide | omega) (by first | decide | omega)
                    · skip
                      refine r_ex hX hP 2 (pc' := 115) (st' := [(2, (Ad E 1)), (0, l4_h83)]) (lo' := [(0, (2, (Ad E 1))), (1, (0, o)), (2, (0, day)), (3, (0, l3_h56)), (4, (0, l4_h83)), (5, (0, l5_h83))]) rfl ?_
                      refine r_getC hX hP rfl fl_12_80 hS (fun _ => ?_)
                      refine r_ex hX hP 1 (pc' := 120) (st' := [(0, l5_h83), (2, (Ad E 22)), (0, l4_h83)]) (lo' := [(0, (2, (Ad E 1))), (1, (0, o)), (2, (0, day)), (3, (0, l3_h56)), (4, (0, l4_h83)), (5, (0, l5_h83))]) rfl ?_
                      refine r_ialdK hX hP rfl al_22 s58 (by first | decide | omega) (by first | decide | omega) (x := x59) x59e ?_
                      refine r_mminI hX hP rfl (tbg sg10 52 rfl rfl) (tbg sg3 122 rfl rfl) (tbg sg1 14 rfl rfl) (tbg sg3 123 rfl rfl) (by decide) (by decide) (by decide) (Nat.le_of_ble_eq_true rfl) (by first | decide | omega) (by first | decide | omega) (by first | decide | omega) (by first | decide | omega) (fun c61 => ?_) (fun c61 => ?_)
                      · skip
                        refine r_ex hX hP 3 (pc' := 83) (st' := []) (lo' := [(0, (2, (Ad E 1))), (1, (0, o)), (2, (0, day)), (3, (0, l3_h56)), (4, (0, l4_h83)), (5, (0, (l5_h83 + 1)))]) rfl ?_
                        exact ih83 l4_h83 (l5_h83 + 1) (by first | decide | omega) (by first | decide | omega) (by first | decide | omega) (by first | decide | omega) (by first | decide | omega) (by first | decide | omega)
                      · skip
                        refine r_ex hX hP 3 (pc' := 83) (st' := []) (lo' := [(0, (2, (Ad E 1))), (1, (0, o)), (2, (0, day)), (3, (0, l3_h56)), (4, (0, x59)), (5, (0, (l5_h83 + 1)))]) rfl ?_
                        exact ih83 x59 (l5_h83 + 1) (by first | decide | omega) (by first | decide | omega) (by first | decide | omega) (by first | decide | omega) (by first | decide | omega) (by first | decide | omega)
            exact loop83 ((16 - 0) + 1 : Int).toNat 1000000000 0 (by first | decide | omega) (by first | decide | omega) (by first | decide | omega) (by first | decide | omega) (by first | decide | omega) (by first | decide | omega)
  refine r_eqG (X := X) (hq_refl [128, 129, 130, 131, 132, 133, 134, 135, 136, 137] [] _) ?_
  exact loop56 ((40001 - (x16 - 1)) + 1 : Int).toNat (x16 - 1) x10 1 x5 1 0 x2 _ h12 h13 h7 h8 h14 h3 (by first | decide | omega) (by first | decide | omega) (by first | decide | omega) (by first | decide | omega) (by first | decide | omega) (by first | decide | omega) (by first | decide | omega) (by first | decide | omega) (by first | decide | omega) (by first | decide | omega) (by first | decide | omega) (by first | decide | omega) (by first | decide | omega) (by first | decide | omega) (by first | decide | omega)
set_option maxRecDepth 100000 in
set_option maxHeartbeats 4000000 in
theorem c_X12_asksOption (E : En) (S : Sg) (G : Gh) (o day : Int) (hS : S (Ad E 1) = 1) (o_a : (-2147483648) ≤ o) (o_b : o ≤ 2147483647) (day_a : (-2147483648) ≤ day) (day_b : day ≤ 2147483647) (mi : MI E G) : Calls E mX12_asksOption [(2, (Ad E 1)), (0, o), (0, day)] S G 7 0 0 (fun r S' G' => S = S' ∧ (∃ G1, hv [128, 129, 130, 131, 132, 133, 134, 135, 136, 137] [] G G1 = G') ∧ ∃ z : Int, r = some (0, z) ∧ 0 ≤ z ∧ z ≤ 8) := by
  refine calls_by [(0, (2, (Ad E 1))), (1, (0, o)), (2, (0, day))] rfl rfl (Nat.le_of_ble_eq_true rfl) (fun X hX => ?_)
  have hP := hPX12_asksOption
  refine r_ex hX hP 3 (pc' := 3) (st' := [(2, (Ad E 1)), (0, 0), (0, o)]) (lo' := [(0, (2, (Ad E 1))), (1, (0, o)), (2, (0, day))]) rfl ?_
  refine r_getI hX hP rfl fl_12_628 hS (fun of1 of1e of1a of1b => ?_)
  refine r_ex hX hP 2 (pc' := 8) (st' := [(0, (of1 - 1)), (0, 0), (0, o)]) (lo' := [(0, (2, (Ad E 1))), (1, (0, o)), (2, (0, day))]) rfl ?_
  refine r_callS gd hX hP rfl cs_12_310 (d' := 0) (mc' := 0) (ms' := 0) (as' := [(0, o), (0, 0), (0, (of1 - 1))]) (st := []) (by first | decide | omega) (by first | decide | omega) (by first | decide | omega) rfl rfl (Nat.le_of_ble_eq_true rfl) (c_X12_isIn E S G o 0 (of1 - 1) (by first | decide | omega) (by first | decide | omega) (by first | decide | omega) (by first | decide | omega) (by first | decide | omega) (by first | decide | omega)) ?_
  rintro _ _ _ ⟨rfl, rfl, z2, rfl, (⟨rfl, f3, f4⟩ | ⟨rfl, f5⟩)⟩
  · skip
    refine r_if_ne hX hP rfl (tgt := 16) rfl (by first | decide | omega) (by first | decide | omega) (fun c6 => ?_) (fun c6 => ?_)
    · skip
      refine r_ex hX hP 1 (pc' := 17) (st' := [(0, day)]) (lo' := [(0, (2, (Ad E 1))), (1, (0, o)), (2, (0, day))]) rfl ?_
      refine r_callS gd hX hP rfl cs_12_317 (d' := 1) (mc' := 0) (ms' := 0) (as' := [(0, day)]) (st := []) (by first | decide | omega) (by first | decide | omega) (by first | decide | omega) rfl rfl (Nat.le_of_ble_eq_true rfl) (c_X12_isDay E S G day (by first | decide | omega) (by first | decide | omega)) ?_
      rintro _ _ _ ⟨rfl, rfl, z7, rfl, (⟨rfl, f8, f9⟩ | ⟨rfl, f10⟩)⟩
      · skip
        refine r_if_eq hX hP rfl (tgt := 33) rfl (by first | decide | omega) (by first | decide | omega) (fun c11 => ?_) (fun c11 => ?_)
        · skip
          exfalso; omega
        · skip
          refine r_ex hX hP 2 (pc' := 25) (st' := [(2, (Ad E 1)), (0, day)]) (lo' := [(0, (2, (Ad E 1))), (1, (0, o)), (2, (0, day))]) rfl ?_
          refine r_getC hX hP rfl fl_12_149 hS (fun s12 => ?_)
          refine r_ex hX hP 1 (pc' := 29) (st' := [(0, o), (2, (Ad E 45)), (0, day)]) (lo' := [(0, (2, (Ad E 1))), (1, (0, o)), (2, (0, day))]) rfl ?_
          refine r_iald hX hP rfl al_45 s12 (by first | decide | omega) (by first | decide | omega) (fun x13 x13e x13a x13b => ?_)
          refine r_ic_ge hX hP rfl (tgt := 35) rfl (by first | decide | omega) (by first | decide | omega) (by first | decide | omega) (by first | decide | omega) (fun c14 => ?_) (fun c14 => ?_)
          · skip
            refine r_ex hX hP 1 (pc' := 36) (st' := [(2, (Ad E 1))]) (lo' := [(0, (2, (Ad E 1))), (1, (0, o)), (2, (0, day))]) rfl ?_
            refine r_getC hX hP rfl fl_12_158 hS (fun s15 => ?_)
            refine r_ex hX hP 1 (pc' := 40) (st' := [(0, o), (2, (Ad E 48))]) (lo' := [(0, (2, (Ad E 1))), (1, (0, o)), (2, (0, day))]) rfl ?_
            refine r_iald hX hP rfl al_48 s15 (by first | decide | omega) (by first | decide | omega) (fun x16 x16e x16a x16b => ?_)
            refine r_ex hX hP 1 (pc' := 42) (st' := [(2, (Ad E 1)), (0, x16)]) (lo' := [(0, (2, (Ad E 1))), (1, (0, o)), (2, (0, day))]) rfl ?_
            refine r_getI hX hP rfl fl_12_10 hS (fun af17 af17e af17a af17b => ?_)
            refine r_ic_gt hX hP rfl (tgt := 57) rfl (by first | decide | omega) (by first | decide | omega) (by first | decide | omega) (by first | decide | omega) (fun c18 => ?_) (fun c18 => ?_)
            · skip
              refine r_ex hX hP 3 (pc' := 61) (st' := [(0, 7)]) (lo' := [(0, (2, (Ad E 1))), (1, (0, o)), (2, (0, day)), (3, (0, 7))]) rfl ?_
              exact r_retI hX hP rfl rfl (by first | decide | omega) (by first | decide | omega) ⟨rfl, ⟨_, (hq_refl _ _ _).symm⟩, 7, rfl, (by first | decide | omega)⟩
            · skip
              refine r_ex hX hP 3 (pc' := 51) (st' := [(0, day), (0, o), (2, (Ad E 1))]) (lo' := [(0, (2, (Ad E 1))), (1, (0, o)), (2, (0, day))]) rfl ?_
              refine r_callV gd hX hP rfl cv_12_684 hS (d' := 6) (mc' := 0) (ms' := 0) (as' := [(0, o), (0, day)]) (st := []) (by first | decide | omega) (by first | decide | omega) (by first | decide | omega) rfl rfl (Nat.le_of_ble_eq_true rfl) (c_X12_becomes E S G o day hS of1 of1e (by first | decide | omega) (by first | decide | omega) (by first | decide | omega) (by first | decide | omega) (by first | decide | omega) mi) ?_
              rintro _ _ _ ⟨rfl, ⟨G19, rfl⟩, z20, rfl, z20a, z20b⟩
              refine r_ex hX hP 3 (pc' := 61) (st' := [(0, z20)]) (lo' := [(0, (2, (Ad E 1))), (1, (0, o)), (2, (0, day)), (3, (0, z20))]) rfl ?_
              exact r_retI hX hP rfl rfl (by first | decide | omega) (by first | decide | omega) ⟨rfl, ⟨_, (hq_call (hq_refl _ _ _) rfl).symm⟩, z20, rfl, (by first | decide | omega)⟩
          · skip
            refine r_ex hX hP 1 (pc' := 34) (st' := [(0, 2)]) (lo' := [(0, (2, (Ad E 1))), (1, (0, o)), (2, (0, day))]) rfl ?_
            exact r_retI hX hP rfl rfl (by first | decide | omega) (by first | decide | omega) ⟨rfl, ⟨_, (hq_refl _ _ _).symm⟩, 2, rfl, (by first | decide | omega)⟩
      · skip
        refine r_if_eq hX hP rfl (tgt := 33) rfl (by first | decide | omega) (by first | decide | omega) (fun c21 => ?_) (fun c21 => ?_)
        · skip
          refine r_ex hX hP 1 (pc' := 34) (st' := [(0, 2)]) (lo' := [(0, (2, (Ad E 1))), (1, (0, o)), (2, (0, day))]) rfl ?_
          exact r_retI hX hP rfl rfl (by first | decide | omega) (by first | decide | omega) ⟨rfl, ⟨_, (hq_refl _ _ _).symm⟩, 2, rfl, (by first | decide | omega)⟩
        · skip
          exfalso; omega
    · skip
      exfalso; omega
  · skip
    refine r_if_ne hX hP rfl (tgt := 16) rfl (by first | decide | omega) (by first | decide | omega) (fun c22 => ?_) (fun c22 => ?_)
    · skip
      exfalso; omega
    · skip
      refine r_ex hX hP 1 (pc' := 15) (st' := [(0, 1)]) (lo' := [(0, (2, (Ad E 1))), (1, (0, o)), (2, (0, day))]) rfl ?_
      exact r_retI hX hP rfl rfl (by first | decide | omega) (by first | decide | omega) ⟨rfl, ⟨_, (hq_refl _ _ _).symm⟩, 1, rfl, (by first | decide | omega)⟩
set_option maxRecDepth 100000 in
set_option maxHeartbeats 4000000 in
theorem c_X12_optionOn (E : En) (S : Sg) (G : Gh) (o day : Int) (hS : S (Ad E 1) = 1) (o_a : (-2147483648) ≤ o) (o_b : o ≤ 2147483647) (day_a : (-2147483648) ≤ day) (day_b : day ≤ 2147483647) (mi : MI E G) : Calls E mX12_optionOn [(2, (Ad E 1)), (0, o), (0, day)] S G 8 0 0 (fun r S' G' => S = S' ∧ (∃ G1, hv [0, 1, 128, 129, 130, 131, 132, 133, 134, 135, 136, 137] [] G G1 = G') ∧ ∃ z : Int, r = some (0, z) ∧ (-2147483648) ≤ z ∧ z ≤ 2147483647) := by
  refine calls_by [(0, (2, (Ad E 1))), (1, (0, o)), (2, (0, day))] rfl rfl (Nat.le_of_ble_eq_true rfl) (fun X hX => ?_)
  have hP := hPX12_optionOn
  refine r_ex hX hP 2 (pc' := 2) (st' := [(0, 0), (2, (Ad E 1))]) (lo' := [(0, (2, (Ad E 1))), (1, (0, o)), (2, (0, day))]) rfl ?_
  refine r_putIK hX hP rfl fp_12_304 hS (by first | decide | omega) (by first | decide | omega) (fun h1 => ?_)
  refine r_ex hX hP 4 (pc' := 9) (st' := [(0, day), (0, o), (2, (Ad E 1)), (2, (Ad E 1))]) (lo' := [(0, (2, (Ad E 1))), (1, (0, o)), (2, (0, day))]) rfl ?_
  have mi2 : MI E (up G 1 (Ad E 1) 1 0) := mi_keep mi rfl rfl rfl rfl rfl rfl (fun _ => rfl) (fun _ => rfl) (fun _ => rfl) (fun _ => rfl) (fun _ => rfl) (fun _ => rfl) (fun _ => rfl) (fun _ => rfl) (fun _ => rfl) (fun _ => rfl) (fun _ => rfl) (fun _ => rfl) (fun _ => rfl)
  refine r_callV gd hX hP rfl cv_12_687 hS (d' := 7) (mc' := 0) (ms' := 0) (as' := [(0, o), (0, day)]) (st := [(2, (Ad E 1))]) (by first | decide | omega) (by first | decide | omega) (by first | decide | omega) rfl rfl (Nat.le_of_ble_eq_true rfl) (c_X12_asksOption E S (up G 1 (Ad E 1) 1 0) o day hS (by first | decide | omega) (by first | decide | omega) (by first | decide | omega) (by first | decide | omega) mi2) ?_
  rintro _ _ _ ⟨rfl, ⟨G3, rfl⟩, z4, rfl, z4a, z4b⟩
  refine r_putIK hX hP rfl fp_12_307 hS (by first | decide | omega) (by first | decide | omega) (fun h5 => ?_)
  refine r_ex hX hP 1 (pc' := 16) (st' := [(2, (Ad E 1))]) (lo' := [(0, (2, (Ad E 1))), (1, (0, o)), (2, (0, day))]) rfl ?_
  refine r_getKI hX hP rfl fl_12_307 hS (x := z4) h5 ?_
  refine r_if_le hX hP rfl (tgt := 26) rfl (by first | decide | omega) (by first | decide | omega) (fun c6 => ?_) (fun c6 => ?_)
  · skip
    refine r_ex hX hP 1 (pc' := 27) (st' := [(2, (Ad E 1))]) (lo' := [(0, (2, (Ad E 1))), (1, (0, o)), (2, (0, day))]) rfl ?_
    refine r_getI hX hP rfl fl_12_655 hS (fun of7 of7e of7a of7b => ?_)
    exact r_retI hX hP rfl rfl (by first | decide | omega) (by first | decide | omega) ⟨rfl, ⟨_, (hq_up (hq_call (hq_up (hq_refl _ _ _) rfl) rfl) rfl).symm⟩, of7, rfl, (by first | decide | omega)⟩
  · skip
    refine r_ex hX hP 2 (pc' := 30) (st' := [(0, (-1))]) (lo' := [(0, (2, (Ad E 1))), (1, (0, o)), (2, (0, day))]) rfl ?_
    exact r_retI hX hP rfl rfl (by first | decide | omega) (by first | decide | omega) ⟨rfl, ⟨_, (hq_up (hq_call (hq_up (hq_refl _ _ _) rfl) rfl) rfl).symm⟩, (-1), rfl, (by first | decide | omega)⟩
set_option maxRecDepth 100000 in
set_option maxHeartbeats 4000000 in
theorem c_X12_term (E : En) (S : Sg) (G : Gh) (o w day : Int) (hS : S (Ad E 1) = 1) (o_a : (-2147483648) ≤ o) (o_b : o ≤ 2147483647) (w_a : (-2147483648) ≤ w) (w_b : w ≤ 2147483647) (day_a : (-2147483648) ≤ day) (day_b : day ≤ 2147483647) (mi : MI E G) : Calls E mX12_term [(2, (Ad E 1)), (0, o), (0, w), (0, day)] S G 8 0 0 (fun r S' G' => S = S' ∧ (∃ G1, hv [0, 1, 4, 5, 128, 129, 130, 131, 132, 133, 134, 135, 136, 137] [] G G1 = G') ∧ ∃ z : Int, r = some (0, z) ∧ 0 ≤ z ∧ z ≤ 1) := by
  refine calls_by [(0, (2, (Ad E 1))), (1, (0, o)), (2, (0, w)), (3, (0, day))] rfl rfl (Nat.le_of_ble_eq_true rfl) (fun X hX => ?_)
  have hP := hPX12_term
  refine r_ex hX hP 2 (pc' := 2) (st' := [(0, 0), (2, (Ad E 1))]) (lo' := [(0, (2, (Ad E 1))), (1, (0, o)), (2, (0, w)), (3, (0, day))]) rfl ?_
  refine r_putIK hX hP rfl fp_12_304 hS (by first | decide | omega) (by first | decide | omega) (fun h1 => ?_)
  refine r_ex hX hP 4 (pc' := 9) (st' := [(2, (Ad E 1)), (0, 0), (0, o), (2, (Ad E 1))]) (lo' := [(0, (2, (Ad E 1))), (1, (0, o)), (2, (0, w)), (3, (0, day))]) rfl ?_
  refine r_getI hX hP rfl fl_12_628 hS (fun of2 of2e of2a of2b => ?_)
  refine r_ex hX hP 2 (pc' := 14) (st' := [(0, (of2 - 1)), (0, 0), (0, o), (2, (Ad E 1))]) (lo' := [(0, (2, (Ad E 1))), (1, (0, o)), (2, (0, w)), (3, (0, day))]) rfl ?_
  refine r_callS gd hX hP rfl cs_12_310 (d' := 0) (mc' := 0) (ms' := 0) (as' := [(0, o), (0, 0), (0, (of2 - 1))]) (st := [(2, (Ad E 1))]) (by first | decide | omega) (by first | decide | omega) (by first | decide | omega) rfl rfl (Nat.le_of_ble_eq_true rfl) (c_X12_isIn E S (up G 1 (Ad E 1) 1 0) o 0 (of2 - 1) (by first | decide | omega) (by first | decide | omega) (by first | decide | omega) (by first | decide | omega) (by first | decide | omega) (by first | decide | omega)) ?_
  rintro _ _ _ ⟨rfl, rfl, z3, rfl, (⟨rfl, f4, f5⟩ | ⟨rfl, f6⟩)⟩
  · skip
    refine r_if_eq hX hP rfl (tgt := 33) rfl (by first | decide | omega) (by first | decide | omega) (fun c7 => ?_) (fun c7 => ?_)
    · skip
      exfalso; omega
    · skip
      refine r_ex hX hP 3 (pc' := 23) (st' := [(0, 1), (0, 0), (0, w), (2, (Ad E 1))]) (lo' := [(0, (2, (Ad E 1))), (1, (0, o)), (2, (0, w)), (3, (0, day))]) rfl ?_
      refine r_callS gd hX hP rfl cs_12_310 (d' := 0) (mc' := 0) (ms' := 0) (as' := [(0, w), (0, 0), (0, 1)]) (st := [(2, (Ad E 1))]) (by first | decide | omega) (by first | decide | omega) (by first | decide | omega) rfl rfl (Nat.le_of_ble_eq_true rfl) (c_X12_isIn E S (up G 1 (Ad E 1) 1 0) w 0 1 (by first | decide | omega) (by first | decide | omega) (by first | decide | omega) (by first | decide | omega) (by first | decide | omega) (by first | decide | omega)) ?_
      rintro _ _ _ ⟨rfl, rfl, z8, rfl, (⟨rfl, f9, f10⟩ | ⟨rfl, f11⟩)⟩
      · skip
        refine r_if_ne hX hP rfl (tgt := 33) rfl (by first | decide | omega) (by first | decide | omega) (fun c12 => ?_) (fun c12 => ?_)
        · skip
          refine r_ex hX hP 3 (pc' := 36) (st' := [(0, day), (0, o), (2, (Ad E 1)), (2, (Ad E 1))]) (lo' := [(0, (2, (Ad E 1))), (1, (0, o)), (2, (0, w)), (3, (0, day))]) rfl ?_
          have mi13 : MI E (up G 1 (Ad E 1) 1 0) := mi_keep mi rfl rfl rfl rfl rfl rfl (fun _ => rfl) (fun _ => rfl) (fun _ => rfl) (fun _ => rfl) (fun _ => rfl) (fun _ => rfl) (fun _ => rfl) (fun _ => rfl) (fun _ => rfl) (fun _ => rfl) (fun _ => rfl) (fun _ => rfl) (fun _ => rfl)
          refine r_callV gd hX hP rfl cv_12_687 hS (d' := 7) (mc' := 0) (ms' := 0) (as' := [(0, o), (0, day)]) (st := [(2, (Ad E 1))]) (by first | decide | omega) (by first | decide | omega) (by first | decide | omega) rfl rfl (Nat.le_of_ble_eq_true rfl) (c_X12_asksOption E S (up G 1 (Ad E 1) 1 0) o day hS (by first | decide | omega) (by first | decide | omega) (by first | decide | omega) (by first | decide | omega) mi13) ?_
          rintro _ _ _ ⟨rfl, ⟨G14, rfl⟩, z15, rfl, z15a, z15b⟩
          refine r_putIK hX hP rfl fp_12_307 hS (by first | decide | omega) (by first | decide | omega) (fun h16 => ?_)
          refine r_ex hX hP 1 (pc' := 43) (st' := [(2, (Ad E 1))]) (lo' := [(0, (2, (Ad E 1))), (1, (0, o)), (2, (0, w)), (3, (0, day))]) rfl ?_
          refine r_getKI hX hP rfl fl_12_307 hS (x := z15) h16 ?_
          refine r_if_le hX hP rfl (tgt := 51) rfl (by first | decide | omega) (by first | decide | omega) (fun c17 => ?_) (fun c17 => ?_)
          · skip
            refine r_ex hX hP 2 (pc' := 53) (st' := [(0, w), (2, (Ad E 1))]) (lo' := [(0, (2, (Ad E 1))), (1, (0, o)), (2, (0, w)), (3, (0, day))]) rfl ?_
            refine r_if_ne hX hP rfl (tgt := 63) rfl (by first | decide | omega) (by first | decide | omega) (fun c18 => ?_) (fun c18 => ?_)
            · skip
              refine r_ex hX hP 1 (pc' := 64) (st' := [(2, (Ad E 1)), (2, (Ad E 1))]) (lo' := [(0, (2, (Ad E 1))), (1, (0, o)), (2, (0, w)), (3, (0, day))]) rfl ?_
              refine r_getL hX hP rfl fl_12_662 hS (fun nf19 nf19e nf19a nf19b => ?_)
              refine r_putLK hX hP rfl fp_12_690 hS (by first | decide | omega) (by first | decide | omega) (fun h20 => ?_)
              refine r_ex hX hP 2 (pc' := 72) (st' := [(0, w), (2, (Ad E 1))]) (lo' := [(0, (2, (Ad E 1))), (1, (0, o)), (2, (0, w)), (3, (0, day))]) rfl ?_
              refine r_if_ne hX hP rfl (tgt := 82) rfl (by first | decide | omega) (by first | decide | omega) (fun c21 => ?_) (fun c21 => ?_)
              · skip
                refine r_ex hX hP 1 (pc' := 83) (st' := [(2, (Ad E 1)), (2, (Ad E 1))]) (lo' := [(0, (2, (Ad E 1))), (1, (0, o)), (2, (0, w)), (3, (0, day))]) rfl ?_
                refine r_getL hX hP rfl fl_12_665 hS (fun nf22 nf22e nf22a nf22b => ?_)
                refine r_putLK hX hP rfl fp_12_14 hS (by first | decide | omega) (by first | decide | omega) (fun h23 => ?_)
                refine r_ex hX hP 1 (pc' := 90) (st' := [(0, 1)]) (lo' := [(0, (2, (Ad E 1))), (1, (0, o)), (2, (0, w)), (3, (0, day))]) rfl ?_
                exact r_retZ hX hP rfl rfl (by first | decide | omega) (by first | decide | omega) (by first | decide | omega) (by first | decide | omega) ⟨rfl, ⟨_, (hq_up (hq_up (hq_up (hq_call (hq_up (hq_refl _ _ _) rfl) rfl) rfl) rfl) rfl).symm⟩, 1, rfl, (by first | decide | omega)⟩
              · skip
                exfalso; omega
            · skip
              refine r_ex hX hP 1 (pc' := 57) (st' := [(2, (Ad E 1)), (2, (Ad E 1))]) (lo' := [(0, (2, (Ad E 1))), (1, (0, o)), (2, (0, w)), (3, (0, day))]) rfl ?_
              refine r_getL hX hP rfl fl_12_672 hS (fun sf24 sf24e sf24a sf24b => ?_)
              refine r_ex hX hP 1 (pc' := 67) (st' := [(1, sf24), (2, (Ad E 1))]) (lo' := [(0, (2, (Ad E 1))), (1, (0, o)), (2, (0, w)), (3, (0, day))]) rfl ?_
              refine r_putLK hX hP rfl fp_12_690 hS (by first | decide | omega) (by first | decide | omega) (fun h25 => ?_)
              refine r_ex hX hP 2 (pc' := 72) (st' := [(0, w), (2, (Ad E 1))]) (lo' := [(0, (2, (Ad E 1))), (1, (0, o)), (2, (0, w)), (3, (0, day))]) rfl ?_
              refine r_if_ne hX hP rfl (tgt := 82) rfl (by first | decide | omega) (by first | decide | omega) (fun c26 => ?_) (fun c26 => ?_)
              · skip
                exfalso; omega
              · skip
                refine r_ex hX hP 1 (pc' := 76) (st' := [(2, (Ad E 1)), (2, (Ad E 1))]) (lo' := [(0, (2, (Ad E 1))), (1, (0, o)), (2, (0, w)), (3, (0, day))]) rfl ?_
                refine r_getL hX hP rfl fl_12_675 hS (fun sf27 sf27e sf27a sf27b => ?_)
                refine r_ex hX hP 1 (pc' := 86) (st' := [(1, sf27), (2, (Ad E 1))]) (lo' := [(0, (2, (Ad E 1))), (1, (0, o)), (2, (0, w)), (3, (0, day))]) rfl ?_
                refine r_putLK hX hP rfl fp_12_14 hS (by first | decide | omega) (by first | decide | omega) (fun h28 => ?_)
                refine r_ex hX hP 1 (pc' := 90) (st' := [(0, 1)]) (lo' := [(0, (2, (Ad E 1))), (1, (0, o)), (2, (0, w)), (3, (0, day))]) rfl ?_
                exact r_retZ hX hP rfl rfl (by first | decide | omega) (by first | decide | omega) (by first | decide | omega) (by first | decide | omega) ⟨rfl, ⟨_, (hq_up (hq_up (hq_up (hq_call (hq_up (hq_refl _ _ _) rfl) rfl) rfl) rfl) rfl).symm⟩, 1, rfl, (by first | decide | omega)⟩
          · skip
            refine r_ex hX hP 1 (pc' := 50) (st' := [(0, 0)]) (lo' := [(0, (2, (Ad E 1))), (1, (0, o)), (2, (0, w)), (3, (0, day))]) rfl ?_
            exact r_retZ hX hP rfl rfl (by first | decide | omega) (by first | decide | omega) (by first | decide | omega) (by first | decide | omega) ⟨rfl, ⟨_, (hq_up (hq_call (hq_up (hq_refl _ _ _) rfl) rfl) rfl).symm⟩, 0, rfl, (by first | decide | omega)⟩
        · skip
          exfalso; omega
      · skip
        refine r_if_ne hX hP rfl (tgt := 33) rfl (by first | decide | omega) (by first | decide | omega) (fun c29 => ?_) (fun c29 => ?_)
        · skip
          exfalso; omega
        · skip
          refine r_ex hX hP 2 (pc' := 39) (st' := [(0, 2), (2, (Ad E 1))]) (lo' := [(0, (2, (Ad E 1))), (1, (0, o)), (2, (0, w)), (3, (0, day))]) rfl ?_
          refine r_putIK hX hP rfl fp_12_307 hS (by first | decide | omega) (by first | decide | omega) (fun h30 => ?_)
          refine r_ex hX hP 1 (pc' := 43) (st' := [(2, (Ad E 1))]) (lo' := [(0, (2, (Ad E 1))), (1, (0, o)), (2, (0, w)), (3, (0, day))]) rfl ?_
          refine r_getKI hX hP rfl fl_12_307 hS (x := 2) h30 ?_
          refine r_if_le hX hP rfl (tgt := 51) rfl (by first | decide | omega) (by first | decide | omega) (fun c31 => ?_) (fun c31 => ?_)
          · skip
            exfalso; omega
          · skip
            refine r_ex hX hP 1 (pc' := 50) (st' := [(0, 0)]) (lo' := [(0, (2, (Ad E 1))), (1, (0, o)), (2, (0, w)), (3, (0, day))]) rfl ?_
            exact r_retZ hX hP rfl rfl (by first | decide | omega) (by first | decide | omega) (by first | decide | omega) (by first | decide | omega) ⟨rfl, ⟨_, (hq_up (hq_up (hq_refl _ _ _) rfl) rfl).symm⟩, 0, rfl, (by first | decide | omega)⟩
  · skip
    refine r_if_eq hX hP rfl (tgt := 33) rfl (by first | decide | omega) (by first | decide | omega) (fun c32 => ?_) (fun c32 => ?_)
    · skip
      refine r_ex hX hP 3 (pc' := 36) (st' := [(0, day), (0, o), (2, (Ad E 1)), (2, (Ad E 1))]) (lo' := [(0, (2, (Ad E 1))), (1, (0, o)), (2, (0, w)), (3, (0, day))]) rfl ?_
      have mi33 : MI E (up G 1 (Ad E 1) 1 0) := mi_keep mi rfl rfl rfl rfl rfl rfl (fun _ => rfl) (fun _ => rfl) (fun _ => rfl) (fun _ => rfl) (fun _ => rfl) (fun _ => rfl) (fun _ => rfl) (fun _ => rfl) (fun _ => rfl) (fun _ => rfl) (fun _ => rfl) (fun _ => rfl) (fun _ => rfl)
      refine r_callV gd hX hP rfl cv_12_687 hS (d' := 7) (mc' := 0) (ms' := 0) (as' := [(0, o), (0, day)]) (st := [(2, (Ad E 1))]) (by first | decide | omega) (by first | decide | omega) (by first | decide | omega) rfl rfl (Nat.le_of_ble_eq_true rfl) (c_X12_asksOption E S (up G 1 (Ad E 1) 1 0) o day hS (by first | decide | omega) (by first | decide | omega) (by first | decide | omega) (by first | decide | omega) mi33) ?_
      rintro _ _ _ ⟨rfl, ⟨G34, rfl⟩, z35, rfl, z35a, z35b⟩
      refine r_putIK hX hP rfl fp_12_307 hS (by first | decide | omega) (by first | decide | omega) (fun h36 => ?_)
      refine r_ex hX hP 1 (pc' := 43) (st' := [(2, (Ad E 1))]) (lo' := [(0, (2, (Ad E 1))), (1, (0, o)), (2, (0, w)), (3, (0, day))]) rfl ?_
      refine r_getKI hX hP rfl fl_12_307 hS (x := z35) h36 ?_
      refine r_if_le hX hP rfl (tgt := 51) rfl (by first | decide | omega) (by first | decide | omega) (fun c37 => ?_) (fun c37 => ?_)
      · skip
        refine r_ex hX hP 2 (pc' := 53) (st' := [(0, w), (2, (Ad E 1))]) (lo' := [(0, (2, (Ad E 1))), (1, (0, o)), (2, (0, w)), (3, (0, day))]) rfl ?_
        refine r_if_ne hX hP rfl (tgt := 63) rfl (by first | decide | omega) (by first | decide | omega) (fun c38 => ?_) (fun c38 => ?_)
        · skip
          refine r_ex hX hP 1 (pc' := 64) (st' := [(2, (Ad E 1)), (2, (Ad E 1))]) (lo' := [(0, (2, (Ad E 1))), (1, (0, o)), (2, (0, w)), (3, (0, day))]) rfl ?_
          refine r_getL hX hP rfl fl_12_662 hS (fun nf39 nf39e nf39a nf39b => ?_)
          refine r_putLK hX hP rfl fp_12_690 hS (by first | decide | omega) (by first | decide | omega) (fun h40 => ?_)
          refine r_ex hX hP 2 (pc' := 72) (st' := [(0, w), (2, (Ad E 1))]) (lo' := [(0, (2, (Ad E 1))), (1, (0, o)), (2, (0, w)), (3, (0, day))]) rfl ?_
          refine r_if_ne hX hP rfl (tgt := 82) rfl (by first | decide | omega) (by first | decide | omega) (fun c41 => ?_) (fun c41 => ?_)
          · skip
            refine r_ex hX hP 1 (pc' := 83) (st' := [(2, (Ad E 1)), (2, (Ad E 1))]) (lo' := [(0, (2, (Ad E 1))), (1, (0, o)), (2, (0, w)), (3, (0, day))]) rfl ?_
            refine r_getL hX hP rfl fl_12_665 hS (fun nf42 nf42e nf42a nf42b => ?_)
            refine r_putLK hX hP rfl fp_12_14 hS (by first | decide | omega) (by first | decide | omega) (fun h43 => ?_)
            refine r_ex hX hP 1 (pc' := 90) (st' := [(0, 1)]) (lo' := [(0, (2, (Ad E 1))), (1, (0, o)), (2, (0, w)), (3, (0, day))]) rfl ?_
            exact r_retZ hX hP rfl rfl (by first | decide | omega) (by first | decide | omega) (by first | decide | omega) (by first | decide | omega) ⟨rfl, ⟨_, (hq_up (hq_up (hq_up (hq_call (hq_up (hq_refl _ _ _) rfl) rfl) rfl) rfl) rfl).symm⟩, 1, rfl, (by first | decide | omega)⟩
          · skip
            refine r_ex hX hP 1 (pc' := 76) (st' := [(2, (Ad E 1)), (2, (Ad E 1))]) (lo' := [(0, (2, (Ad E 1))), (1, (0, o)), (2, (0, w)), (3, (0, day))]) rfl ?_
            refine r_getL hX hP rfl fl_12_675 hS (fun sf44 sf44e sf44a sf44b => ?_)
            refine r_ex hX hP 1 (pc' := 86) (st' := [(1, sf44), (2, (Ad E 1))]) (lo' := [(0, (2, (Ad E 1))), (1, (0, o)), (2, (0, w)), (3, (0, day))]) rfl ?_
            refine r_putLK hX hP rfl fp_12_14 hS (by first | decide | omega) (by first | decide | omega) (fun h45 => ?_)
            refine r_ex hX hP 1 (pc' := 90) (st' := [(0, 1)]) (lo' := [(0, (2, (Ad E 1))), (1, (0, o)), (2, (0, w)), (3, (0, day))]) rfl ?_
            exact r_retZ hX hP rfl rfl (by first | decide | omega) (by first | decide | omega) (by first | decide | omega) (by first | decide | omega) ⟨rfl, ⟨_, (hq_up (hq_up (hq_up (hq_call (hq_up (hq_refl _ _ _) rfl) rfl) rfl) rfl) rfl).symm⟩, 1, rfl, (by first | decide | omega)⟩
        · skip
          refine r_ex hX hP 1 (pc' := 57) (st' := [(2, (Ad E 1)), (2, (Ad E 1))]) (lo' := [(0, (2, (Ad E 1))), (1, (0, o)), (2, (0, w)), (3, (0, day))]) rfl ?_
          refine r_getL hX hP rfl fl_12_672 hS (fun sf46 sf46e sf46a sf46b => ?_)
          refine r_ex hX hP 1 (pc' := 67) (st' := [(1, sf46), (2, (Ad E 1))]) (lo' := [(0, (2, (Ad E 1))), (1, (0, o)), (2, (0, w)), (3, (0, day))]) rfl ?_
          refine r_putLK hX hP rfl fp_12_690 hS (by first | decide | omega) (by first | decide | omega) (fun h47 => ?_)
          refine r_ex hX hP 2 (pc' := 72) (st' := [(0, w), (2, (Ad E 1))]) (lo' := [(0, (2, (Ad E 1))), (1, (0, o)), (2, (0, w)), (3, (0, day))]) rfl ?_
          refine r_if_ne hX hP rfl (tgt := 82) rfl (by first | decide | omega) (by first | decide | omega) (fun c48 => ?_) (fun c48 => ?_)
          · skip
            exfalso; omega
          · skip
            refine r_ex hX hP 1 (pc' := 76) (st' := [(2, (Ad E 1)), (2, (Ad E 1))]) (lo' := [(0, (2, (Ad E 1))), (1, (0, o)), (2, (0, w)), (3, (0, day))]) rfl ?_
            refine r_getL hX hP rfl fl_12_675 hS (fun sf49 sf49e sf49a sf49b => ?_)
            refine r_ex hX hP 1 (pc' := 86) (st' := [(1, sf49), (2, (Ad E 1))]) (lo' := [(0, (2, (Ad E 1))), (1, (0, o)), (2, (0, w)), (3, (0, day))]) rfl ?_
            refine r_putLK hX hP rfl fp_12_14 hS (by first | decide | omega) (by first | decide | omega) (fun h50 => ?_)
            refine r_ex hX hP 1 (pc' := 90) (st' := [(0, 1)]) (lo' := [(0, (2, (Ad E 1))), (1, (0, o)), (2, (0, w)), (3, (0, day))]) rfl ?_
            exact r_retZ hX hP rfl rfl (by first | decide | omega) (by first | decide | omega) (by first | decide | omega) (by first | decide | omega) ⟨rfl, ⟨_, (hq_up (hq_up (hq_up (hq_call (hq_up (hq_refl _ _ _) rfl) rfl) rfl) rfl) rfl).symm⟩, 1, rfl, (by first | decide | omega)⟩
      · skip
        refine r_ex hX hP 1 (pc' := 50) (st' := [(0, 0)]) (lo' := [(0, (2, (Ad E 1))), (1, (0, o)), (2, (0, w)), (3, (0, day))]) rfl ?_
        exact r_retZ hX hP rfl rfl (by first | decide | omega) (by first | decide | omega) (by first | decide | omega) (by first | decide | omega) ⟨rfl, ⟨_, (hq_up (hq_call (hq_up (hq_refl _ _ _) rfl) rfl) rfl).symm⟩, 0, rfl, (by first | decide | omega)⟩
    · skip
      exfalso; omega
