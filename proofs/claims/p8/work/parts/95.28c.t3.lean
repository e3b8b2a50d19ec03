set_option maxRecDepth 100000 in
set_option maxHeartbeats 4000000 in
theorem c_X6_closeR (E : En) (S : Sg) (G : Gh) (this : Int) (hS : S this = 131) (tx : Int) (tx_e : tx = G 131 this 9) (tx_s : S tx = 136) (dp : Int) (dp_e : dp = G 131 this 11) (pre0 : 1 ≤ dp) (TT : Tp) (nn : Int) (sr : Rg) (rd : RdC TT nn sr G this tx) : Calls E mX6_close [(2, this)] S G 5 0 0 (fun r S' G' => S = S' ∧ (∃ G1, hw [(106, -1), (131, 1), (131, 2), (131, 5), (131, 6), (131, 7), (131, 8), (131, 11)] G G1 = G') ∧ r = none ∧ RdC TT nn (pCe TT nn sr) G' this tx) := by
  refine calls_by [(0, (2, this))] rfl rfl (Nat.le_of_ble_eq_true rfl) (fun X hX => ?_)
  have hP := hPX6_close
  refine r_peekI hX (tl_131 11 rfl (by decide)) hS (fun dp_o dp_oe dp_oa dp_ob => ?_)
  obtain rfl : dp = dp_o := dp_e.trans dp_oe.symm
  have k1 := dp_e.trans (rq_dp rd)
  refine r_ex hX hP 2 (pc' := 2) (st' := [(2, this), (2, this)]) (lo' := [(0, (2, this))]) rfl ?_
  refine r_getKI hX hP rfl fl_X6_41_131 hS (x := dp) dp_e ?_
  refine r_ex hX hP 2 (pc' := 7) (st' := [(0, (dp - 1)), (2, this)]) (lo' := [(0, (2, this))]) rfl ?_
  refine r_putIK hX hP rfl fp_X6_41_131 hS (by first | decide | omega) (by first | decide | omega) (fun h2 => ?_)
  refine r_ex hX hP 1 (pc' := 11) (st' := [(2, this)]) (lo' := [(0, (2, this))]) rfl ?_
  refine r_getR hX hP rfl fl_X6_22_131 hS (fun of3 of3e of3s => ?_)
  refine r_ex hX hP 1 (pc' := 15) (st' := [(2, this), (2, of3)]) (lo' := [(0, (2, this))]) rfl ?_
  refine r_getKI hX hP rfl fl_X6_41_131 hS (x := (dp - 1)) h2 ?_
  refine r_iald hX hP rfl al_106 of3s (by first | decide | omega) (by first | decide | omega) (fun x4 x4e x4a x4b => ?_)
  have k5 := rd_opx rd of3e x4e (by first | decide | omega) (by first | decide | omega) (by first | decide | omega)
  refine r_ex hX hP 1 (pc' := 20) (st' := []) (lo' := [(0, (2, this)), (1, (0, x4))]) rfl ?_
  have k6 : n3 sr 10 (sr 8 - 1) = x4 := by have e : dp = sr 8 := (by first | decide | omega); rw [← e]; omega
  have rd7 : RdC TT nn (ud sr 8 (sr 8 - 1)) (up G 131 this 11 (dp - 1)) this tx := rd_mk (rq_tape rd : _) (rq_end rd : _) (rq_text rd : _) (rq_tok rd : _) (rq_start rd : _) (rq_at rd : _) (rq_val rd : _) (rq_flaw rd : _) (rq_place rd : _) (rq_told rd : _) (rq_cc rd : _) (rq_fb rd : _) (rq_ti rd : _) (rq_to rd : _) (h2.symm.trans (show dp - 1 = sr 8 - 1 from by omega)) (rq_size rd : _) (fun hk => (rq_o0 rd : _) (by have hk : 0 < sr 8 - 1 := hk; omega)) (fun hk => (rq_o1 rd : _) (by have hk : 1 < sr 8 - 1 := hk; omega)) (fun hk => (rq_o2 rd : _) (by have hk : 2 < sr 8 - 1 := hk; omega)) (rq_a0 rd : _) (rq_a1 rd : _) (rq_a2 rd : _) (rq_b0 rd : _) (rq_b1 rd : _) (rq_b2 rd : _) (rq_m0 rd : _) (rq_m1 rd : _) (rq_m2 rd : _) (rq_ne1 rd : _) (rq_ne2 rd : _) (rq_p0 rd : _) (rq_p1 rd : _) (rq_n4 rd : _)
  refine r_ex hX hP 1 (pc' := 21) (st' := [(2, this)]) (lo' := [(0, (2, this)), (1, (0, x4))]) rfl ?_
  refine r_callV gd hX hP rfl cv_X6_80_131 hS (d' := 1) (mc' := 0) (ms' := 0) (as' := []) (st := []) (by first | decide | omega) (by first | decide | omega) (by first | decide | omega) rfl rfl (Nat.le_of_ble_eq_true rfl) (c_X6_advanceR E S (up G 131 this 11 (dp - 1)) this  hS tx tx_e tx_s TT nn (ud sr 8 (sr 8 - 1)) rd7) ?_
  rintro _ _ _ ⟨rfl, ⟨G8, rfl⟩, rfl, f9⟩
  have k10 := (show pAv TT nn (ud sr 8 (sr 8 - 1)) 1 = (ud sr 8 (sr 8 - 1)) 1 from rfl)
  refine r_ex hX hP 2 (pc' := 26) (st' := [(0, (-1)), (0, x4)]) (lo' := [(0, (2, this)), (1, (0, x4))]) rfl ?_
  refine r_ic_eq hX hP rfl (tgt := 39) rfl (by first | decide | omega) (by first | decide | omega) (by first | decide | omega) (by first | decide | omega) (fun c11 => ?_) (fun c11 => ?_)
  · skip
    refine r_ex hX hP 3 (pc' := 42) (st' := [(0, 0)]) (lo' := [(0, (2, this)), (1, (0, x4)), (2, (0, 0))]) rfl ?_
    refine r_if_eq hX hP rfl (tgt := 65) rfl (by first | decide | omega) (by first | decide | omega) (fun c12 => ?_) (fun c12 => ?_)
    · skip
      have hC13 : pAv TT nn (ud sr 8 (sr 8 - 1)) = pCe TT nn sr := by
        unfold pCe; rw [k6]; unfold pEl; (repeat (first | rw [if_pos (by first | decide | omega)] | rw [if_neg (by first | decide | omega)])); try rfl
      have hC131 : (pCe TT nn sr) 1 = (pAv TT nn (ud sr 8 (sr 8 - 1))) 1 := congrFun hC13.symm 1
      exact r_retV hX hP rfl rfl (by first | decide | omega) (by first | decide | omega) ⟨rfl, ⟨_, (hw_sub (hw_up (hw_refl _ _) rfl) rfl).symm⟩, rfl, (rd_cast f9 hC13)⟩
    · skip
      exfalso; omega
  · skip
    refine r_ex hX hP 2 (pc' := 31) (st' := [(0, 2), (0, x4)]) (lo' := [(0, (2, this)), (1, (0, x4))]) rfl ?_
    refine r_irem hX hP rfl (by first | decide | omega) (by first | decide | omega) (by first | decide | omega) (by first | decide | omega) (by first | decide | omega) ?_
    obtain ⟨q14, q14e⟩ : ∃ q : Int, q = (Int.tmod x4 2) := ⟨_, rfl⟩
    rw [← q14e]
    have q14b := tm_pos q14e (by first | decide | omega) (by first | decide | omega)
    have q14f := tm_em q14e (by first | decide | omega)
    refine r_if_ne hX hP rfl (tgt := 39) rfl (by first | decide | omega) (by first | decide | omega) (fun c15 => ?_) (fun c15 => ?_)
    · skip
      refine r_ex hX hP 3 (pc' := 42) (st' := [(0, 0)]) (lo' := [(0, (2, this)), (1, (0, x4)), (2, (0, 0))]) rfl ?_
      refine r_if_eq hX hP rfl (tgt := 65) rfl (by first | decide | omega) (by first | decide | omega) (fun c16 => ?_) (fun c16 => ?_)
      · skip
        have hC17 : pAv TT nn (ud sr 8 (sr 8 - 1)) = pCe TT nn sr := by
          unfold pCe; rw [k6]; unfold pEl; (repeat (first | rw [if_pos (by first | decide | omega)] | rw [if_neg (by first | decide | omega)])); try rfl
        have hC171 : (pCe TT nn sr) 1 = (pAv TT nn (ud sr 8 (sr 8 - 1))) 1 := congrFun hC17.symm 1
        exact r_retV hX hP rfl rfl (by first | decide | omega) (by first | decide | omega) ⟨rfl, ⟨_, (hw_sub (hw_up (hw_refl _ _) rfl) rfl).symm⟩, rfl, (rd_cast f9 hC17)⟩
      · skip
        exfalso; omega
    · skip
      refine r_ex hX hP 4 (pc' := 42) (st' := [(0, 1)]) (lo' := [(0, (2, this)), (1, (0, x4)), (2, (0, 1))]) rfl ?_
      refine r_if_eq hX hP rfl (tgt := 65) rfl (by first | decide | omega) (by first | decide | omega) (fun c18 => ?_) (fun c18 => ?_)
      · skip
        exfalso; omega
      · skip
        refine r_ex hX hP 1 (pc' := 46) (st' := [(2, this)]) (lo' := [(0, (2, this)), (1, (0, x4)), (2, (0, 1))]) rfl ?_
        refine r_ldcS hX hP rfl (k := 0) (by decide) rfl rfl ?_
        refine r_peekI hX (tl_131 5 rfl (by decide)) hS (fun atp19 atp19e atp19a atp19b => ?_)
        have k20 := rq_at f9
        have k20 := atp19e.trans k20
        refine r_peekI hX (tl_131 7 rfl (by decide)) hS (fun stp21 stp21e stp21a stp21b => ?_)
        have k22 := rq_start f9
        have k22 := stp21e.trans k22
        refine r_callV gd hX hP rfl cv_X6_98_131 hS (d' := 4) (mc' := 0) (ms' := 0) (as' := [(2, (sK E 0))]) (st := []) (by first | decide | omega) (by first | decide | omega) (by first | decide | omega) rfl rfl (Nat.le_of_ble_eq_true rfl) (c_X6_isR E S (hw [(131, 5), (131, 6), (131, 7), (131, 8)] (up G 131 this 11 (dp - 1)) G8) this 0 hS (by decide) tx tx_e tx_s atp19 atp19e stp21 stp21e TT nn (pAv TT nn (ud sr 8 (sr 8 - 1))) f9) ?_
        rintro _ _ _ ⟨rfl, rfl, z23, rfl, z23a, z23b, f24, f25⟩
        refine r_if_eq hX hP rfl (tgt := 65) rfl (by first | decide | omega) (by first | decide | omega) (fun c26 => ?_) (fun c26 => ?_)
        · skip
          have hC27 : (pAv TT nn (ud sr 8 (sr 8 - 1))) = pCe TT nn sr := by
            unfold pCe; rw [k6]; unfold pEl; (repeat (first | rw [if_pos (by first | decide | omega)] | rw [if_neg (by first | decide | omega)])); try rfl
          have hC271 : (pCe TT nn sr) 1 = ((pAv TT nn (ud sr 8 (sr 8 - 1)))) 1 := congrFun hC27.symm 1
          exact r_retV hX hP rfl rfl (by first | decide | omega) (by first | decide | omega) ⟨rfl, ⟨_, (hw_sub (hw_up (hw_refl _ _) rfl) rfl).symm⟩, rfl, (rd_cast f25 hC27)⟩
        · skip
          refine r_ex hX hP 1 (pc' := 55) (st' := [(2, this)]) (lo' := [(0, (2, this)), (1, (0, x4)), (2, (0, 1))]) rfl ?_
          refine r_callV gd hX hP rfl cv_X6_80_131 hS (d' := 1) (mc' := 0) (ms' := 0) (as' := []) (st := []) (by first | decide | omega) (by first | decide | omega) (by first | decide | omega) rfl rfl (Nat.le_of_ble_eq_true rfl) (c_X6_advanceR E S (hw [(131, 5), (131, 6), (131, 7), (131, 8)] (up G 131 this 11 (dp - 1)) G8) this  hS tx tx_e tx_s TT nn (pAv TT nn (ud sr 8 (sr 8 - 1))) f25) ?_
          rintro _ _ _ ⟨rfl, ⟨G28, rfl⟩, rfl, f29⟩
          have k30 := (show pAv TT nn (pAv TT nn (ud sr 8 (sr 8 - 1))) 1 = (pAv TT nn (ud sr 8 (sr 8 - 1))) 1 from rfl)
          refine r_ex hX hP 4 (pc' := 62) (st' := [(0, (x4 + 1)), (2, this)]) (lo' := [(0, (2, this)), (1, (0, x4)), (2, (0, 1))]) rfl ?_
          refine r_callV gd hX hP rfl cv_X6_113_131 hS (d' := 3) (mc' := 0) (ms' := 0) (as' := [(0, (x4 + 1))]) (st := []) (by first | decide | omega) (by first | decide | omega) (by first | decide | omega) rfl rfl (Nat.le_of_ble_eq_true rfl) (c_X6_pushR E S (hw [(131, 5), (131, 6), (131, 7), (131, 8)] (hw [(131, 5), (131, 6), (131, 7), (131, 8)] (up G 131 this 11 (dp - 1)) G8) G28) this (x4 + 1) hS tx tx_e tx_s (by first | decide | omega) (by first | decide | omega) TT nn (pAv TT nn (pAv TT nn (ud sr 8 (sr 8 - 1)))) f29) ?_
          rintro _ _ _ ⟨rfl, ⟨G31, rfl⟩, rfl, f32⟩
          have hC33 : pPu TT nn (x4 + 1) (pAv TT nn (pAv TT nn (ud sr 8 (sr 8 - 1)))) = pCe TT nn sr := by
            unfold pCe; rw [k6]; unfold pEl; (repeat (first | rw [if_pos (by first | decide | omega)] | rw [if_neg (by first | decide | omega)])); try rfl
          have hC331 : (pCe TT nn sr) 1 = (pPu TT nn (x4 + 1) (pAv TT nn (pAv TT nn (ud sr 8 (sr 8 - 1))))) 1 := congrFun hC33.symm 1
          exact r_retV hX hP rfl rfl (by first | decide | omega) (by first | decide | omega) ⟨rfl, ⟨_, (hw_sub (hw_sub (hw_sub (hw_up (hw_refl _ _) rfl) rfl) rfl) rfl).symm⟩, rfl, (rd_cast f32 hC33)⟩
set_option maxRecDepth 100000 in
set_option maxHeartbeats 4000000 in
theorem c_X6_storeR (E : En) (S : Sg) (G : Gh) (this : Int) (what : Int) (m : Int) (q : Int) (n : Int) (hS : S this = 131) (tx : Int) (tx_e : tx = G 131 this 9) (tx_s : S tx = 136) (s0 : Int) (s0_e : s0 = G 136 tx 0) (f0 : Int) (f0_e : f0 = G 131 this 1) (what_a : (-2147483648) ≤ what) (what_b : what ≤ 2147483647) (m_a : (-2147483648) ≤ m) (m_b : m ≤ 2147483647) (q_a : (-2147483648) ≤ q) (q_b : q ≤ 2147483647) (n_a : (-2147483648) ≤ n) (n_b : n ≤ 2147483647) (pre0 : (f0 ≠ 0 ∨ (what ≠ 0 ∧ what ≠ 4) ∨ (0 ≤ q ∧ q ≤ 19))) (ci : CI E S G) (TT : Tp) (nn : Int) (sr : Rg) (rd : RdC TT nn sr G this tx) : Calls E mX6_store [(2, this), (0, what), (0, m), (0, q), (0, n)] S G 1 0 0 (fun r S' G' => S = S' ∧ (∃ G1, hw [(119, -1), (120, -1), (121, -1), (122, -1), (123, -1), (136, 0)] G G1 = G') ∧ r = none ∧ ∃ s1 : Int, s1 = G' 136 tx 0 ∧ s1 ≤ s0 + 1 ∧ CI E S G' ∧ RdC TT nn (pSt sr) G' this tx) := by
  refine calls_by [(0, (2, this)), (1, (0, what)), (2, (0, m)), (3, (0, q)), (4, (0, n))] rfl rfl (Nat.le_of_ble_eq_true rfl) (fun X hX => ?_)
  have hP := hPX6_store
  refine r_peekI hX (tl_136 0 rfl (by decide)) tx_s (fun s0_o s0_oe s0_oa s0_ob => ?_)
  obtain rfl : s0 = s0_o := s0_e.trans s0_oe.symm
  refine r_peekI hX (tl_131 1 rfl (by decide)) hS (fun f0_o f0_oe f0_oa f0_ob => ?_)
  obtain rfl : f0 = f0_o := f0_e.trans f0_oe.symm
  have k1 := s0_e.trans (rq_size rd)
  have k2 := f0_e.trans (rq_flaw rd)
  refine r_ex hX hP 1 (pc' := 1) (st' := [(2, this)]) (lo' := [(0, (2, this)), (1, (0, what)), (2, (0, m)), (3, (0, q)), (4, (0, n))]) rfl ?_
  refine r_getKN hX hP rfl fl_X6_54_131 hS (x := tx) tx_e ?_
  refine r_getKI hX hP rfl fl_X6_176_136 tx_s (x := s0) s0_e ?_
  refine r_ex hX hP 2 (pc' := 10) (st' := [(2, this)]) (lo' := [(0, (2, this)), (1, (0, what)), (2, (0, m)), (3, (0, q)), (4, (0, n)), (5, (0, s0))]) rfl ?_
  refine r_getKI hX hP rfl fl_X6_9_131 hS (x := f0) f0_e ?_
  refine r_if_ne hX hP rfl (tgt := 23) rfl (by first | decide | omega) (by first | decide | omega) (fun c3 => ?_) (fun c3 => ?_)
  · skip
    have hC4 : sr = pSt sr := by
      unfold pSt; (repeat (first | rw [if_pos (by first | decide | omega)] | rw [if_neg (by first | decide | omega)])); try (first | exact (ud_same _ _).symm | rfl)
    have hC41 : (pSt sr) 1 = (sr) 1 := congrFun hC4.symm 1
    exact r_retV hX hP rfl rfl (by first | decide | omega) (by first | decide | omega) ⟨rfl, ⟨_, (hw_refl _ _).symm⟩, rfl, s0, s0_e, (by first | decide | omega), ci, (rd_cast rd hC4)⟩
  · skip
    refine r_ex hX hP 2 (pc' := 20) (st' := [(0, 30), (0, s0)]) (lo' := [(0, (2, this)), (1, (0, what)), (2, (0, m)), (3, (0, q)), (4, (0, n)), (5, (0, s0))]) rfl ?_
    refine r_ic_lt hX hP rfl (tgt := 24) rfl (by first | decide | omega) (by first | decide | omega) (by first | decide | omega) (by first | decide | omega) (fun c5 => ?_) (fun c5 => ?_)
    · skip
      refine r_ex hX hP 1 (pc' := 25) (st' := [(2, this)]) (lo' := [(0, (2, this)), (1, (0, what)), (2, (0, m)), (3, (0, q)), (4, (0, n)), (5, (0, s0))]) rfl ?_
      refine r_getKN hX hP rfl fl_X6_54_131 hS (x := tx) tx_e ?_
      refine r_getR hX hP rfl fl_X6_179_136 tx_s (fun rf6 rf6e rf6s => ?_)
      refine r_ex hX hP 2 (pc' := 34) (st' := [(2, this), (0, s0), (2, rf6)]) (lo' := [(0, (2, this)), (1, (0, what)), (2, (0, m)), (3, (0, q)), (4, (0, n)), (5, (0, s0))]) rfl ?_
      refine r_callV gd hX hP rfl cv_X6_168_131 hS (d' := 0) (mc' := 0) (ms' := 0) (as' := []) (st := [(0, s0), (2, rf6)]) (by first | decide | omega) (by first | decide | omega) (by first | decide | omega) rfl rfl (Nat.le_of_ble_eq_true rfl) (c_X6_rowR E S G this  hS tx tx_e tx_s TT nn sr rd) ?_
      rintro _ _ _ ⟨rfl, rfl, z7, rfl, z7a, z7b, f8, f9⟩
      refine r_iastK hX hP rfl al_122 rf6s (by first | decide | omega) (by first | decide | omega) (by first | decide | omega) (by first | decide | omega) (fun h10 => ?_)
      refine r_ex hX hP 1 (pc' := 39) (st' := [(2, this)]) (lo' := [(0, (2, this)), (1, (0, what)), (2, (0, m)), (3, (0, q)), (4, (0, n)), (5, (0, s0))]) rfl ?_
      refine r_getKN hX hP rfl fl_X6_54_131 hS (x := tx) tx_e ?_
      refine r_getR hX hP rfl fl_X6_181_136 tx_s (fun if11 if11e if11s => ?_)
      refine r_ex hX hP 2 (pc' := 48) (st' := [(2, this), (0, s0), (2, if11)]) (lo' := [(0, (2, this)), (1, (0, what)), (2, (0, m)), (3, (0, q)), (4, (0, n)), (5, (0, s0))]) rfl ?_
      refine r_getI hX hP rfl fl_X6_41_131 hS (fun df12 df12e df12a df12b => ?_)
      have k13 := rq_dp f9
      have k13 := df12e.trans k13
      refine r_if_le hX hP rfl (tgt := 68) rfl (by first | decide | omega) (by first | decide | omega) (fun c14 => ?_) (fun c14 => ?_)
      · skip
        refine r_ex hX hP 1 (pc' := 69) (st' := [(0, (-1)), (0, s0), (2, if11)]) (lo' := [(0, (2, this)), (1, (0, what)), (2, (0, m)), (3, (0, q)), (4, (0, n)), (5, (0, s0))]) rfl ?_
        refine r_iastK hX hP rfl al_123 if11s (by first | decide | omega) (by first | decide | omega) (by first | decide | omega) (by first | decide | omega) (fun h15 => ?_)
        refine r_ex hX hP 1 (pc' := 71) (st' := [(2, this)]) (lo' := [(0, (2, this)), (1, (0, what)), (2, (0, m)), (3, (0, q)), (4, (0, n)), (5, (0, s0))]) rfl ?_
        refine r_getKN hX hP rfl fl_X6_54_131 hS (x := tx) tx_e ?_
        refine r_getR hX hP rfl fl_X6_184_136 tx_s (fun kf16 kf16e kf16s => ?_)
        refine r_ex hX hP 2 (pc' := 80) (st' := [(0, what), (0, s0), (2, kf16)]) (lo' := [(0, (2, this)), (1, (0, what)), (2, (0, m)), (3, (0, q)), (4, (0, n)), (5, (0, s0))]) rfl ?_
        refine r_iastK hX hP rfl al_120 kf16s (by first | decide | omega) (by first | decide | omega) (by first | decide | omega) (by first | decide | omega) (fun h17 => ?_)
        refine r_ex hX hP 1 (pc' := 82) (st' := [(2, this)]) (lo' := [(0, (2, this)), (1, (0, what)), (2, (0, m)), (3, (0, q)), (4, (0, n)), (5, (0, s0))]) rfl ?_
        refine r_getKN hX hP rfl fl_X6_54_131 hS (x := tx) tx_e ?_
        refine r_getR hX hP rfl fl_X6_187_136 tx_s (fun mf18 mf18e mf18s => ?_)
        refine r_ex hX hP 2 (pc' := 91) (st' := [(0, m), (0, s0), (2, mf18)]) (lo' := [(0, (2, this)), (1, (0, what)), (2, (0, m)), (3, (0, q)), (4, (0, n)), (5, (0, s0))]) rfl ?_
        refine r_iastK hX hP rfl al_119 mf18s (by first | decide | omega) (by first | decide | omega) (by first | decide | omega) (by first | decide | omega) (fun h19 => ?_)
        refine r_ex hX hP 1 (pc' := 93) (st' := [(2, this)]) (lo' := [(0, (2, this)), (1, (0, what)), (2, (0, m)), (3, (0, q)), (4, (0, n)), (5, (0, s0))]) rfl ?_
        refine r_getKN hX hP rfl fl_X6_54_131 hS (x := tx) tx_e ?_
        refine r_getR hX hP rfl fl_X6_190_136 tx_s (fun qf20 qf20e qf20s => ?_)
        refine r_ex hX hP 2 (pc' := 102) (st' := [(0, q), (0, s0), (2, qf20)]) (lo' := [(0, (2, this)), (1, (0, what)), (2, (0, m)), (3, (0, q)), (4, (0, n)), (5, (0, s0))]) rfl ?_
        refine r_iastK hX hP rfl al_121 qf20s (by first | decide | omega) (by first | decide | omega) (by first | decide | omega) (by first | decide | omega) (fun h21 => ?_)
        refine r_ex hX hP 1 (pc' := 104) (st' := [(2, this)]) (lo' := [(0, (2, this)), (1, (0, what)), (2, (0, m)), (3, (0, q)), (4, (0, n)), (5, (0, s0))]) rfl ?_
        refine r_getKN hX hP rfl fl_X6_54_131 hS (x := tx) tx_e ?_
        refine r_getR hX hP rfl fl_X6_193_136 tx_s (fun nf22 nf22e nf22s => ?_)
        refine r_ex hX hP 2 (pc' := 114) (st' := [(0, n), (0, s0), (2, nf22)]) (lo' := [(0, (2, this)), (1, (0, what)), (2, (0, m)), (3, (0, q)), (4, (0, n)), (5, (0, s0))]) rfl ?_
        refine r_iastK hX hP rfl al_119 nf22s (by first | decide | omega) (by first | decide | omega) (by first | decide | omega) (by first | decide | omega) (fun h23 => ?_)
        refine r_ex hX hP 1 (pc' := 116) (st' := [(2, this)]) (lo' := [(0, (2, this)), (1, (0, what)), (2, (0, m)), (3, (0, q)), (4, (0, n)), (5, (0, s0))]) rfl ?_
        refine r_getKN hX hP rfl fl_X6_54_131 hS (x := tx) tx_e ?_
        refine r_ex hX hP 1 (pc' := 120) (st' := [(2, tx), (2, tx)]) (lo' := [(0, (2, this)), (1, (0, what)), (2, (0, m)), (3, (0, q)), (4, (0, n)), (5, (0, s0))]) rfl ?_
        refine r_getKI hX hP rfl fl_X6_176_136 tx_s (x := s0) s0_e ?_
        refine r_ex hX hP 2 (pc' := 125) (st' := [(0, (s0 + 1)), (2, tx)]) (lo' := [(0, (2, this)), (1, (0, what)), (2, (0, m)), (3, (0, q)), (4, (0, n)), (5, (0, s0))]) rfl ?_
        refine r_putIK hX hP rfl fp_X6_176_136 tx_s (by first | decide | omega) (by first | decide | omega) (fun h24 => ?_)
        have rd25 : RdC TT nn (ud sr 9 (sr 9 + 1)) (up (up (up (up (up (up (up G 122 rf6 s0 z7) 123 if11 s0 (-1)) 120 kf16 s0 what) 119 mf18 s0 m) 121 qf20 s0 q) 119 nf22 s0 n) 136 tx 0 (s0 + 1)) this tx := rd_mk (rq_tape f9 : _) (rq_end f9 : _) (rq_text f9 : _) (rq_tok f9 : _) (rq_start f9 : _) (rq_at f9 : _) (rq_val f9 : _) (rq_flaw f9 : _) (rq_place f9 : _) (rq_told f9 : _) (rq_cc f9 : _) (rq_fb f9 : _) (rq_ti f9 : _) (rq_to f9 : _) (rq_dp f9 : _) (h24.symm.trans (show (s0 + 1) = sr 9 + 1 from by omega)) (rq_o0 f9 : _) (rq_o1 f9 : _) (rq_o2 f9 : _) (rq_a0 f9 : _) (rq_a1 f9 : _) (rq_a2 f9 : _) (rq_b0 f9 : _) (rq_b1 f9 : _) (rq_b2 f9 : _) (rq_m0 f9 : _) (rq_m1 f9 : _) (rq_m2 f9 : _) (rq_ne1 f9 : _) (rq_ne2 f9 : _) (rq_p0 f9 : _) (rq_p1 f9 : _) (rq_n4 f9 : _)
        have hC26 : ud sr 9 (sr 9 + 1) = pSt sr := by
          unfold pSt; (repeat (first | rw [if_pos (by first | decide | omega)] | rw [if_neg (by first | decide | omega)])); try (first | exact (ud_same _ _).symm | rfl)
        have hC261 : (pSt sr) 1 = (ud sr 9 (sr 9 + 1)) 1 := congrFun hC26.symm 1
        exact r_retV hX hP rfl rfl (by first | decide | omega) (by first | decide | omega) ⟨rfl, ⟨_, (hw_up (hw_up (hw_up (hw_up (hw_up (hw_up (hw_up (hw_refl _ _) rfl) rfl) rfl) rfl) rfl) rfl) rfl).symm⟩, rfl, (s0 + 1), h24, (by first | decide | omega), (ci_st (t := tx) (ka := kf16) (qa := qf20) (ix := s0) (w := what) (u := q) ci tx_s kf16e qf20e (by first | decide | omega) (fun _ _ => rfl) (fun _ _ => rfl) (fun _ => rfl) (fun _ => rfl) (fun _ => rfl) (fun _ => rfl) (fun _ => rfl) (fun _ => rfl) (fun _ => rfl) (fun _ => rfl) (fun _ => rfl) (fun _ => rfl) (fun _ => rfl) (fun _ => rfl) (fun _ => rfl) (fun _ => rfl) (fun _ => rfl) (fun _ _ => rfl) (fun _ _ => rfl) (fun _ _ => rfl) (fun _ _ => rfl) (fun _ _ => rfl) (fun _ _ => rfl) (fun _ _ => rfl) (fun _ _ => rfl) (fun _ _ => rfl) (fun _ _ => rfl) (fun _ _ => rfl) (fun _ _ => rfl) (fun _ _ => rfl) (fun _ _ => rfl) (fun _ _ => rfl) (fun _ _ => rfl) (fun _ _ => rfl) (fun _ _ => rfl) (fun _ _ => rfl) (fun _ _ => rfl) (fun _ _ => rfl) (fun _ _ => rfl) (fun _ _ => rfl) (fun _ _ => rfl) (fun _ _ => rfl) (fun _ _ => rfl)), (rd_cast rd25 hC26)⟩
      · skip
        refine r_ex hX hP 1 (pc' := 55) (st' := [(2, this), (0, s0), (2, if11)]) (lo' := [(0, (2, this)), (1, (0, what)), (2, (0, m)), (3, (0, q)), (4, (0, n)), (5, (0, s0))]) rfl ?_
        refine r_getR hX hP rfl fl_X6_22_131 hS (fun of27 of27e of27s => ?_)
        refine r_ex hX hP 1 (pc' := 59) (st' := [(2, this), (2, of27), (0, s0), (2, if11)]) (lo' := [(0, (2, this)), (1, (0, what)), (2, (0, m)), (3, (0, q)), (4, (0, n)), (5, (0, s0))]) rfl ?_
        refine r_getKI hX hP rfl fl_X6_41_131 hS (x := df12) df12e ?_
        refine r_ex hX hP 2 (pc' := 64) (st' := [(0, (df12 - 1)), (2, of27), (0, s0), (2, if11)]) (lo' := [(0, (2, this)), (1, (0, what)), (2, (0, m)), (3, (0, q)), (4, (0, n)), (5, (0, s0))]) rfl ?_
        refine r_iald hX hP rfl al_106 of27s (by first | decide | omega) (by first | decide | omega) (fun x28 x28e x28a x28b => ?_)
        have k29 := rd_opx f9 of27e x28e (by first | decide | omega) (by first | decide | omega) (by first | decide | omega)
        refine r_ex hX hP 1 (pc' := 69) (st' := [(0, x28), (0, s0), (2, if11)]) (lo' := [(0, (2, this)), (1, (0, what)), (2, (0, m)), (3, (0, q)), (4, (0, n)), (5, (0, s0))]) rfl ?_
        refine r_iastK hX hP rfl al_123 if11s (by first | decide | omega) (by first | decide | omega) (by first | decide | omega) (by first | decide | omega) (fun h30 => ?_)
        refine r_ex hX hP 1 (pc' := 71) (st' := [(2, this)]) (lo' := [(0, (2, this)), (1, (0, what)), (2, (0, m)), (3, (0, q)), (4, (0, n)), (5, (0, s0))]) rfl ?_
        refine r_getKN hX hP rfl fl_X6_54_131 hS (x := tx) tx_e ?_
        refine r_getR hX hP rfl fl_X6_184_136 tx_s (fun kf31 kf31e kf31s => ?_)
        refine r_ex hX hP 2 (pc' := 80) (st' := [(0, what), (0, s0), (2, kf31)]) (lo' := [(0, (2, this)), (1, (0, what)), (2, (0, m)), (3, (0, q)), (4, (0, n)), (5, (0, s0))]) rfl ?_
        refine r_iastK hX hP rfl al_120 kf31s (by first | decide | omega) (by first | decide | omega) (by first | decide | omega) (by first | decide | omega) (fun h32 => ?_)
        refine r_ex hX hP 1 (pc' := 82) (st' := [(2, this)]) (lo' := [(0, (2, this)), (1, (0, what)), (2, (0, m)), (3, (0, q)), (4, (0, n)), (5, (0, s0))]) rfl ?_
        refine r_getKN hX hP rfl fl_X6_54_131 hS (x := tx) tx_e ?_
        refine r_getR hX hP rfl fl_X6_187_136 tx_s (fun mf33 mf33e mf33s => ?_)
        refine r_ex hX hP 2 (pc' := 91) (st' := [(0, m), (0, s0), (2, mf33)]) (lo' := [(0, (2, this)), (1, (0, what)), (2, (0, m)), (3, (0, q)), (4, (0, n)), (5, (0, s0))]) rfl ?_
        refine r_iastK hX hP rfl al_119 mf33s (by first | decide | omega) (by first | decide | omega) (by first | decide | omega) (by first | decide | omega) (fun h34 => ?_)
        refine r_ex hX hP 1 (pc' := 93) (st' := [(2, this)]) (lo' := [(0, (2, this)), (1, (0, what)), (2, (0, m)), (3, (0, q)), (4, (0, n)), (5, (0, s0))]) rfl ?_
        refine r_getKN hX hP rfl fl_X6_54_131 hS (x := tx) tx_e ?_
        refine r_getR hX hP rfl fl_X6_190_136 tx_s (fun qf35 qf35e qf35s => ?_)
        refine r_ex hX hP 2 (pc' := 102) (st' := [(0, q), (0, s0), (2, qf35)]) (lo' := [(0, (2, this)), (1, (0, what)), (2, (0, m)), (3, (0, q)), (4, (0, n)), (5, (0, s0))]) rfl ?_
        refine r_iastK hX hP rfl al_121 qf35s (by first | decide | omega) (by first | decide | omega) (by first | decide | omega) (by first | decide | omega) (fun h36 => ?_)
        refine r_ex hX hP 1 (pc' := 104) (st' := [(2, this)]) (lo' := [(0, (2, this)), (1, (0, what)), (2, (0, m)), (3, (0, q)), (4, (0, n)), (5, (0, s0))]) rfl ?_
        refine r_getKN hX hP rfl fl_X6_54_131 hS (x := tx) tx_e ?_
        refine r_getR hX hP rfl fl_X6_193_136 tx_s (fun nf37 nf37e nf37s => ?_)
        refine r_ex hX hP 2 (pc' := 114) (st' := [(0, n), (0, s0), (2, nf37)]) (lo' := [(0, (2, this)), (1, (0, what)), (2, (0, m)), (3, (0, q)), (4, (0, n)), (5, (0, s0))]) rfl ?_
        refine r_iastK hX hP rfl al_119 nf37s (by first | decide | omega) (by first | decide | omega) (by first | decide | omega) (by first | decide | omega) (fun h38 => ?_)
        refine r_ex hX hP 1 (pc' := 116) (st' := [(2, this)]) (lo' := [(0, (2, this)), (1, (0, what)), (2, (0, m)), (3, (0, q)), (4, (0, n)), (5, (0, s0))]) rfl ?_
        refine r_getKN hX hP rfl fl_X6_54_131 hS (x := tx) tx_e ?_
        refine r_ex hX hP 1 (pc' := 120) (st' := [(2, tx), (2, tx)]) (lo' := [(0, (2, this)), (1, (0, what)), (2, (0, m)), (3, (0, q)), (4, (0, n)), (5, (0, s0))]) rfl ?_
        refine r_getKI hX hP rfl fl_X6_176_136 tx_s (x := s0) s0_e ?_
        refine r_ex hX hP 2 (pc' := 125) (st' := [(0, (s0 + 1)), (2, tx)]) (lo' := [(0, (2, this)), (1, (0, what)), (2, (0, m)), (3, (0, q)), (4, (0, n)), (5, (0, s0))]) rfl ?_
        refine r_putIK hX hP rfl fp_X6_176_136 tx_s (by first | decide | omega) (by first | decide | omega) (fun h39 => ?_)
        have rd40 : RdC TT nn (ud sr 9 (sr 9 + 1)) (up (up (up (up (up (up (up G 122 rf6 s0 z7) 123 if11 s0 x28) 120 kf31 s0 what) 119 mf33 s0 m) 121 qf35 s0 q) 119 nf37 s0 n) 136 tx 0 (s0 + 1)) this tx := rd_mk (rq_tape f9 : _) (rq_end f9 : _) (rq_text f9 : _) (rq_tok f9 : _) (rq_start f9 : _) (rq_at f9 : _) (rq_val f9 : _) (rq_flaw f9 : _) (rq_place f9 : _) (rq_told f9 : _) (rq_cc f9 : _) (rq_fb f9 : _) (rq_ti f9 : _) (rq_to f9 : _) (rq_dp f9 : _) (h39.symm.trans (show (s0 + 1) = sr 9 + 1 from by omega)) (rq_o0 f9 : _) (rq_o1 f9 : _) (rq_o2 f9 : _) (rq_a0 f9 : _) (rq_a1 f9 : _) (rq_a2 f9 : _) (rq_b0 f9 : _) (rq_b1 f9 : _) (rq_b2 f9 : _) (rq_m0 f9 : _) (rq_m1 f9 : _) (rq_m2 f9 : _) (rq_ne1 f9 : _) (rq_ne2 f9 : _) (rq_p0 f9 : _) (rq_p1 f9 : _) (rq_n4 f9 : _)
        have hC41 : ud sr 9 (sr 9 + 1) = pSt sr := by
          unfold pSt; (repeat (first | rw [if_pos (by first | decide | omega)] | rw [if_neg (by first | decide | omega)])); try (first | exact (ud_same _ _).symm | rfl)
        have hC411 : (pSt sr) 1 = (ud sr 9 (sr 9 + 1)) 1 := congrFun hC41.symm 1
        exact r_retV hX hP rfl rfl (by first | decide | omega) (by first | decide | omega) ⟨rfl, ⟨_, (hw_up (hw_up (hw_up (hw_up (hw_up (hw_up (hw_up (hw_refl _ _) rfl) rfl) rfl) rfl) rfl) rfl) rfl).symm⟩, rfl, (s0 + 1), h39, (by first | decide | omega), (ci_st (t := tx) (ka := kf31) (qa := qf35) (ix := s0) (w := what) (u := q) ci tx_s kf31e qf35e (by first | decide | omega) (fun _ _ => rfl) (fun _ _ => rfl) (fun _ => rfl) (fun _ => rfl) (fun _ => rfl) (fun _ => rfl) (fun _ => rfl) (fun _ => rfl) (fun _ => rfl) (fun _ => rfl) (fun _ => rfl) (fun _ => rfl) (fun _ => rfl) (fun _ => rfl) (fun _ => rfl) (fun _ => rfl) (fun _ => rfl) (fun _ _ => rfl) (fun _ _ => rfl) (fun _ _ => rfl) (fun _ _ => rfl) (fun _ _ => rfl) (fun _ _ => rfl) (fun _ _ => rfl) (fun _ _ => rfl) (fun _ _ => rfl) (fun _ _ => rfl) (fun _ _ => rfl) (fun _ _ => rfl) (fun _ _ => rfl) (fun _ _ => rfl) (fun _ _ => rfl) (fun _ _ => rfl) (fun _ _ => rfl) (fun _ _ => rfl) (fun _ _ => rfl) (fun _ _ => rfl) (fun _ _ => rfl) (fun _ _ => rfl) (fun _ _ => rfl) (fun _ _ => rfl) (fun _ _ => rfl) (fun _ _ => rfl)), (rd_cast rd40 hC41)⟩
    · skip
      have hC42 : sr = pSt sr := by
        unfold pSt; (repeat (first | rw [if_pos (by first | decide | omega)] | rw [if_neg (by first | decide | omega)])); try (first | exact (ud_same _ _).symm | rfl)
      have hC421 : (pSt sr) 1 = (sr) 1 := congrFun hC42.symm 1
      exact r_retV hX hP rfl rfl (by first | decide | omega) (by first | decide | omega) ⟨rfl, ⟨_, (hw_refl _ _).symm⟩, rfl, s0, s0_e, (by first | decide | omega), ci, (rd_cast rd hC42)⟩
set_option maxRecDepth 100000 in
set_option maxHeartbeats 4000000 in
theorem c_X6_moveWorthR (E : En) (S : Sg) (G : Gh) (this : Int) (hS : S this = 131) (tx : Int) (tx_e : tx = G 131 this 9) (tx_s : S tx = 136) (s0 : Int) (s0_e : s0 = G 136 tx 0) (td : Int) (td_e : td = G 131 this 10) (pre0 : s0 + 1 ≤ td) (ci : CI E S G) (TT : Tp) (nn : Int) (sr : Rg) (rd : RdC TT nn sr G this tx) : Calls E mX6_moveWorth [(2, this)] S G 6 0 0 (fun r S' G' => S = S' ∧ (∃ G1, hw [(119, -1), (120, -1), (121, -1), (122, -1), (123, -1), (131, 1), (131, 2), (131, 5), (131, 6), (131, 7), (131, 8), (136, 0)] G G1 = G') ∧ r = none ∧ ∃ s1 : Int, s1 = G' 136 tx 0 ∧ s1 ≤ s0 + 1 ∧ CI E S G' ∧ RdC TT nn (pWo TT nn sr) G' this tx) := by
  refine calls_by [(0, (2, this))] rfl rfl (Nat.le_of_ble_eq_true rfl) (fun X hX => ?_)
  have hP := hPX6_moveWorth
  refine r_peekI hX (tl_136 0 rfl (by decide)) tx_s (fun s0_o s0_oe s0_oa s0_ob => ?_)
  obtain rfl : s0 = s0_o := s0_e.trans s0_oe.symm
  refine r_peekI hX (tl_131 10 rfl (by decide)) hS (fun td_o td_oe td_oa td_ob => ?_)
  obtain rfl : td = td_o := td_e.trans td_oe.symm
  have k1 := s0_e.trans (rq_size rd)
  have k2 := td_e.trans (rq_told rd)
  refine r_ex hX hP 3 (pc' := 5) (st' := [(0, 1000), (0, 0), (2, this)]) (lo' := [(0, (2, this))]) rfl ?_
  refine r_peekI hX (tl_131 1 rfl (by decide)) hS (fun flp3 flp3e flp3a flp3b => ?_)
  have k4 := rq_flaw rd
  have k4 := flp3e.trans k4
  refine r_callV gd hX hP rfl cv_X6_196_131 hS (d' := 2) (mc' := 0) (ms' := 0) (as' := [(0, 0), (0, 1000)]) (st := []) (by first | decide | omega) (by first | decide | omega) (by first | decide | omega) rfl rfl (Nat.le_of_ble_eq_true rfl) (c_X6_numberR E S G this 0 1000 hS tx tx_e tx_s flp3 flp3e (by first | decide | omega) (by first | decide | omega) (by first | decide | omega) (by first | decide | omega) TT nn sr rd) ?_
  rintro _ _ _ ⟨rfl, ⟨G5, rfl⟩, z6, rfl, flh7, flh7e, z6a, z6b, f8, f9⟩
  have k10 := rq_flaw f9
  have k10 := flh7e.trans k10
  refine r_peekI hX (tl_131 1 rfl (by decide)) hS (fun o11 o11e o11a o11b => ?_)
  obtain rfl : flh7 = o11 := flh7e.trans o11e.symm
  refine r_ex hX hP 2 (pc' := 10) (st' := [(2, this)]) (lo' := [(0, (2, this)), (1, (0, z6))]) rfl ?_
  refine r_ldcS hX hP rfl (k := 11) (by decide) rfl rfl ?_
  refine r_callV gd hX hP rfl cv_X6_202_131 hS (d' := 5) (mc' := 0) (ms' := 0) (as' := [(2, (sK E 11))]) (st := []) (by first | decide | omega) (by first | decide | omega) (by first | decide | omega) rfl rfl (Nat.le_of_ble_eq_true rfl) (c_X6_keywordR E S (hw [(131, 1), (131, 2), (131, 5), (131, 6), (131, 7), (131, 8)] G G5) this 11 hS (by decide) tx tx_e tx_s flh7 flh7e TT nn (pNb TT nn 0 1000 sr) f9) ?_
  rintro _ _ _ ⟨rfl, ⟨G12, rfl⟩, rfl, flh13, flh13e, f14, f15⟩
  have k16 := rq_flaw f15
  have k16 := flh13e.trans k16
  refine r_peekI hX (tl_131 1 rfl (by decide)) hS (fun o17 o17e o17a o17b => ?_)
  obtain rfl : flh13 = o17 := flh13e.trans o17e.symm
  refine r_ex hX hP 3 (pc' := 19) (st' := [(0, 19), (0, 0), (2, this)]) (lo' := [(0, (2, this)), (1, (0, z6))]) rfl ?_
  refine r_callV gd hX hP rfl cv_X6_196_131 hS (d' := 2) (mc' := 0) (ms' := 0) (as' := [(0, 0), (0, 19)]) (st := []) (by first | decide | omega) (by first | decide | omega) (by first | decide | omega) rfl rfl (Nat.le_of_ble_eq_true rfl) (c_X6_numberR E S (hw [(131, 1), (131, 2), (131, 5), (131, 6), (131, 7), (131, 8)] (hw [(131, 1), (131, 2), (131, 5), (131, 6), (131, 7), (131, 8)] G G5) G12) this 0 19 hS tx tx_e tx_s flh13 flh13e (by first | decide | omega) (by first | decide | omega) (by first | decide | omega) (by first | decide | omega) TT nn (pKd TT nn 11 (pNb TT nn 0 1000 sr)) f15) ?_
  rintro _ _ _ ⟨rfl, ⟨G18, rfl⟩, z19, rfl, flh20, flh20e, z19a, z19b, f21, f22⟩
  have k23 := rq_flaw f22
  have k23 := flh20e.trans k23
  refine r_peekI hX (tl_131 1 rfl (by decide)) hS (fun o24 o24e o24a o24b => ?_)
  obtain rfl : flh20 = o24 := flh20e.trans o24e.symm
  refine r_ex hX hP 3 (pc' := 26) (st' := [(0, 59), (2, this)]) (lo' := [(0, (2, this)), (1, (0, z6)), (2, (0, z19))]) rfl ?_
  refine r_callV gd hX hP rfl cv_X6_116_131 hS (d' := 2) (mc' := 0) (ms' := 0) (as' := [(0, 59)]) (st := []) (by first | decide | omega) (by first | decide | omega) (by first | decide | omega) rfl rfl (Nat.le_of_ble_eq_true rfl) (c_X6_signR E S (hw [(131, 1), (131, 2), (131, 5), (131, 6), (131, 7), (131, 8)] (hw [(131, 1), (131, 2), (131, 5), (131, 6), (131, 7), (131, 8)] (hw [(131, 1), (131, 2), (131, 5), (131, 6), (131, 7), (131, 8)] G G5) G12) G18) this 59 hS tx tx_e tx_s flh20 flh20e (by first | decide | omega) (by first | decide | omega) TT nn (pNb TT nn 0 19 (pKd TT nn 11 (pNb TT nn 0 1000 sr))) f22) ?_
  rintro _ _ _ ⟨rfl, ⟨G25, rfl⟩, z26, rfl, flh27, flh27e, z26a, z26b, f28, f29, f30⟩
  have k31 := pSg_1 TT nn 59 (pNb TT nn 0 19 (pKd TT nn 11 (pNb TT nn 0 1000 sr)))
  have k32 := rq_flaw f30
  have k32 := flh27e.trans k32
  refine r_peekI hX (tl_131 1 rfl (by decide)) hS (fun o33 o33e o33a o33b => ?_)
  obtain rfl : flh27 = o33 := flh27e.trans o33e.symm
  refine r_ex hX hP 6 (pc' := 35) (st' := [(0, 0), (0, z19), (0, z6), (0, 4), (2, this)]) (lo' := [(0, (2, this)), (1, (0, z6)), (2, (0, z19))]) rfl ?_
  have ci34 : CI E S (hw [(131, 1), (131, 2), (131, 5), (131, 6), (131, 7), (131, 8)] (hw [(131, 1), (131, 2), (131, 5), (131, 6), (131, 7), (131, 8)] (hw [(131, 1), (131, 2), (131, 5), (131, 6), (131, 7), (131, 8)] (hw [(131, 1), (131, 2), (131, 5), (131, 6), (131, 7), (131, 8)] G G5) G12) G18) G25) := (ci_hw (ci_hw (ci_hw (ci_hw ci rfl) rfl) rfl) rfl)
  refine r_callV gd hX hP rfl cv_X6_206_131 hS (d' := 1) (mc' := 0) (ms' := 0) (as' := [(0, 4), (0, z6), (0, z19), (0, 0)]) (st := []) (by first | decide | omega) (by first | decide | omega) (by first | decide | omega) rfl rfl (Nat.le_of_ble_eq_true rfl) (c_X6_storeR E S (hw [(131, 1), (131, 2), (131, 5), (131, 6), (131, 7), (131, 8)] (hw [(131, 1), (131, 2), (131, 5), (131, 6), (131, 7), (131, 8)] (hw [(131, 1), (131, 2), (131, 5), (131, 6), (131, 7), (131, 8)] (hw [(131, 1), (131, 2), (131, 5), (131, 6), (131, 7), (131, 8)] G G5) G12) G18) G25) this 4 z6 z19 0 hS tx tx_e tx_s s0 s0_e flh27 flh27e (by first | decide | omega) (by first | decide | omega) (by first | decide | omega) (by first | decide | omega) (by first | decide | omega) (by first | decide | omega) (by first | decide | omega) (by first | decide | omega) (by first | decide | omega) ci34 TT nn (pSg TT nn 59 (pNb TT nn 0 19 (pKd TT nn 11 (pNb TT nn 0 1000 sr)))) f30) ?_
  rintro _ _ _ ⟨rfl, ⟨G35, rfl⟩, rfl, sih36, sih36e, f37, ci38, f39⟩
  have k40 := rq_size f39
  have k40 := sih36e.trans k40
  refine r_peekI hX (tl_136 0 rfl (by decide)) tx_s (fun o41 o41e o41a o41b => ?_)
  obtain rfl : sih36 = o41 := sih36e.trans o41e.symm
  have hC42 : pSt (pSg TT nn 59 (pNb TT nn 0 19 (pKd TT nn 11 (pNb TT nn 0 1000 sr)))) = pWo TT nn sr := by
    unfold pWo; (repeat (first | rw [if_pos (by first | decide | omega)] | rw [if_neg (by first | decide | omega)])); try rfl
  have hC421 : (pWo TT nn sr) 1 = (pSt (pSg TT nn 59 (pNb TT nn 0 19 (pKd TT nn 11 (pNb TT nn 0 1000 sr))))) 1 := congrFun hC42.symm 1
  exact r_retV hX hP rfl rfl (by first | decide | omega) (by first | decide | omega) ⟨rfl, ⟨_, (hw_sub (hw_sub (hw_sub (hw_sub (hw_sub (hw_refl _ _) rfl) rfl) rfl) rfl) rfl).symm⟩, rfl, sih36, sih36e, (by first | decide | omega), ci38, (rd_cast f39 hC42)⟩
