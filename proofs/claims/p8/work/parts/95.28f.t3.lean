set_option maxRecDepth 100000 in
set_option maxHeartbeats 4000000 in
theorem c_X6_choiceR (E : En) (S : Sg) (G : Gh) (this : Int) (hS : S this = 131) (tx : Int) (tx_e : tx = G 131 this 9) (tx_s : S tx = 136) (TT : Tp) (nn : Int) (sr : Rg) (rd : RdC TT nn sr G this tx) : Calls E mX6_choice [(2, this)] S G 4 0 0 (fun r S' G' => S = S' ∧ (∃ G1, hw [(106, -1), (107, -1), (131, 1), (131, 2), (131, 5), (131, 6), (131, 7), (131, 8), (131, 11), (136, 1)] G G1 = G') ∧ r = none ∧ RdC TT nn (pCh TT nn sr) G' this tx ∧ (∀ a : Int, a ≠ tx → G' 136 a 1 = G 136 a 1 ∧ G' 136 a 2 = G 136 a 2)) := by
  refine calls_by [(0, (2, this))] rfl rfl (Nat.le_of_ble_eq_true rfl) (fun X hX => ?_)
  have hP := hPX6_choice
  refine r_ex hX hP 1 (pc' := 1) (st' := [(2, this)]) (lo' := [(0, (2, this))]) rfl ?_
  refine r_callV gd hX hP rfl cv_X6_223_131 hS (d' := 2) (mc' := 0) (ms' := 0) (as' := []) (st := []) (by first | decide | omega) (by first | decide | omega) (by first | decide | omega) rfl rfl (Nat.le_of_ble_eq_true rfl) (c_X6_isNameR E S G this  hS tx tx_e tx_s TT nn sr rd) ?_
  rintro _ _ _ ⟨rfl, ⟨G1, rfl⟩, z2, rfl, z2a, z2b, f3, f4⟩
  refine r_if_ne hX hP rfl (tgt := 8) rfl (by first | decide | omega) (by first | decide | omega) (fun c5 => ?_) (fun c5 => ?_)
  · skip
    refine r_ex hX hP 1 (pc' := 9) (st' := [(2, this)]) (lo' := [(0, (2, this))]) rfl ?_
    refine r_getKN hX hP rfl fl_X6_54_131 hS (x := tx) tx_e ?_
    refine r_getI hX hP rfl fl_X6_173_136 tx_s (fun cf6 cf6e cf6a cf6b => ?_)
    have k7 := rq_cc f4
    have k7 := cf6e.trans k7
    refine r_ex hX hP 3 (pc' := 18) (st' := [(0, 3), (0, cf6)]) (lo' := [(0, (2, this)), (1, (0, cf6))]) rfl ?_
    refine r_ic_lt hX hP rfl (tgt := 30) rfl (by first | decide | omega) (by first | decide | omega) (by first | decide | omega) (by first | decide | omega) (fun c8 => ?_) (fun c8 => ?_)
    · skip
      refine r_ex hX hP 1 (pc' := 31) (st' := [(2, this)]) (lo' := [(0, (2, this)), (1, (0, cf6))]) rfl ?_
      refine r_callV gd hX hP rfl cv_X6_227_131 hS (d' := 0) (mc' := 0) (ms' := 0) (as' := []) (st := []) (by first | decide | omega) (by first | decide | omega) (by first | decide | omega) rfl rfl (Nat.le_of_ble_eq_true rfl) (c_X6_namedR E S (hw [(131, 1), (131, 2)] G G1) this  hS tx tx_e tx_s TT nn (pNa TT nn sr) f4) ?_
      rintro _ _ _ ⟨rfl, rfl, z9, rfl, z9a, z9b, f10, f11⟩
      refine r_ex hX hP 1 (pc' := 35) (st' := [(0, (-1)), (0, z9)]) (lo' := [(0, (2, this)), (1, (0, cf6))]) rfl ?_
      refine r_ic_eq hX hP rfl (tgt := 47) rfl (by first | decide | omega) (by first | decide | omega) (by first | decide | omega) (by first | decide | omega) (fun c12 => ?_) (fun c12 => ?_)
      · skip
        refine r_ex hX hP 1 (pc' := 48) (st' := [(2, this)]) (lo' := [(0, (2, this)), (1, (0, cf6))]) rfl ?_
        refine r_getR hX hP rfl fl_X6_25_131 hS (fun nf13 nf13e nf13s => ?_)
        refine r_ex hX hP 2 (pc' := 53) (st' := [(2, this), (0, cf6), (2, nf13)]) (lo' := [(0, (2, this)), (1, (0, cf6))]) rfl ?_
        refine r_getI hX hP rfl fl_X6_83_131 hS (fun sf14 sf14e sf14a sf14b => ?_)
        have k15 := rq_start f11
        have k15 := sf14e.trans k15
        refine r_iastK hX hP rfl al_107 nf13s (by first | decide | omega) (by first | decide | omega) (by first | decide | omega) (by first | decide | omega) (fun h16 => ?_)
        refine r_ex hX hP 1 (pc' := 58) (st' := [(2, this)]) (lo' := [(0, (2, this)), (1, (0, cf6))]) rfl ?_
        refine r_getR hX hP rfl fl_X6_28_131 hS (fun nf17 nf17e nf17s => ?_)
        refine r_ex hX hP 2 (pc' := 63) (st' := [(2, this), (0, cf6), (2, nf17)]) (lo' := [(0, (2, this)), (1, (0, cf6))]) rfl ?_
        refine r_getI hX hP rfl fl_X6_67_131 hS (fun af18 af18e af18a af18b => ?_)
        have k19 := rq_at f11
        have k19 := af18e.trans k19
        refine r_iastK hX hP rfl al_107 nf17s (by first | decide | omega) (by first | decide | omega) (by first | decide | omega) (by first | decide | omega) (fun h20 => ?_)
        refine r_ex hX hP 1 (pc' := 68) (st' := [(2, this)]) (lo' := [(0, (2, this)), (1, (0, cf6))]) rfl ?_
        refine r_getKN hX hP rfl fl_X6_54_131 hS (x := tx) tx_e ?_
        refine r_ex hX hP 1 (pc' := 72) (st' := [(2, tx), (2, tx)]) (lo' := [(0, (2, this)), (1, (0, cf6))]) rfl ?_
        refine r_getKI hX hP rfl fl_X6_173_136 tx_s (x := cf6) cf6e ?_
        refine r_ex hX hP 2 (pc' := 77) (st' := [(0, (cf6 + 1)), (2, tx)]) (lo' := [(0, (2, this)), (1, (0, cf6))]) rfl ?_
        refine r_putIK hX hP rfl fp_X6_173_136 tx_s (by first | decide | omega) (by first | decide | omega) (fun h21 => ?_)
        have k22 : cf6 = (pNa TT nn sr) 4 := by omega
        have k22a : sf14 = tkS TT nn ((pNa TT nn sr) 0) := by omega
        have k22b : af18 = tkE TT nn ((pNa TT nn sr) 0) := by omega
        have rd23 : RdC TT nn (pNw TT nn (pNa TT nn sr)) (up (up (up (hw [(131, 1), (131, 2)] G G1) 107 nf13 cf6 sf14) 107 nf17 cf6 af18) 136 tx 1 (cf6 + 1)) this tx := rd_mk (rq_tape f11 : _) (rq_end f11 : _) (rq_text f11 : _) (rq_tok f11 : _) (rq_start f11 : _) (rq_at f11 : _) (rq_val f11 : _) (rq_flaw f11 : _) (rq_place f11 : _) (rq_told f11 : _) (h21.symm.trans (show (cf6 + 1) = (pNa TT nn sr) 4 + 1 from by omega)) (rq_fb f11 : _) (rq_ti f11 : _) (rq_to f11 : _) (rq_dp f11 : _) (rq_size f11 : _) (rq_o0 f11 : _) (rq_o1 f11 : _) (rq_o2 f11 : _) (rd_nwA (k := 0) (w := af18) nf13e nf17e (rq_ne1 f11) k22 k22a (rq_a0 f11) : _) (rd_nwA (k := 1) (w := af18) nf13e nf17e (rq_ne1 f11) k22 k22a (rq_a1 f11) : _) (rd_nwA (k := 2) (w := af18) nf13e nf17e (rq_ne1 f11) k22 k22a (rq_a2 f11) : _) (rd_nwB (k := 0) (v := sf14) nf13e nf17e (rq_ne1 f11) k22 k22b (rq_b0 f11) : _) (rd_nwB (k := 1) (v := sf14) nf13e nf17e (rq_ne1 f11) k22 k22b (rq_b1 f11) : _) (rd_nwB (k := 2) (v := sf14) nf13e nf17e (rq_ne1 f11) k22 k22b (rq_b2 f11) : _) (rq_m0 f11 : _) (rq_m1 f11 : _) (rq_m2 f11 : _) (rq_ne1 f11 : _) (rq_ne2 f11 : _) (rq_p0 f11 : _) (rq_p1 f11 : _) (rq_n4 f11 : _)
        refine r_ex hX hP 1 (pc' := 81) (st' := [(2, this)]) (lo' := [(0, (2, this)), (1, (0, cf6))]) rfl ?_
        refine r_callV gd hX hP rfl cv_X6_80_131 hS (d' := 1) (mc' := 0) (ms' := 0) (as' := []) (st := []) (by first | decide | omega) (by first | decide | omega) (by first | decide | omega) rfl rfl (Nat.le_of_ble_eq_true rfl) (c_X6_advanceR E S (up (up (up (hw [(131, 1), (131, 2)] G G1) 107 nf13 cf6 sf14) 107 nf17 cf6 af18) 136 tx 1 (cf6 + 1)) this  hS tx tx_e tx_s TT nn (pNw TT nn (pNa TT nn sr)) rd23) ?_
        rintro _ _ _ ⟨rfl, ⟨G24, rfl⟩, rfl, f25⟩
        have k26 := (show pAv TT nn (pNw TT nn (pNa TT nn sr)) 1 = (pNw TT nn (pNa TT nn sr)) 1 from rfl)
        refine r_ex hX hP 2 (pc' := 86) (st' := [(0, (-1)), (2, this)]) (lo' := [(0, (2, this)), (1, (0, cf6))]) rfl ?_
        refine r_callV gd hX hP rfl cv_X6_113_131 hS (d' := 3) (mc' := 0) (ms' := 0) (as' := [(0, (-1))]) (st := []) (by first | decide | omega) (by first | decide | omega) (by first | decide | omega) rfl rfl (Nat.le_of_ble_eq_true rfl) (c_X6_pushR E S (hw [(131, 5), (131, 6), (131, 7), (131, 8)] (up (up (up (hw [(131, 1), (131, 2)] G G1) 107 nf13 cf6 sf14) 107 nf17 cf6 af18) 136 tx 1 (cf6 + 1)) G24) this (-1) hS tx tx_e tx_s (by first | decide | omega) (by first | decide | omega) TT nn (pAv TT nn (pNw TT nn (pNa TT nn sr))) f25) ?_
        rintro _ _ _ ⟨rfl, ⟨G27, rfl⟩, rfl, f28⟩
        have hC29 : pPu TT nn (-1) (pAv TT nn (pNw TT nn (pNa TT nn sr))) = pCh TT nn sr := by
          unfold pCh; (repeat (first | rw [if_pos (by first | decide | omega)] | rw [if_neg (by first | decide | omega)])); try rfl
        have hC291 : (pCh TT nn sr) 1 = (pPu TT nn (-1) (pAv TT nn (pNw TT nn (pNa TT nn sr)))) 1 := congrFun hC29.symm 1
        exact r_retV hX hP rfl rfl (by first | decide | omega) (by first | decide | omega) ⟨rfl, ⟨_, (hw_sub (hw_sub (hw_up (hw_up (hw_up (hw_sub (hw_refl _ _) rfl) rfl) rfl) rfl) rfl) rfl).symm⟩, rfl, (rd_cast f28 hC29), (fun a h => ⟨(show (up (up (up (hw [(131, 1), (131, 2)] G G1) 107 nf13 cf6 sf14) 107 nf17 cf6 af18) 136 tx 1 (cf6 + 1)) 136 a 1 = _ from up_ne (fun q => h q.2.1)), rfl⟩)⟩
      · skip
        refine r_ex hX hP 2 (pc' := 40) (st' := [(0, 5), (2, this)]) (lo' := [(0, (2, this)), (1, (0, cf6))]) rfl ?_
        refine r_callV gd hX hP rfl cv_X6_44_131 hS (d' := 0) (mc' := 0) (ms' := 0) (as' := [(0, 5)]) (st := []) (by first | decide | omega) (by first | decide | omega) (by first | decide | omega) rfl rfl (Nat.le_of_ble_eq_true rfl) (c_X6_failR E S (hw [(131, 1), (131, 2)] G G1) this 5 hS tx tx_e tx_s (by first | decide | omega) (by first | decide | omega) TT nn (pNa TT nn sr) f11) ?_
        rintro _ _ _ ⟨rfl, ⟨G30, rfl⟩, z31, rfl, flh32, flh32e, rfl, f33, f34⟩
        have k35 := rq_flaw f34
        have k35 := flh32e.trans k35
        refine r_peekI hX (tl_131 1 rfl (by decide)) hS (fun o36 o36e o36a o36b => ?_)
        obtain rfl : flh32 = o36 := flh32e.trans o36e.symm
        refine r_ex hX hP 2 (pc' := 89) (st' := []) (lo' := [(0, (2, this)), (1, (0, cf6))]) rfl ?_
        have hC37 : pFl TT nn 5 (pNa TT nn sr) = pCh TT nn sr := by
          unfold pCh; (repeat (first | rw [if_pos (by first | decide | omega)] | rw [if_neg (by first | decide | omega)])); try rfl
        have hC371 : (pCh TT nn sr) 1 = (pFl TT nn 5 (pNa TT nn sr)) 1 := congrFun hC37.symm 1
        exact r_retV hX hP rfl rfl (by first | decide | omega) (by first | decide | omega) ⟨rfl, ⟨_, (hw_sub (hw_sub (hw_refl _ _) rfl) rfl).symm⟩, rfl, (rd_cast f34 hC37), (fun a h => ⟨rfl, rfl⟩)⟩
    · skip
      refine r_ex hX hP 2 (pc' := 23) (st' := [(0, 3), (2, this)]) (lo' := [(0, (2, this)), (1, (0, cf6))]) rfl ?_
      refine r_callV gd hX hP rfl cv_X6_44_131 hS (d' := 0) (mc' := 0) (ms' := 0) (as' := [(0, 3)]) (st := []) (by first | decide | omega) (by first | decide | omega) (by first | decide | omega) rfl rfl (Nat.le_of_ble_eq_true rfl) (c_X6_failR E S (hw [(131, 1), (131, 2)] G G1) this 3 hS tx tx_e tx_s (by first | decide | omega) (by first | decide | omega) TT nn (pNa TT nn sr) f4) ?_
      rintro _ _ _ ⟨rfl, ⟨G38, rfl⟩, z39, rfl, flh40, flh40e, rfl, f41, f42⟩
      have k43 := rq_flaw f42
      have k43 := flh40e.trans k43
      refine r_peekI hX (tl_131 1 rfl (by decide)) hS (fun o44 o44e o44a o44b => ?_)
      obtain rfl : flh40 = o44 := flh40e.trans o44e.symm
      refine r_ex hX hP 2 (pc' := 89) (st' := []) (lo' := [(0, (2, this)), (1, (0, cf6))]) rfl ?_
      have hC45 : pFl TT nn 3 (pNa TT nn sr) = pCh TT nn sr := by
        unfold pCh; (repeat (first | rw [if_pos (by first | decide | omega)] | rw [if_neg (by first | decide | omega)])); try rfl
      have hC451 : (pCh TT nn sr) 1 = (pFl TT nn 3 (pNa TT nn sr)) 1 := congrFun hC45.symm 1
      exact r_retV hX hP rfl rfl (by first | decide | omega) (by first | decide | omega) ⟨rfl, ⟨_, (hw_sub (hw_sub (hw_refl _ _) rfl) rfl).symm⟩, rfl, (rd_cast f42 hC45), (fun a h => ⟨rfl, rfl⟩)⟩
  · skip
    have hC46 : pNa TT nn sr = pCh TT nn sr := by
      unfold pCh; (repeat (first | rw [if_pos (by first | decide | omega)] | rw [if_neg (by first | decide | omega)])); try rfl
    have hC461 : (pCh TT nn sr) 1 = (pNa TT nn sr) 1 := congrFun hC46.symm 1
    exact r_retV hX hP rfl rfl (by first | decide | omega) (by first | decide | omega) ⟨rfl, ⟨_, (hw_sub (hw_refl _ _) rfl).symm⟩, rfl, (rd_cast f4 hC46), (fun a h => ⟨rfl, rfl⟩)⟩
set_option maxRecDepth 100000 in
set_option maxHeartbeats 4000000 in
theorem c_X6_fallbackR (E : En) (S : Sg) (G : Gh) (this : Int) (hS : S this = 131) (tx : Int) (tx_e : tx = G 131 this 9) (tx_s : S tx = 136) (TT : Tp) (nn : Int) (sr : Rg) (rd : RdC TT nn sr G this tx) : Calls E mX6_fallback [(2, this)] S G 3 0 0 (fun r S' G' => S = S' ∧ (∃ G1, hw [(131, 1), (131, 2), (131, 5), (131, 6), (131, 7), (131, 8), (136, 2)] G G1 = G') ∧ r = none ∧ RdC TT nn (pFa TT nn sr) G' this tx ∧ (∀ a : Int, a ≠ tx → G' 136 a 1 = G 136 a 1 ∧ G' 136 a 2 = G 136 a 2)) := by
  refine calls_by [(0, (2, this))] rfl rfl (Nat.le_of_ble_eq_true rfl) (fun X hX => ?_)
  have hP := hPX6_fallback
  refine r_ex hX hP 1 (pc' := 1) (st' := [(2, this)]) (lo' := [(0, (2, this))]) rfl ?_
  refine r_callV gd hX hP rfl cv_X6_223_131 hS (d' := 2) (mc' := 0) (ms' := 0) (as' := []) (st := []) (by first | decide | omega) (by first | decide | omega) (by first | decide | omega) rfl rfl (Nat.le_of_ble_eq_true rfl) (c_X6_isNameR E S G this  hS tx tx_e tx_s TT nn sr rd) ?_
  rintro _ _ _ ⟨rfl, ⟨G1, rfl⟩, z2, rfl, z2a, z2b, f3, f4⟩
  refine r_if_ne hX hP rfl (tgt := 8) rfl (by first | decide | omega) (by first | decide | omega) (fun c5 => ?_) (fun c5 => ?_)
  · skip
    refine r_ex hX hP 1 (pc' := 9) (st' := [(2, this)]) (lo' := [(0, (2, this))]) rfl ?_
    refine r_callV gd hX hP rfl cv_X6_227_131 hS (d' := 0) (mc' := 0) (ms' := 0) (as' := []) (st := []) (by first | decide | omega) (by first | decide | omega) (by first | decide | omega) rfl rfl (Nat.le_of_ble_eq_true rfl) (c_X6_namedR E S (hw [(131, 1), (131, 2)] G G1) this  hS tx tx_e tx_s TT nn (pNa TT nn sr) f4) ?_
    rintro _ _ _ ⟨rfl, rfl, z6, rfl, z6a, z6b, f7, f8⟩
    refine r_ex hX hP 3 (pc' := 15) (st' := [(0, (-1)), (0, z6)]) (lo' := [(0, (2, this)), (1, (0, z6))]) rfl ?_
    refine r_ic_ne hX hP rfl (tgt := 25) rfl (by first | decide | omega) (by first | decide | omega) (by first | decide | omega) (by first | decide | omega) (fun c9 => ?_) (fun c9 => ?_)
    · skip
      refine r_ex hX hP 1 (pc' := 26) (st' := [(2, this)]) (lo' := [(0, (2, this)), (1, (0, z6))]) rfl ?_
      refine r_getKN hX hP rfl fl_X6_54_131 hS (x := tx) tx_e ?_
      refine r_ex hX hP 1 (pc' := 30) (st' := [(0, z6), (2, tx)]) (lo' := [(0, (2, this)), (1, (0, z6))]) rfl ?_
      refine r_putIK hX hP rfl fp_X6_163_136 tx_s (by first | decide | omega) (by first | decide | omega) (fun h10 => ?_)
      have rd11 : RdC TT nn (ud (pNa TT nn sr) 5 (pNm TT nn (pNa TT nn sr) 0)) (up (hw [(131, 1), (131, 2)] G G1) 136 tx 2 z6) this tx := rd_mk (rq_tape f8 : _) (rq_end f8 : _) (rq_text f8 : _) (rq_tok f8 : _) (rq_start f8 : _) (rq_at f8 : _) (rq_val f8 : _) (rq_flaw f8 : _) (rq_place f8 : _) (rq_told f8 : _) (rq_cc f8 : _) (h10.symm.trans (show z6 = pNm TT nn (pNa TT nn sr) 0 from by omega)) (rq_ti f8 : _) (rq_to f8 : _) (rq_dp f8 : _) (rq_size f8 : _) (rq_o0 f8 : _) (rq_o1 f8 : _) (rq_o2 f8 : _) (rq_a0 f8 : _) (rq_a1 f8 : _) (rq_a2 f8 : _) (rq_b0 f8 : _) (rq_b1 f8 : _) (rq_b2 f8 : _) (rq_m0 f8 : _) (rq_m1 f8 : _) (rq_m2 f8 : _) (rq_ne1 f8 : _) (rq_ne2 f8 : _) (rq_p0 f8 : _) (rq_p1 f8 : _) (rq_n4 f8 : _)
      refine r_ex hX hP 1 (pc' := 34) (st' := [(2, this)]) (lo' := [(0, (2, this)), (1, (0, z6))]) rfl ?_
      refine r_callV gd hX hP rfl cv_X6_80_131 hS (d' := 1) (mc' := 0) (ms' := 0) (as' := []) (st := []) (by first | decide | omega) (by first | decide | omega) (by first | decide | omega) rfl rfl (Nat.le_of_ble_eq_true rfl) (c_X6_advanceR E S (up (hw [(131, 1), (131, 2)] G G1) 136 tx 2 z6) this  hS tx tx_e tx_s TT nn (ud (pNa TT nn sr) 5 (pNm TT nn (pNa TT nn sr) 0)) rd11) ?_
      rintro _ _ _ ⟨rfl, ⟨G12, rfl⟩, rfl, f13⟩
      have k14 := (show pAv TT nn (ud (pNa TT nn sr) 5 (pNm TT nn (pNa TT nn sr) 0)) 1 = (ud (pNa TT nn sr) 5 (pNm TT nn (pNa TT nn sr) 0)) 1 from rfl)
      refine r_ex hX hP 2 (pc' := 40) (st' := [(0, 59), (2, this)]) (lo' := [(0, (2, this)), (1, (0, z6))]) rfl ?_
      refine r_peekI hX (tl_131 1 rfl (by decide)) hS (fun flp15 flp15e flp15a flp15b => ?_)
      have k16 := rq_flaw f13
      have k16 := flp15e.trans k16
      refine r_callV gd hX hP rfl cv_X6_116_131 hS (d' := 2) (mc' := 0) (ms' := 0) (as' := [(0, 59)]) (st := []) (by first | decide | omega) (by first | decide | omega) (by first | decide | omega) rfl rfl (Nat.le_of_ble_eq_true rfl) (c_X6_signR E S (hw [(131, 5), (131, 6), (131, 7), (131, 8)] (up (hw [(131, 1), (131, 2)] G G1) 136 tx 2 z6) G12) this 59 hS tx tx_e tx_s flp15 flp15e (by first | decide | omega) (by first | decide | omega) TT nn (pAv TT nn (ud (pNa TT nn sr) 5 (pNm TT nn (pNa TT nn sr) 0))) f13) ?_
      rintro _ _ _ ⟨rfl, ⟨G17, rfl⟩, z18, rfl, flh19, flh19e, z18a, z18b, f20, f21, f22⟩
      have k23 := pSg_1 TT nn 59 (pAv TT nn (ud (pNa TT nn sr) 5 (pNm TT nn (pNa TT nn sr) 0)))
      have k24 := rq_flaw f22
      have k24 := flh19e.trans k24
      refine r_peekI hX (tl_131 1 rfl (by decide)) hS (fun o25 o25e o25a o25b => ?_)
      obtain rfl : flh19 = o25 := flh19e.trans o25e.symm
      refine r_ex hX hP 1 (pc' := 44) (st' := []) (lo' := [(0, (2, this)), (1, (0, z6))]) rfl ?_
      have hC26 : pSg TT nn 59 (pAv TT nn (ud (pNa TT nn sr) 5 (pNm TT nn (pNa TT nn sr) 0))) = pFa TT nn sr := by
        unfold pFa; (repeat (first | rw [if_pos (by first | decide | omega)] | rw [if_neg (by first | decide | omega)])); try rfl
      have hC261 : (pFa TT nn sr) 1 = (pSg TT nn 59 (pAv TT nn (ud (pNa TT nn sr) 5 (pNm TT nn (pNa TT nn sr) 0)))) 1 := congrFun hC26.symm 1
      exact r_retV hX hP rfl rfl (by first | decide | omega) (by first | decide | omega) ⟨rfl, ⟨_, (hw_sub (hw_sub (hw_up (hw_sub (hw_refl _ _) rfl) rfl) rfl) rfl).symm⟩, rfl, (rd_cast f22 hC26), (fun a h => ⟨rfl, (show (up (hw [(131, 1), (131, 2)] G G1) 136 tx 2 z6) 136 a 2 = _ from up_ne (fun q => h q.2.1))⟩)⟩
    · skip
      refine r_ex hX hP 2 (pc' := 20) (st' := [(0, 5), (2, this)]) (lo' := [(0, (2, this)), (1, (0, z6))]) rfl ?_
      refine r_callV gd hX hP rfl cv_X6_44_131 hS (d' := 0) (mc' := 0) (ms' := 0) (as' := [(0, 5)]) (st := []) (by first | decide | omega) (by first | decide | omega) (by first | decide | omega) rfl rfl (Nat.le_of_ble_eq_true rfl) (c_X6_failR E S (hw [(131, 1), (131, 2)] G G1) this 5 hS tx tx_e tx_s (by first | decide | omega) (by first | decide | omega) TT nn (pNa TT nn sr) f8) ?_
      rintro _ _ _ ⟨rfl, ⟨G27, rfl⟩, z28, rfl, flh29, flh29e, rfl, f30, f31⟩
      have k32 := rq_flaw f31
      have k32 := flh29e.trans k32
      refine r_peekI hX (tl_131 1 rfl (by decide)) hS (fun o33 o33e o33a o33b => ?_)
      obtain rfl : flh29 = o33 := flh29e.trans o33e.symm
      refine r_ex hX hP 1 (pc' := 24) (st' := []) (lo' := [(0, (2, this)), (1, (0, z6))]) rfl ?_
      have hC34 : pFl TT nn 5 (pNa TT nn sr) = pFa TT nn sr := by
        unfold pFa; (repeat (first | rw [if_pos (by first | decide | omega)] | rw [if_neg (by first | decide | omega)])); try rfl
      have hC341 : (pFa TT nn sr) 1 = (pFl TT nn 5 (pNa TT nn sr)) 1 := congrFun hC34.symm 1
      exact r_retV hX hP rfl rfl (by first | decide | omega) (by first | decide | omega) ⟨rfl, ⟨_, (hw_sub (hw_sub (hw_refl _ _) rfl) rfl).symm⟩, rfl, (rd_cast f31 hC34), (fun a h => ⟨rfl, rfl⟩)⟩
  · skip
    have hC35 : pNa TT nn sr = pFa TT nn sr := by
      unfold pFa; (repeat (first | rw [if_pos (by first | decide | omega)] | rw [if_neg (by first | decide | omega)])); try rfl
    have hC351 : (pFa TT nn sr) 1 = (pNa TT nn sr) 1 := congrFun hC35.symm 1
    exact r_retV hX hP rfl rfl (by first | decide | omega) (by first | decide | omega) ⟨rfl, ⟨_, (hw_sub (hw_refl _ _) rfl).symm⟩, rfl, (rd_cast f4 hC35), (fun a h => ⟨rfl, rfl⟩)⟩
set_option maxRecDepth 100000 in
set_option maxHeartbeats 4000000 in
theorem c_X6_mostR (E : En) (S : Sg) (G : Gh) (this : Int) (hS : S this = 131) (tx : Int) (tx_e : tx = G 131 this 9) (tx_s : S tx = 136) (TT : Tp) (nn : Int) (sr : Rg) (rd : RdC TT nn sr G this tx) : Calls E mX6_most [(2, this)] S G 6 0 0 (fun r S' G' => S = S' ∧ (∃ G1, hw [(124, -1), (131, 1), (131, 2), (131, 5), (131, 6), (131, 7), (131, 8)] G G1 = G') ∧ r = none ∧ RdC TT nn (pMs TT nn sr) G' this tx) := by
  refine calls_by [(0, (2, this))] rfl rfl (Nat.le_of_ble_eq_true rfl) (fun X hX => ?_)
  have hP := hPX6_most
  refine r_ex hX hP 1 (pc' := 1) (st' := [(2, this)]) (lo' := [(0, (2, this))]) rfl ?_
  refine r_callV gd hX hP rfl cv_X6_168_131 hS (d' := 0) (mc' := 0) (ms' := 0) (as' := []) (st := []) (by first | decide | omega) (by first | decide | omega) (by first | decide | omega) rfl rfl (Nat.le_of_ble_eq_true rfl) (c_X6_rowR E S G this  hS tx tx_e tx_s TT nn sr rd) ?_
  rintro _ _ _ ⟨rfl, rfl, z1, rfl, z1a, z1b, f2, f3⟩
  refine r_ex hX hP 3 (pc' := 7) (st' := [(0, 0), (2, this)]) (lo' := [(0, (2, this)), (1, (0, z1))]) rfl ?_
  refine r_ldc hX hP rfl (v := 9999999) (tbg sg4 166 rfl rfl) ?_
  refine r_peekI hX (tl_131 1 rfl (by decide)) hS (fun flp4 flp4e flp4a flp4b => ?_)
  have k5 := rq_flaw f3
  have k5 := flp4e.trans k5
  refine r_callV gd hX hP rfl cv_X6_196_131 hS (d' := 2) (mc' := 0) (ms' := 0) (as' := [(0, 0), (0, 9999999)]) (st := []) (by first | decide | omega) (by first | decide | omega) (by first | decide | omega) rfl rfl (Nat.le_of_ble_eq_true rfl) (c_X6_numberR E S G this 0 9999999 hS tx tx_e tx_s flp4 flp4e (by first | decide | omega) (by first | decide | omega) (by first | decide | omega) (by first | decide | omega) TT nn sr f3) ?_
  rintro _ _ _ ⟨rfl, ⟨G6, rfl⟩, z7, rfl, flh8, flh8e, z7a, z7b, f9, f10⟩
  have k11 := rq_flaw f10
  have k11 := flh8e.trans k11
  refine r_peekI hX (tl_131 1 rfl (by decide)) hS (fun o12 o12e o12a o12b => ?_)
  obtain rfl : flh8 = o12 := flh8e.trans o12e.symm
  refine r_ex hX hP 5 (pc' := 17) (st' := [(0, 1), (2, this)]) (lo' := [(0, (2, this)), (1, (0, z1)), (2, (0, z7)), (3, (0, (-1)))]) rfl ?_
  refine r_callV gd hX hP rfl cv_X6_95_131 hS (d' := 1) (mc' := 0) (ms' := 0) (as' := [(0, 1)]) (st := []) (by first | decide | omega) (by first | decide | omega) (by first | decide | omega) rfl rfl (Nat.le_of_ble_eq_true rfl) (c_X6_expectR E S (hw [(131, 1), (131, 2), (131, 5), (131, 6), (131, 7), (131, 8)] G G6) this 1 hS tx tx_e tx_s flh8 flh8e (by first | decide | omega) (by first | decide | omega) TT nn (pNb TT nn 0 9999999 sr) f10) ?_
  rintro _ _ _ ⟨rfl, ⟨G13, rfl⟩, z14, rfl, flh15, flh15e, (⟨rfl, f17, f18, f19⟩ | ⟨rfl, f20⟩), f16⟩
  · skip
    have k21 := congrArg (tkK TT nn) (pEx_0 TT nn 1 (pNb TT nn 0 9999999 sr))
    have k22 := congrArg (tkV TT nn) (pEx_0 TT nn 1 (pNb TT nn 0 9999999 sr))
    have k23 := congrArg (tkS TT nn) (pEx_0 TT nn 1 (pNb TT nn 0 9999999 sr))
    have k24 := congrArg (tkE TT nn) (pEx_0 TT nn 1 (pNb TT nn 0 9999999 sr))
    have k25 := rq_flaw f16
    have k25 := flh15e.trans k25
    refine r_peekI hX (tl_131 1 rfl (by decide)) hS (fun o26 o26e o26a o26b => ?_)
    obtain rfl : flh15 = o26 := flh15e.trans o26e.symm
    refine r_if_eq hX hP rfl (tgt := 47) rfl (by first | decide | omega) (by first | decide | omega) (fun c27 => ?_) (fun c27 => ?_)
    · skip
      exfalso; omega
    · skip
      refine r_ex hX hP 1 (pc' := 24) (st' := [(2, this)]) (lo' := [(0, (2, this)), (1, (0, z1)), (2, (0, z7)), (3, (0, (-1)))]) rfl ?_
      refine r_ldcS hX hP rfl (k := 16) (by decide) rfl rfl ?_
      refine r_peekI hX (tl_131 5 rfl (by decide)) hS (fun atp28 atp28e atp28a atp28b => ?_)
      have k29 := rq_at f16
      have k29 := atp28e.trans k29
      refine r_peekI hX (tl_131 7 rfl (by decide)) hS (fun stp30 stp30e stp30a stp30b => ?_)
      have k31 := rq_start f16
      have k31 := stp30e.trans k31
      refine r_callV gd hX hP rfl cv_X6_98_131 hS (d' := 4) (mc' := 0) (ms' := 0) (as' := [(2, (sK E 16))]) (st := []) (by first | decide | omega) (by first | decide | omega) (by first | decide | omega) rfl rfl (Nat.le_of_ble_eq_true rfl) (c_X6_isR E S (hw [(131, 1), (131, 2)] (hw [(131, 1), (131, 2), (131, 5), (131, 6), (131, 7), (131, 8)] G G6) G13) this 16 hS (by decide) tx tx_e tx_s atp28 atp28e stp30 stp30e TT nn (pEx TT nn 1 (pNb TT nn 0 9999999 sr)) f16) ?_
      rintro _ _ _ ⟨rfl, rfl, z32, rfl, z32a, z32b, f33, f34⟩
      refine r_if_eq hX hP rfl (tgt := 47) rfl (by first | decide | omega) (by first | decide | omega) (fun c35 => ?_) (fun c35 => ?_)
      · skip
        refine r_ex hX hP 1 (pc' := 48) (st' := [(2, this)]) (lo' := [(0, (2, this)), (1, (0, z1)), (2, (0, z7)), (3, (0, (-1)))]) rfl ?_
        refine r_ldcS hX hP rfl (k := 17) (by decide) rfl rfl ?_
        refine r_callV gd hX hP rfl cv_X6_202_131 hS (d' := 5) (mc' := 0) (ms' := 0) (as' := [(2, (sK E 17))]) (st := []) (by first | decide | omega) (by first | decide | omega) (by first | decide | omega) rfl rfl (Nat.le_of_ble_eq_true rfl) (c_X6_keywordR E S (hw [(131, 1), (131, 2)] (hw [(131, 1), (131, 2), (131, 5), (131, 6), (131, 7), (131, 8)] G G6) G13) this 17 hS (by decide) tx tx_e tx_s flh15 flh15e TT nn (pEx TT nn 1 (pNb TT nn 0 9999999 sr)) f34) ?_
        rintro _ _ _ ⟨rfl, ⟨G36, rfl⟩, rfl, flh37, flh37e, f38, f39⟩
        have k40 := rq_flaw f39
        have k40 := flh37e.trans k40
        refine r_peekI hX (tl_131 1 rfl (by decide)) hS (fun o41 o41e o41a o41b => ?_)
        obtain rfl : flh37 = o41 := flh37e.trans o41e.symm
        refine r_ex hX hP 2 (pc' := 56) (st' := [(0, 59), (2, this)]) (lo' := [(0, (2, this)), (1, (0, z1)), (2, (0, z7)), (3, (0, (-1)))]) rfl ?_
        refine r_callV gd hX hP rfl cv_X6_116_131 hS (d' := 2) (mc' := 0) (ms' := 0) (as' := [(0, 59)]) (st := []) (by first | decide | omega) (by first | decide | omega) (by first | decide | omega) rfl rfl (Nat.le_of_ble_eq_true rfl) (c_X6_signR E S (hw [(131, 1), (131, 2), (131, 5), (131, 6), (131, 7), (131, 8)] (hw [(131, 1), (131, 2)] (hw [(131, 1), (131, 2), (131, 5), (131, 6), (131, 7), (131, 8)] G G6) G13) G36) this 59 hS tx tx_e tx_s flh37 flh37e (by first | decide | omega) (by first | decide | omega) TT nn (pKd TT nn 17 (pEx TT nn 1 (pNb TT nn 0 9999999 sr))) f39) ?_
        rintro _ _ _ ⟨rfl, ⟨G42, rfl⟩, z43, rfl, flh44, flh44e, z43a, z43b, f45, f46, f47⟩
        have k48 := pSg_1 TT nn 59 (pKd TT nn 17 (pEx TT nn 1 (pNb TT nn 0 9999999 sr)))
        have k49 := rq_flaw f47
        have k49 := flh44e.trans k49
        refine r_peekI hX (tl_131 1 rfl (by decide)) hS (fun o50 o50e o50a o50b => ?_)
        obtain rfl : flh44 = o50 := flh44e.trans o50e.symm
        refine r_ex hX hP 3 (pc' := 62) (st' := [(0, 3), (0, z1)]) (lo' := [(0, (2, this)), (1, (0, z1)), (2, (0, z7)), (3, (0, (-1)))]) rfl ?_
        refine r_ic_eq hX hP rfl (tgt := 85) rfl (by first | decide | omega) (by first | decide | omega) (by first | decide | omega) (by first | decide | omega) (fun c51 => ?_) (fun c51 => ?_)
        · skip
          have rd53 : RdC TT nn (pMo z1 z7 (pSg TT nn 59 (pKd TT nn 17 (pEx TT nn 1 (pNb TT nn 0 9999999 sr))))) (hw [(131, 1), (131, 2), (131, 5), (131, 6), (131, 7), (131, 8)] (hw [(131, 1), (131, 2), (131, 5), (131, 6), (131, 7), (131, 8)] (hw [(131, 1), (131, 2)] (hw [(131, 1), (131, 2), (131, 5), (131, 6), (131, 7), (131, 8)] G G6) G13) G36) G42) this tx := rd_mk (rq_tape f47 : _) (rq_end f47 : _) (rq_text f47 : _) (rq_tok f47 : _) (rq_start f47 : _) (rq_at f47 : _) (rq_val f47 : _) (rq_flaw f47 : _) (rq_place f47 : _) (rq_told f47 : _) (rq_cc f47 : _) (rq_fb f47 : _) (rq_ti f47 : _) (rq_to f47 : _) (rq_dp f47 : _) (rq_size f47 : _) (rq_o0 f47 : _) (rq_o1 f47 : _) (rq_o2 f47 : _) (rq_a0 f47 : _) (rq_a1 f47 : _) (rq_a2 f47 : _) (rq_b0 f47 : _) (rq_b1 f47 : _) (rq_b2 f47 : _) ((rq_m0 f47 : _).trans (if_neg (show ¬ z1 = 0 from by omega)).symm) ((rq_m1 f47 : _).trans (if_neg (show ¬ z1 = 1 from by omega)).symm) ((rq_m2 f47 : _).trans (if_neg (show ¬ z1 = 2 from by omega)).symm) (rq_ne1 f47 : _) (rq_ne2 f47 : _) (rq_p0 f47 : _) (rq_p1 f47 : _) (rq_n4 f47 : _)
          have k52V : z7 = pVm TT nn sr := by unfold pVm; (repeat' split) <;> omega
          have k52R : z1 = pRw sr := by omega
          have hC54 : pMo z1 z7 (pSg TT nn 59 (pKd TT nn 17 (pEx TT nn 1 (pNb TT nn 0 9999999 sr)))) = pMs TT nn sr := by
            unfold pMs pCu; rw [← k52V, ← k52R]; (repeat (first | rw [if_pos (by first | decide | omega)] | rw [if_neg (by first | decide | omega)])); try rfl
          have hC541 : (pMs TT nn sr) 1 = (pMo z1 z7 (pSg TT nn 59 (pKd TT nn 17 (pEx TT nn 1 (pNb TT nn 0 9999999 sr))))) 1 := congrFun hC54.symm 1
          exact r_retV hX hP rfl rfl (by first | decide | omega) (by first | decide | omega) ⟨rfl, ⟨_, (hw_sub (hw_sub (hw_sub (hw_sub (hw_refl _ _) rfl) rfl) rfl) rfl).symm⟩, rfl, (rd_cast rd53 hC54)⟩
        · skip
          refine r_ex hX hP 1 (pc' := 66) (st' := [(2, this)]) (lo' := [(0, (2, this)), (1, (0, z1)), (2, (0, z7)), (3, (0, (-1)))]) rfl ?_
          refine r_getKN hX hP rfl fl_X6_54_131 hS (x := tx) tx_e ?_
          refine r_getR hX hP rfl fl_X6_171_136 tx_s (fun mf55 mf55e mf55s => ?_)
          refine r_ex hX hP 2 (pc' := 74) (st' := [(0, z7), (0, z1), (2, mf55)]) (lo' := [(0, (2, this)), (1, (0, z1)), (2, (0, z7)), (3, (0, (-1)))]) rfl ?_
          refine r_iastK hX hP rfl al_124 mf55s (by first | decide | omega) (by first | decide | omega) (by first | decide | omega) (by first | decide | omega) (fun h56 => ?_)
          refine r_ex hX hP 1 (pc' := 76) (st' := [(2, this)]) (lo' := [(0, (2, this)), (1, (0, z1)), (2, (0, z7)), (3, (0, (-1)))]) rfl ?_
          refine r_getKN hX hP rfl fl_X6_54_131 hS (x := tx) tx_e ?_
          refine r_getR hX hP rfl fl_X6_234_136 tx_s (fun sf57 sf57e sf57s => ?_)
          refine r_ex hX hP 2 (pc' := 84) (st' := [(0, (-1)), (0, z1), (2, sf57)]) (lo' := [(0, (2, this)), (1, (0, z1)), (2, (0, z7)), (3, (0, (-1)))]) rfl ?_
          refine r_iastK hX hP rfl al_124 sf57s (by first | decide | omega) (by first | decide | omega) (by first | decide | omega) (by first | decide | omega) (fun h58 => ?_)
          have rd60 : RdC TT nn (pMo z1 z7 (pSg TT nn 59 (pKd TT nn 17 (pEx TT nn 1 (pNb TT nn 0 9999999 sr))))) (up (up (hw [(131, 1), (131, 2), (131, 5), (131, 6), (131, 7), (131, 8)] (hw [(131, 1), (131, 2), (131, 5), (131, 6), (131, 7), (131, 8)] (hw [(131, 1), (131, 2)] (hw [(131, 1), (131, 2), (131, 5), (131, 6), (131, 7), (131, 8)] G G6) G13) G36) G42) 124 mf55 z1 z7) 124 sf57 z1 (-1)) this tx := rd_mk (rq_tape f47 : _) (rq_end f47 : _) (rq_text f47 : _) (rq_tok f47 : _) (rq_start f47 : _) (rq_at f47 : _) (rq_val f47 : _) (rq_flaw f47 : _) (rq_place f47 : _) (rq_told f47 : _) (rq_cc f47 : _) (rq_fb f47 : _) (rq_ti f47 : _) (rq_to f47 : _) (rq_dp f47 : _) (rq_size f47 : _) (rq_o0 f47 : _) (rq_o1 f47 : _) (rq_o2 f47 : _) (rq_a0 f47 : _) (rq_a1 f47 : _) (rq_a2 f47 : _) (rq_b0 f47 : _) (rq_b1 f47 : _) (rq_b2 f47 : _) (rd_mow (k := 0) (w := (-1)) mf55e sf57e (rq_ne2 f47) (rq_m0 f47) : _) (rd_mow (k := 1) (w := (-1)) mf55e sf57e (rq_ne2 f47) (rq_m1 f47) : _) (rd_mow (k := 2) (w := (-1)) mf55e sf57e (rq_ne2 f47) (rq_m2 f47) : _) (rq_ne1 f47 : _) (rq_ne2 f47 : _) (rq_p0 f47 : _) (rq_p1 f47 : _) (rq_n4 f47 : _)
          have k59V : z7 = pVm TT nn sr := by unfold pVm; (repeat' split) <;> omega
          have k59R : z1 = pRw sr := by omega
          have hC61 : pMo z1 z7 (pSg TT nn 59 (pKd TT nn 17 (pEx TT nn 1 (pNb TT nn 0 9999999 sr)))) = pMs TT nn sr := by
            unfold pMs pCu; rw [← k59V, ← k59R]; (repeat (first | rw [if_pos (by first | decide | omega)] | rw [if_neg (by first | decide | omega)])); try rfl
          have hC611 : (pMs TT nn sr) 1 = (pMo z1 z7 (pSg TT nn 59 (pKd TT nn 17 (pEx TT nn 1 (pNb TT nn 0 9999999 sr))))) 1 := congrFun hC61.symm 1
          exact r_retV hX hP rfl rfl (by first | decide | omega) (by first | decide | omega) ⟨rfl, ⟨_, (hw_up (hw_up (hw_sub (hw_sub (hw_sub (hw_sub (hw_refl _ _) rfl) rfl) rfl) rfl) rfl) rfl).symm⟩, rfl, (rd_cast rd60 hC61)⟩
      · skip
        refine r_ex hX hP 1 (pc' := 33) (st' := [(2, this)]) (lo' := [(0, (2, this)), (1, (0, z1)), (2, (0, z7)), (3, (0, (-1)))]) rfl ?_
        refine r_callV gd hX hP rfl cv_X6_80_131 hS (d' := 1) (mc' := 0) (ms' := 0) (as' := []) (st := []) (by first | decide | omega) (by first | decide | omega) (by first | decide | omega) rfl rfl (Nat.le_of_ble_eq_true rfl) (c_X6_advanceR E S (hw [(131, 1), (131, 2)] (hw [(131, 1), (131, 2), (131, 5), (131, 6), (131, 7), (131, 8)] G G6) G13) this  hS tx tx_e tx_s TT nn (pEx TT nn 1 (pNb TT nn 0 9999999 sr)) f34) ?_
        rintro _ _ _ ⟨rfl, ⟨G62, rfl⟩, rfl, f63⟩
        have k64 := (show pAv TT nn (pEx TT nn 1 (pNb TT nn 0 9999999 sr)) 1 = (pEx TT nn 1 (pNb TT nn 0 9999999 sr)) 1 from rfl)
        refine r_ex hX hP 2 (pc' := 38) (st' := [(0, 0), (2, this)]) (lo' := [(0, (2, this)), (1, (0, z1)), (2, (0, z7)), (3, (0, (-1)))]) rfl ?_
        refine r_ldc hX hP rfl (v := 9999999) (tbg sg4 166 rfl rfl) ?_
        refine r_callV gd hX hP rfl cv_X6_196_131 hS (d' := 2) (mc' := 0) (ms' := 0) (as' := [(0, 0), (0, 9999999)]) (st := []) (by first | decide | omega) (by first | decide | omega) (by first | decide | omega) rfl rfl (Nat.le_of_ble_eq_true rfl) (c_X6_numberR E S (hw [(131, 5), (131, 6), (131, 7), (131, 8)] (hw [(131, 1), (131, 2)] (hw [(131, 1), (131, 2), (131, 5), (131, 6), (131, 7), (131, 8)] G G6) G13) G62) this 0 9999999 hS tx tx_e tx_s flh15 flh15e (by first | decide | omega) (by first | decide | omega) (by first | decide | omega) (by first | decide | omega) TT nn (pAv TT nn (pEx TT nn 1 (pNb TT nn 0 9999999 sr))) f63) ?_
        rintro _ _ _ ⟨rfl, ⟨G65, rfl⟩, z66, rfl, flh67, flh67e, z66a, z66b, f68, f69⟩
        have k70 := rq_flaw f69
        have k70 := flh67e.trans k70
        refine r_peekI hX (tl_131 1 rfl (by decide)) hS (fun o71 o71e o71a o71b => ?_)
        obtain rfl : flh67 = o71 := flh67e.trans o71e.symm
        refine r_ex hX hP 4 (pc' := 56) (st' := [(0, 59), (2, this)]) (lo' := [(0, (2, this)), (1, (0, z1)), (2, (0, z7)), (3, (0, z66))]) rfl ?_
        refine r_callV gd hX hP rfl cv_X6_116_131 hS (d' := 2) (mc' := 0) (ms' := 0) (as' := [(0, 59)]) (st := []) (by first | decide | omega) (by first | decide | omega) (by first | decide | omega) rfl rfl (Nat.le_of_ble_eq_true rfl) (c_X6_signR E S (hw [(131, 1), (131, 2), (131, 5), (131, 6), (131, 7), (131, 8)] (hw [(131, 5), (131, 6), (131, 7), (131, 8)] (hw [(131, 1), (131, 2)] (hw [(131, 1), (131, 2), (131, 5), (131, 6), (131, 7), (131, 8)] G G6) G13) G62) G65) this 59 hS tx tx_e tx_s flh67 flh67e (by first | decide | omega) (by first | decide | omega) TT nn (pNb TT nn 0 9999999 (pAv TT nn (pEx TT nn 1 (pNb TT nn 0 9999999 sr)))) f69) ?_
        rintro _ _ _ ⟨rfl, ⟨G72, rfl⟩, z73, rfl, flh74, flh74e, z73a, z73b, f75, f76, f77⟩
        have k78 := pSg_1 TT nn 59 (pNb TT nn 0 9999999 (pAv TT nn (pEx TT nn 1 (pNb TT nn 0 9999999 sr))))
        have k79 := rq_flaw f77
        have k79 := flh74e.trans k79
        refine r_peekI hX (tl_131 1 rfl (by decide)) hS (fun o80 o80e o80a o80b => ?_)
        obtain rfl : flh74 = o80 := flh74e.trans o80e.symm
        refine r_ex hX hP 3 (pc' := 62) (st' := [(0, 3), (0, z1)]) (lo' := [(0, (2, this)), (1, (0, z1)), (2, (0, z7)), (3, (0, z66))]) rfl ?_
        refine r_ic_eq hX hP rfl (tgt := 85) rfl (by first | decide | omega) (by first | decide | omega) (by first | decide | omega) (by first | decide | omega) (fun c81 => ?_) (fun c81 => ?_)
        · skip
          have rd83 : RdC TT nn (pMo z1 z7 (pSg TT nn 59 (pNb TT nn 0 9999999 (pAv TT nn (pEx TT nn 1 (pNb TT nn 0 9999999 sr)))))) (hw [(131, 1), (131, 2), (131, 5), (131, 6), (131, 7), (131, 8)] (hw [(131, 1), (131, 2), (131, 5), (131, 6), (131, 7), (131, 8)] (hw [(131, 5), (131, 6), (131, 7), (131, 8)] (hw [(131, 1), (131, 2)] (hw [(131, 1), (131, 2), (131, 5), (131, 6), (131, 7), (131, 8)] G G6) G13) G62) G65) G72) this tx := rd_mk (rq_tape f77 : _) (rq_end f77 : _) (rq_text f77 : _) (rq_tok f77 : _) (rq_start f77 : _) (rq_at f77 : _) (rq_val f77 : _) (rq_flaw f77 : _) (rq_place f77 : _) (rq_told f77 : _) (rq_cc f77 : _) (rq_fb f77 : _) (rq_ti f77 : _) (rq_to f77 : _) (rq_dp f77 : _) (rq_size f77 : _) (rq_o0 f77 : _) (rq_o1 f77 : _) (rq_o2 f77 : _) (rq_a0 f77 : _) (rq_a1 f77 : _) (rq_a2 f77 : _) (rq_b0 f77 : _) (rq_b1 f77 : _) (rq_b2 f77 : _) ((rq_m0 f77 : _).trans (if_neg (show ¬ z1 = 0 from by omega)).symm) ((rq_m1 f77 : _).trans (if_neg (show ¬ z1 = 1 from by omega)).symm) ((rq_m2 f77 : _).trans (if_neg (show ¬ z1 = 2 from by omega)).symm) (rq_ne1 f77 : _) (rq_ne2 f77 : _) (rq_p0 f77 : _) (rq_p1 f77 : _) (rq_n4 f77 : _)
          have k82V : z7 = pVm TT nn sr := by unfold pVm; (repeat' split) <;> omega
          have k82R : z1 = pRw sr := by omega
          have hC84 : pMo z1 z7 (pSg TT nn 59 (pNb TT nn 0 9999999 (pAv TT nn (pEx TT nn 1 (pNb TT nn 0 9999999 sr))))) = pMs TT nn sr := by
            unfold pMs pCu; rw [← k82V, ← k82R]; (repeat (first | rw [if_pos (by first | decide | omega)] | rw [if_neg (by first | decide | omega)])); try rfl
          have hC841 : (pMs TT nn sr) 1 = (pMo z1 z7 (pSg TT nn 59 (pNb TT nn 0 9999999 (pAv TT nn (pEx TT nn 1 (pNb TT nn 0 9999999 sr)))))) 1 := congrFun hC84.symm 1
          exact r_retV hX hP rfl rfl (by first | decide | omega) (by first | decide | omega) ⟨rfl, ⟨_, (hw_sub (hw_sub (hw_sub (hw_sub (hw_sub (hw_refl _ _) rfl) rfl) rfl) rfl) rfl).symm⟩, rfl, (rd_cast rd83 hC84)⟩
        · skip
          refine r_ex hX hP 1 (pc' := 66) (st' := [(2, this)]) (lo' := [(0, (2, this)), (1, (0, z1)), (2, (0, z7)), (3, (0, z66))]) rfl ?_
          refine r_getKN hX hP rfl fl_X6_54_131 hS (x := tx) tx_e ?_
          refine r_getR hX hP rfl fl_X6_171_136 tx_s (fun mf85 mf85e mf85s => ?_)
          refine r_ex hX hP 2 (pc' := 74) (st' := [(0, z7), (0, z1), (2, mf85)]) (lo' := [(0, (2, this)), (1, (0, z1)), (2, (0, z7)), (3, (0, z66))]) rfl ?_
          refine r_iastK hX hP rfl al_124 mf85s (by first | decide | omega) (by first | decide | omega) (by first | decide | omega) (by first | decide | omega) (fun h86 => ?_)
          refine r_ex hX hP 1 (pc' := 76) (st' := [(2, this)]) (lo' := [(0, (2, this)), (1, (0, z1)), (2, (0, z7)), (3, (0, z66))]) rfl ?_
          refine r_getKN hX hP rfl fl_X6_54_131 hS (x := tx) tx_e ?_
          refine r_getR hX hP rfl fl_X6_234_136 tx_s (fun sf87 sf87e sf87s => ?_)
          refine r_ex hX hP 2 (pc' := 84) (st' := [(0, z66), (0, z1), (2, sf87)]) (lo' := [(0, (2, this)), (1, (0, z1)), (2, (0, z7)), (3, (0, z66))]) rfl ?_
          refine r_iastK hX hP rfl al_124 sf87s (by first | decide | omega) (by first | decide | omega) (by first | decide | omega) (by first | decide | omega) (fun h88 => ?_)
          have rd90 : RdC TT nn (pMo z1 z7 (pSg TT nn 59 (pNb TT nn 0 9999999 (pAv TT nn (pEx TT nn 1 (pNb TT nn 0 9999999 sr)))))) (up (up (hw [(131, 1), (131, 2), (131, 5), (131, 6), (131, 7), (131, 8)] (hw [(131, 1), (131, 2), (131, 5), (131, 6), (131, 7), (131, 8)] (hw [(131, 5), (131, 6), (131, 7), (131, 8)] (hw [(131, 1), (131, 2)] (hw [(131, 1), (131, 2), (131, 5), (131, 6), (131, 7), (131, 8)] G G6) G13) G62) G65) G72) 124 mf85 z1 z7) 124 sf87 z1 z66) this tx := rd_mk (rq_tape f77 : _) (rq_end f77 : _) (rq_text f77 : _) (rq_tok f77 : _) (rq_start f77 : _) (rq_at f77 : _) (rq_val f77 : _) (rq_flaw f77 : _) (rq_place f77 : _) (rq_told f77 : _) (rq_cc f77 : _) (rq_fb f77 : _) (rq_ti f77 : _) (rq_to f77 : _) (rq_dp f77 : _) (rq_size f77 : _) (rq_o0 f77 : _) (rq_o1 f77 : _) (rq_o2 f77 : _) (rq_a0 f77 : _) (rq_a1 f77 : _) (rq_a2 f77 : _) (rq_b0 f77 : _) (rq_b1 f77 : _) (rq_b2 f77 : _) (rd_mow (k := 0) (w := z66) mf85e sf87e (rq_ne2 f77) (rq_m0 f77) : _) (rd_mow (k := 1) (w := z66) mf85e sf87e (rq_ne2 f77) (rq_m1 f77) : _) (rd_mow (k := 2) (w := z66) mf85e sf87e (rq_ne2 f77) (rq_m2 f77) : _) (rq_ne1 f77 : _) (rq_ne2 f77 : _) (rq_p0 f77 : _) (rq_p1 f77 : _) (rq_n4 f77 : _)
          have k89V : z7 = pVm TT nn sr := by unfold pVm; (repeat' split) <;> omega
          have k89R : z1 = pRw sr := by omega
          have hC91 : pMo z1 z7 (pSg TT nn 59 (pNb TT nn 0 9999999 (pAv TT nn (pEx TT nn 1 (pNb TT nn 0 9999999 sr))))) = pMs TT nn sr := by
            unfold pMs pCu; rw [← k89V, ← k89R]; (repeat (first | rw [if_pos (by first | decide | omega)] | rw [if_neg (by first | decide | omega)])); try rfl
          have hC911 : (pMs TT nn sr) 1 = (pMo z1 z7 (pSg TT nn 59 (pNb TT nn 0 9999999 (pAv TT nn (pEx TT nn 1 (pNb TT nn 0 9999999 sr)))))) 1 := congrFun hC91.symm 1
          exact r_retV hX hP rfl rfl (by first | decide | omega) (by first | decide | omega) ⟨rfl, ⟨_, (hw_up (hw_up (hw_sub (hw_sub (hw_sub (hw_sub (hw_sub (hw_refl _ _) rfl) rfl) rfl) rfl) rfl) rfl) rfl).symm⟩, rfl, (rd_cast rd90 hC91)⟩
  · skip
    have k92 := congrArg (tkK TT nn) (pEx_0 TT nn 1 (pNb TT nn 0 9999999 sr))
    have k93 := congrArg (tkV TT nn) (pEx_0 TT nn 1 (pNb TT nn 0 9999999 sr))
    have k94 := congrArg (tkS TT nn) (pEx_0 TT nn 1 (pNb TT nn 0 9999999 sr))
    have k95 := congrArg (tkE TT nn) (pEx_0 TT nn 1 (pNb TT nn 0 9999999 sr))
    have k96 := rq_flaw f16
    have k96 := flh15e.trans k96
    refine r_peekI hX (tl_131 1 rfl (by decide)) hS (fun o97 o97e o97a o97b => ?_)
    obtain rfl : flh15 = o97 := flh15e.trans o97e.symm
    refine r_if_eq hX hP rfl (tgt := 47) rfl (by first | decide | omega) (by first | decide | omega) (fun c98 => ?_) (fun c98 => ?_)
    · skip
      refine r_ex hX hP 1 (pc' := 48) (st' := [(2, this)]) (lo' := [(0, (2, this)), (1, (0, z1)), (2, (0, z7)), (3, (0, (-1)))]) rfl ?_
      refine r_ldcS hX hP rfl (k := 17) (by decide) rfl rfl ?_
      refine r_callV gd hX hP rfl cv_X6_202_131 hS (d' := 5) (mc' := 0) (ms' := 0) (as' := [(2, (sK E 17))]) (st := []) (by first | decide | omega) (by first | decide | omega) (by first | decide | omega) rfl rfl (Nat.le_of_ble_eq_true rfl) (c_X6_keywordR E S (hw [(131, 1), (131, 2)] (hw [(131, 1), (131, 2), (131, 5), (131, 6), (131, 7), (131, 8)] G G6) G13) this 17 hS (by decide) tx tx_e tx_s flh15 flh15e TT nn (pEx TT nn 1 (pNb TT nn 0 9999999 sr)) f16) ?_
      rintro _ _ _ ⟨rfl, ⟨G99, rfl⟩, rfl, flh100, flh100e, f101, f102⟩
      have k103 := rq_flaw f102
      have k103 := flh100e.trans k103
      refine r_peekI hX (tl_131 1 rfl (by decide)) hS (fun o104 o104e o104a o104b => ?_)
      obtain rfl : flh100 = o104 := flh100e.trans o104e.symm
      refine r_ex hX hP 2 (pc' := 56) (st' := [(0, 59), (2, this)]) (lo' := [(0, (2, this)), (1, (0, z1)), (2, (0, z7)), (3, (0, (-1)))]) rfl ?_
      refine r_callV gd hX hP rfl cv_X6_116_131 hS (d' := 2) (mc' := 0) (ms' := 0) (as' := [(0, 59)]) (st := []) (by first | decide | omega) (by first | decide | omega) (by first | decide | omega) rfl rfl (Nat.le_of_ble_eq_true rfl) (c_X6_signR E S (hw [(131, 1), (131, 2), (131, 5), (131, 6), (131, 7), (131, 8)] (hw [(131, 1), (131, 2)] (hw [(131, 1), (131, 2), (131, 5), (131, 6), (131, 7), (131, 8)] G G6) G13) G99) this 59 hS tx tx_e tx_s flh100 flh100e (by first | decide | omega) (by first | decide | omega) TT nn (pKd TT nn 17 (pEx TT nn 1 (pNb TT nn 0 9999999 sr))) f102) ?_
      rintro _ _ _ ⟨rfl, ⟨G105, rfl⟩, z106, rfl, flh107, flh107e, z106a, z106b, f108, f109, f110⟩
      have k111 := pSg_1 TT nn 59 (pKd TT nn 17 (pEx TT nn 1 (pNb TT nn 0 9999999 sr)))
      have k112 := rq_flaw f110
      have k112 := flh107e.trans k112
      refine r_peekI hX (tl_131 1 rfl (by decide)) hS (fun o113 o113e o113a o113b => ?_)
      obtain rfl : flh107 = o113 := flh107e.trans o113e.symm
      refine r_ex hX hP 3 (pc' := 62) (st' := [(0, 3), (0, z1)]) (lo' := [(0, (2, this)), (1, (0, z1)), (2, (0, z7)), (3, (0, (-1)))]) rfl ?_
      refine r_ic_eq hX hP rfl (tgt := 85) rfl (by first | decide | omega) (by first | decide | omega) (by first | decide | omega) (by first | decide | omega) (fun c114 => ?_) (fun c114 => ?_)
      · skip
        have rd116 : RdC TT nn (pMo z1 z7 (pSg TT nn 59 (pKd TT nn 17 (pEx TT nn 1 (pNb TT nn 0 9999999 sr))))) (hw [(131, 1), (131, 2), (131, 5), (131, 6), (131, 7), (131, 8)] (hw [(131, 1), (131, 2), (131, 5), (131, 6), (131, 7), (131, 8)] (hw [(131, 1), (131, 2)] (hw [(131, 1), (131, 2), (131, 5), (131, 6), (131, 7), (131, 8)] G G6) G13) G99) G105) this tx := rd_mk (rq_tape f110 : _) (rq_end f110 : _) (rq_text f110 : _) (rq_tok f110 : _) (rq_start f110 : _) (rq_at f110 : _) (rq_val f110 : _) (rq_flaw f110 : _) (rq_place f110 : _) (rq_told f110 : _) (rq_cc f110 : _) (rq_fb f110 : _) (rq_ti f110 : _) (rq_to f110 : _) (rq_dp f110 : _) (rq_size f110 : _) (rq_o0 f110 : _) (rq_o1 f110 : _) (rq_o2 f110 : _) (rq_a0 f110 : _) (rq_a1 f110 : _) (rq_a2 f110 : _) (rq_b0 f110 : _) (rq_b1 f110 : _) (rq_b2 f110 : _) ((rq_m0 f110 : _).trans (if_neg (show ¬ z1 = 0 from by omega)).symm) ((rq_m1 f110 : _).trans (if_neg (show ¬ z1 = 1 from by omega)).symm) ((rq_m2 f110 : _).trans (if_neg (show ¬ z1 = 2 from by omega)).symm) (rq_ne1 f110 : _) (rq_ne2 f110 : _) (rq_p0 f110 : _) (rq_p1 f110 : _) (rq_n4 f110 : _)
        have k115V : z7 = pVm TT nn sr := by unfold pVm; (repeat' split) <;> omega
        have k115R : z1 = pRw sr := by omega
        have hC117 : pMo z1 z7 (pSg TT nn 59 (pKd TT nn 17 (pEx TT nn 1 (pNb TT nn 0 9999999 sr)))) = pMs TT nn sr := by
          unfold pMs pCu; rw [← k115V, ← k115R]; (repeat (first | rw [if_pos (by first | decide | omega)] | rw [if_neg (by first | decide | omega)])); try rfl
        have hC1171 : (pMs TT nn sr) 1 = (pMo z1 z7 (pSg TT nn 59 (pKd TT nn 17 (pEx TT nn 1 (pNb TT nn 0 9999999 sr))))) 1 := congrFun hC117.symm 1
        exact r_retV hX hP rfl rfl (by first | decide | omega) (by first | decide | omega) ⟨rfl, ⟨_, (hw_sub (hw_sub (hw_sub (hw_sub (hw_refl _ _) rfl) rfl) rfl) rfl).symm⟩, rfl, (rd_cast rd116 hC117)⟩
      · skip
        refine r_ex hX hP 1 (pc' := 66) (st' := [(2, this)]) (lo' := [(0, (2, this)), (1, (0, z1)), (2, (0, z7)), (3, (0, (-1)))]) rfl ?_
        refine r_getKN hX hP rfl fl_X6_54_131 hS (x := tx) tx_e ?_
        refine r_getR hX hP rfl fl_X6_171_136 tx_s (fun mf118 mf118e mf118s => ?_)
        refine r_ex hX hP 2 (pc' := 74) (st' := [(0, z7), (0, z1), (2, mf118)]) (lo' := [(0, (2, this)), (1, (0, z1)), (2, (0, z7)), (3, (0, (-1)))]) rfl ?_
        refine r_iastK hX hP rfl al_124 mf118s (by first | decide | omega) (by first | decide | omega) (by first | decide | omega) (by first | decide | omega) (fun h119 => ?_)
        refine r_ex hX hP 1 (pc' := 76) (st' := [(2, this)]) (lo' := [(0, (2, this)), (1, (0, z1)), (2, (0, z7)), (3, (0, (-1)))]) rfl ?_
        refine r_getKN hX hP rfl fl_X6_54_131 hS (x := tx) tx_e ?_
        refine r_getR hX hP rfl fl_X6_234_136 tx_s (fun sf120 sf120e sf120s => ?_)
        refine r_ex hX hP 2 (pc' := 84) (st' := [(0, (-1)), (0, z1), (2, sf120)]) (lo' := [(0, (2, this)), (1, (0, z1)), (2, (0, z7)), (3, (0, (-1)))]) rfl ?_
        refine r_iastK hX hP rfl al_124 sf120s (by first | decide | omega) (by first | decide | omega) (by first | decide | omega) (by first | decide | omega) (fun h121 => ?_)
        have rd123 : RdC TT nn (pMo z1 z7 (pSg TT nn 59 (pKd TT nn 17 (pEx TT nn 1 (pNb TT nn 0 9999999 sr))))) (up (up (hw [(131, 1), (131, 2), (131, 5), (131, 6), (131, 7), (131, 8)] (hw [(131, 1), (131, 2), (131, 5), (131, 6), (131, 7), (131, 8)] (hw [(131, 1), (131, 2)] (hw [(131, 1), (131, 2), (131, 5), (131, 6), (131, 7), (131, 8)] G G6) G13) G99) G105) 124 mf118 z1 z7) 124 sf120 z1 (-1)) this tx := rd_mk (rq_tape f110 : _) (rq_end f110 : _) (rq_text f110 : _) (rq_tok f110 : _) (rq_start f110 : _) (rq_at f110 : _) (rq_val f110 : _) (rq_flaw f110 : _) (rq_place f110 : _) (rq_told f110 : _) (rq_cc f110 : _) (rq_fb f110 : _) (rq_ti f110 : _) (rq_to f110 : _) (rq_dp f110 : _) (rq_size f110 : _) (rq_o0 f110 : _) (rq_o1 f110 : _) (rq_o2 f110 : _) (rq_a0 f110 : _) (rq_a1 f110 : _) (rq_a2 f110 : _) (rq_b0 f110 : _) (rq_b1 f110 : _) (rq_b2 f110 : _) (rd_mow (k := 0) (w := (-1)) mf118e sf120e (rq_ne2 f110) (rq_m0 f110) : _) (rd_mow (k := 1) (w := (-1)) mf118e sf120e (rq_ne2 f110) (rq_m1 f110) : _) (rd_mow (k := 2) (w := (-1)) mf118e sf120e (rq_ne2 f110) (rq_m2 f110) : _) (rq_ne1 f110 : _) (rq_ne2 f110 : _) (rq_p0 f110 : _) (rq_p1 f110 : _) (rq_n4 f110 : _)
        have k122V : z7 = pVm TT nn sr := by unfold pVm; (repeat' split) <;> omega
        have k122R : z1 = pRw sr := by omega
        have hC124 : pMo z1 z7 (pSg TT nn 59 (pKd TT nn 17 (pEx TT nn 1 (pNb TT nn 0 9999999 sr)))) = pMs TT nn sr := by
          unfold pMs pCu; rw [← k122V, ← k122R]; (repeat (first | rw [if_pos (by first | decide | omega)] | rw [if_neg (by first | decide | omega)])); try rfl
        have hC1241 : (pMs TT nn sr) 1 = (pMo z1 z7 (pSg TT nn 59 (pKd TT nn 17 (pEx TT nn 1 (pNb TT nn 0 9999999 sr))))) 1 := congrFun hC124.symm 1
        exact r_retV hX hP rfl rfl (by first | decide | omega) (by first | decide | omega) ⟨rfl, ⟨_, (hw_up (hw_up (hw_sub (hw_sub (hw_sub (hw_sub (hw_refl _ _) rfl) rfl) rfl) rfl) rfl) rfl).symm⟩, rfl, (rd_cast rd123 hC124)⟩
    · skip
      exfalso; omega
set_option maxRecDepth 100000 in
set_option maxHeartbeats 4000000 in
theorem c_X6_clauseR (E : En) (S : Sg) (G : Gh) (this : Int) (hS : S this = 131) (tx : Int) (tx_e : tx = G 131 this 9) (tx_s : S tx = 136) (s0 : Int) (s0_e : s0 = G 136 tx 0) (td : Int) (td_e : td = G 131 this 10) (pre0 : s0 ≤ td) (ci : CI E S G) (TT : Tp) (nn : Int) (sr : Rg) (rd : RdC TT nn sr G this tx) : Calls E mX6_clause [(2, this)] S G 7 0 0 (fun r S' G' => S = S' ∧ (∃ G1, hw [(106, -1), (107, -1), (119, -1), (120, -1), (121, -1), (122, -1), (123, -1), (124, -1), (131, 1), (131, 2), (131, 5), (131, 6), (131, 7), (131, 8), (131, 10), (131, 11), (131, 13), (131, 14), (136, 0), (136, 1), (136, 2)] G G1 = G') ∧ r = none ∧ ∃ s1 : Int, s1 = G' 136 tx 0 ∧ ∃ t1 : Int, t1 = G' 131 this 10 ∧ s1 ≤ t1 ∧ CI E S G' ∧ RdC TT nn (pCl TT nn sr) G' this tx ∧ (∀ a : Int, a ≠ tx → G' 136 a 1 = G 136 a 1 ∧ G' 136 a 2 = G 136 a 2)) := by
  refine calls_by [(0, (2, this))] rfl rfl (Nat.le_of_ble_eq_true rfl) (fun X hX => ?_)
  have hP := hPX6_clause
  refine r_peekI hX (tl_136 0 rfl (by decide)) tx_s (fun s0_o s0_oe s0_oa s0_ob => ?_)
  obtain rfl : s0 = s0_o := s0_e.trans s0_oe.symm
  refine r_peekI hX (tl_131 10 rfl (by decide)) hS (fun td_o td_oe td_oa td_ob => ?_)
  obtain rfl : td = td_o := td_e.trans td_oe.symm
  have k1 := s0_e.trans (rq_size rd)
  have k2 := td_e.trans (rq_told rd)
  refine r_ex hX hP 2 (pc' := 2) (st' := [(0, 1), (2, this)]) (lo' := [(0, (2, this))]) rfl ?_
  refine r_peekI hX (tl_131 1 rfl (by decide)) hS (fun flp3 flp3e flp3a flp3b => ?_)
  have k4 := rq_flaw rd
  have k4 := flp3e.trans k4
  refine r_callV gd hX hP rfl cv_X6_95_131 hS (d' := 1) (mc' := 0) (ms' := 0) (as' := [(0, 1)]) (st := []) (by first | decide | omega) (by first | decide | omega) (by first | decide | omega) rfl rfl (Nat.le_of_ble_eq_true rfl) (c_X6_expectR E S G this 1 hS tx tx_e tx_s flp3 flp3e (by first | decide | omega) (by first | decide | omega) TT nn sr rd) ?_
  rintro _ _ _ ⟨rfl, ⟨G5, rfl⟩, z6, rfl, flh7, flh7e, (⟨rfl, f9, f10, f11⟩ | ⟨rfl, f12⟩), f8⟩
  · skip
    have k13 := congrArg (tkK TT nn) (pEx_0 TT nn 1 sr)
    have k14 := congrArg (tkV TT nn) (pEx_0 TT nn 1 sr)
    have k15 := congrArg (tkS TT nn) (pEx_0 TT nn 1 sr)
    have k16 := congrArg (tkE TT nn) (pEx_0 TT nn 1 sr)
    have k17 := rq_flaw f8
    have k17 := flh7e.trans k17
    refine r_peekI hX (tl_131 1 rfl (by decide)) hS (fun o18 o18e o18a o18b => ?_)
    obtain rfl : flh7 = o18 := flh7e.trans o18e.symm
    refine r_if_ne hX hP rfl (tgt := 9) rfl (by first | decide | omega) (by first | decide | omega) (fun c19 => ?_) (fun c19 => ?_)
    · skip
      refine r_ex hX hP 1 (pc' := 10) (st' := [(2, this)]) (lo' := [(0, (2, this))]) rfl ?_
      refine r_callV gd hX hP rfl cv_X6_119_131 hS (d' := 5) (mc' := 0) (ms' := 0) (as' := []) (st := []) (by first | decide | omega) (by first | decide | omega) (by first | decide | omega) rfl rfl (Nat.le_of_ble_eq_true rfl) (c_X6_clauseWordR E S (hw [(131, 1), (131, 2)] G G5) this  hS tx tx_e tx_s TT nn (pEx TT nn 1 sr) f8) ?_
      rintro _ _ _ ⟨rfl, rfl, z20, rfl, z20a, z20b, f21, f22⟩
      refine r_ex hX hP 3 (pc' := 16) (st' := [(0, z20), (2, this)]) (lo' := [(0, (2, this)), (1, (0, z20))]) rfl ?_
      refine r_peekI hX (tl_131 11 rfl (by decide)) hS (fun dep23 dep23e dep23a dep23b => ?_)
      have k24 := rq_dp f22
      have k24 := dep23e.trans k24
      refine r_callV gd hX hP rfl cv_X6_122_131 hS (d' := 2) (mc' := 0) (ms' := 0) (as' := [(0, z20)]) (st := []) (by first | decide | omega) (by first | decide | omega) (by first | decide | omega) rfl rfl (Nat.le_of_ble_eq_true rfl) (c_X6_wordFaultR E S (hw [(131, 1), (131, 2)] G G5) this z20 hS tx tx_e tx_s td td_e dep23 dep23e (by first | decide | omega) (by first | decide | omega) TT nn (pEx TT nn 1 sr) f22) ?_
      rintro _ _ _ ⟨rfl, rfl, z25, rfl, z25a, z25b, f26, f27, f28⟩
      refine r_ex hX hP 2 (pc' := 21) (st' := [(0, z25)]) (lo' := [(0, (2, this)), (1, (0, z20)), (2, (0, z25))]) rfl ?_
      refine r_if_eq hX hP rfl (tgt := 31) rfl (by first | decide | omega) (by first | decide | omega) (fun c29 => ?_) (fun c29 => ?_)
      · skip
        refine r_ex hX hP 2 (pc' := 33) (st' := [(2, this), (2, this)]) (lo' := [(0, (2, this)), (1, (0, z20)), (2, (0, z25))]) rfl ?_
        refine r_getKI hX hP rfl fl_X6_70_131 hS (x := td) td_e ?_
        refine r_ex hX hP 2 (pc' := 38) (st' := [(0, (td + 1)), (2, this)]) (lo' := [(0, (2, this)), (1, (0, z20)), (2, (0, z25))]) rfl ?_
        refine r_putIK hX hP rfl fp_X6_70_131 hS (by first | decide | omega) (by first | decide | omega) (fun h30 => ?_)
        have rd31 : RdC TT nn (ud (pEx TT nn 1 sr) 3 (sr 3 + 1)) (up (hw [(131, 1), (131, 2)] G G5) 131 this 10 (td + 1)) this tx := rd_mk (rq_tape f28 : _) (rq_end f28 : _) (rq_text f28 : _) (rq_tok f28 : _) (rq_start f28 : _) (rq_at f28 : _) (rq_val f28 : _) (rq_flaw f28 : _) (rq_place f28 : _) (h30.symm.trans (show (td + 1) = sr 3 + 1 from by omega)) (rq_cc f28 : _) (rq_fb f28 : _) (rq_ti f28 : _) (rq_to f28 : _) (rq_dp f28 : _) (rq_size f28 : _) (rq_o0 f28 : _) (rq_o1 f28 : _) (rq_o2 f28 : _) (rq_a0 f28 : _) (rq_a1 f28 : _) (rq_a2 f28 : _) (rq_b0 f28 : _) (rq_b1 f28 : _) (rq_b2 f28 : _) (rq_m0 f28 : _) (rq_m1 f28 : _) (rq_m2 f28 : _) (rq_ne1 f28 : _) (rq_ne2 f28 : _) (rq_p0 f28 : _) (rq_p1 f28 : _) (rq_n4 f28 : _)
        refine r_ex hX hP 1 (pc' := 42) (st' := [(2, this)]) (lo' := [(0, (2, this)), (1, (0, z20)), (2, (0, z25))]) rfl ?_
        refine r_callV gd hX hP rfl cv_X6_80_131 hS (d' := 1) (mc' := 0) (ms' := 0) (as' := []) (st := []) (by first | decide | omega) (by first | decide | omega) (by first | decide | omega) rfl rfl (Nat.le_of_ble_eq_true rfl) (c_X6_advanceR E S (up (hw [(131, 1), (131, 2)] G G5) 131 this 10 (td + 1)) this  hS tx tx_e tx_s TT nn (ud (pEx TT nn 1 sr) 3 (sr 3 + 1)) rd31) ?_
        rintro _ _ _ ⟨rfl, ⟨G32, rfl⟩, rfl, f33⟩
        have k34 := (show pAv TT nn (ud (pEx TT nn 1 sr) 3 (sr 3 + 1)) 1 = (ud (pEx TT nn 1 sr) 3 (sr 3 + 1)) 1 from rfl)
        refine r_ex hX hP 1 (pc' := 46) (st' := [(0, z20)]) (lo' := [(0, (2, this)), (1, (0, z20)), (2, (0, z25))]) rfl ?_
        rcases (by omega : z20 < 4 ∨ 9 < z20 ∨ z20 = 4 ∨ z20 = 5 ∨ z20 = 6 ∨ z20 = 7 ∨ z20 = 8 ∨ z20 = 9) with cT | cT | cT | cT | cT | cT | cT | cT
        · skip
          refine r_tsOut hX hP rfl (tgt := 126) (by first | decide | omega) (by first | decide | omega) (by first | decide | omega) rfl ?_
          refine r_ex hX hP 2 (pc' := 128) (st' := [(0, z20), (2, this)]) (lo' := [(0, (2, this)), (1, (0, z20)), (2, (0, z25))]) rfl ?_
          have ci35 : CI E S (hw [(131, 5), (131, 6), (131, 7), (131, 8)] (up (hw [(131, 1), (131, 2)] G G5) 131 this 10 (td + 1)) G32) := (ci_hw (ci_up (ci_hw ci rfl) rfl) rfl)
          refine r_callV gd hX hP rfl cv_X6_144_131 hS (d' := 6) (mc' := 0) (ms' := 0) (as' := [(0, z20)]) (st := []) (by first | decide | omega) (by first | decide | omega) (by first | decide | omega) rfl rfl (Nat.le_of_ble_eq_true rfl) (c_X6_ratioR E S (hw [(131, 5), (131, 6), (131, 7), (131, 8)] (up (hw [(131, 1), (131, 2)] G G5) 131 this 10 (td + 1)) G32) this z20 hS tx tx_e tx_s s0 s0_e (td + 1) h30 (by first | decide | omega) (by first | decide | omega) (by first | decide | omega) ci35 TT nn (pAv TT nn (ud (pEx TT nn 1 sr) 3 (sr 3 + 1))) f33) ?_
          rintro _ _ _ ⟨rfl, ⟨G36, rfl⟩, rfl, sih37, sih37e, f38, ci39, f40⟩
          have k41 := rq_size f40
          have k41 := sih37e.trans k41
          refine r_peekI hX (tl_136 0 rfl (by decide)) tx_s (fun o42 o42e o42a o42b => ?_)
          obtain rfl : sih37 = o42 := sih37e.trans o42e.symm
          have hC43 : pRt TT nn z20 (pAv TT nn (ud (pEx TT nn 1 sr) 3 (sr 3 + 1))) = pCl TT nn sr := by
            unfold pCl; rw [show pCw TT nn (pEx TT nn 1 sr 0) = z20 from by omega]; rw [show pWf z20 (pEx TT nn 1 sr) = z25 from by omega]; (try unfold pKi); (repeat (first | rw [if_pos (by first | decide | omega)] | rw [if_neg (by first | decide | omega)])); try rfl
          have hC431 : (pCl TT nn sr) 1 = (pRt TT nn z20 (pAv TT nn (ud (pEx TT nn 1 sr) 3 (sr 3 + 1)))) 1 := congrFun hC43.symm 1
          exact r_retV hX hP rfl rfl (by first | decide | omega) (by first | decide | omega) ⟨rfl, ⟨_, (hw_sub (hw_sub (hw_up (hw_sub (hw_refl _ _) rfl) rfl) rfl) rfl).symm⟩, rfl, sih37, sih37e, (td + 1), h30, (by first | decide | omega), ci39, (rd_cast f40 hC43), (fun a h => ⟨rfl, rfl⟩)⟩
        · skip
          exfalso; omega
        · skip
          refine r_tsIn hX hP rfl (tgt := 84) (off := 38) (by first | decide | omega) (by first | decide | omega) (by first | decide | omega) (by first | decide | omega) (by rw [cT]; rfl) rfl ?_
          refine r_ex hX hP 1 (pc' := 85) (st' := [(2, this)]) (lo' := [(0, (2, this)), (1, (0, z20)), (2, (0, z25))]) rfl ?_
          have ci44 : CI E S (hw [(131, 5), (131, 6), (131, 7), (131, 8)] (up (hw [(131, 1), (131, 2)] G G5) 131 this 10 (td + 1)) G32) := (ci_hw (ci_up (ci_hw ci rfl) rfl) rfl)
          refine r_callV gd hX hP rfl cv_X6_126_131 hS (d' := 6) (mc' := 0) (ms' := 0) (as' := []) (st := []) (by first | decide | omega) (by first | decide | omega) (by first | decide | omega) rfl rfl (Nat.le_of_ble_eq_true rfl) (c_X6_moveWorthR E S (hw [(131, 5), (131, 6), (131, 7), (131, 8)] (up (hw [(131, 1), (131, 2)] G G5) 131 this 10 (td + 1)) G32) this  hS tx tx_e tx_s s0 s0_e (td + 1) h30 (by first | decide | omega) ci44 TT nn (pAv TT nn (ud (pEx TT nn 1 sr) 3 (sr 3 + 1))) f33) ?_
          rintro _ _ _ ⟨rfl, ⟨G45, rfl⟩, rfl, sih46, sih46e, f47, ci48, f49⟩
          have k50 := rq_size f49
          have k50 := sih46e.trans k50
          refine r_peekI hX (tl_136 0 rfl (by decide)) tx_s (fun o51 o51e o51a o51b => ?_)
          obtain rfl : sih46 = o51 := sih46e.trans o51e.symm
          refine r_ex hX hP 1 (pc' := 131) (st' := []) (lo' := [(0, (2, this)), (1, (0, z20)), (2, (0, z25))]) rfl ?_
          have hC52 : pWo TT nn (pAv TT nn (ud (pEx TT nn 1 sr) 3 (sr 3 + 1))) = pCl TT nn sr := by
            unfold pCl; rw [show pCw TT nn (pEx TT nn 1 sr 0) = z20 from by omega]; rw [show pWf z20 (pEx TT nn 1 sr) = z25 from by omega]; (try unfold pKi); (repeat (first | rw [if_pos (by first | decide | omega)] | rw [if_neg (by first | decide | omega)])); try rfl
          have hC521 : (pCl TT nn sr) 1 = (pWo TT nn (pAv TT nn (ud (pEx TT nn 1 sr) 3 (sr 3 + 1)))) 1 := congrFun hC52.symm 1
          exact r_retV hX hP rfl rfl (by first | decide | omega) (by first | decide | omega) ⟨rfl, ⟨_, (hw_sub (hw_sub (hw_up (hw_sub (hw_refl _ _) rfl) rfl) rfl) rfl).symm⟩, rfl, sih46, sih46e, (td + 1), h30, (by first | decide | omega), ci48, (rd_cast f49 hC52), (fun a h => ⟨rfl, rfl⟩)⟩
        · skip
          refine r_tsIn hX hP rfl (tgt := 91) (off := 45) (by first | decide | omega) (by first | decide | omega) (by first | decide | omega) (by first | decide | omega) (by rw [cT]; rfl) rfl ?_
          refine r_ex hX hP 1 (pc' := 92) (st' := [(2, this)]) (lo' := [(0, (2, this)), (1, (0, z20)), (2, (0, z25))]) rfl ?_
          have ci53 : CI E S (hw [(131, 5), (131, 6), (131, 7), (131, 8)] (up (hw [(131, 1), (131, 2)] G G5) 131 this 10 (td + 1)) G32) := (ci_hw (ci_up (ci_hw ci rfl) rfl) rfl)
          refine r_callV gd hX hP rfl cv_X6_129_131 hS (d' := 5) (mc' := 0) (ms' := 0) (as' := []) (st := []) (by first | decide | omega) (by first | decide | omega) (by first | decide | omega) rfl rfl (Nat.le_of_ble_eq_true rfl) (c_X6_fractionR E S (hw [(131, 5), (131, 6), (131, 7), (131, 8)] (up (hw [(131, 1), (131, 2)] G G5) 131 this 10 (td + 1)) G32) this  hS tx tx_e tx_s s0 s0_e (td + 1) h30 (by first | decide | omega) ci53 TT nn (pAv TT nn (ud (pEx TT nn 1 sr) 3 (sr 3 + 1))) f33) ?_
          rintro _ _ _ ⟨rfl, ⟨G54, rfl⟩, rfl, sih55, sih55e, f56, ci57, f58⟩
          have k59 := rq_size f58
          have k59 := sih55e.trans k59
          refine r_peekI hX (tl_136 0 rfl (by decide)) tx_s (fun o60 o60e o60a o60b => ?_)
          obtain rfl : sih55 = o60 := sih55e.trans o60e.symm
          refine r_ex hX hP 1 (pc' := 131) (st' := []) (lo' := [(0, (2, this)), (1, (0, z20)), (2, (0, z25))]) rfl ?_
          have hC61 : pFr TT nn (pAv TT nn (ud (pEx TT nn 1 sr) 3 (sr 3 + 1))) = pCl TT nn sr := by
            unfold pCl; rw [show pCw TT nn (pEx TT nn 1 sr 0) = z20 from by omega]; rw [show pWf z20 (pEx TT nn 1 sr) = z25 from by omega]; (try unfold pKi); (repeat (first | rw [if_pos (by first | decide | omega)] | rw [if_neg (by first | decide | omega)])); try rfl
          have hC611 : (pCl TT nn sr) 1 = (pFr TT nn (pAv TT nn (ud (pEx TT nn 1 sr) 3 (sr 3 + 1)))) 1 := congrFun hC61.symm 1
          exact r_retV hX hP rfl rfl (by first | decide | omega) (by first | decide | omega) ⟨rfl, ⟨_, (hw_sub (hw_sub (hw_up (hw_sub (hw_refl _ _) rfl) rfl) rfl) rfl).symm⟩, rfl, sih55, sih55e, (td + 1), h30, (by first | decide | omega), ci57, (rd_cast f58 hC61), (fun a h => ⟨rfl, rfl⟩)⟩
        · skip
          refine r_tsIn hX hP rfl (tgt := 98) (off := 52) (by first | decide | omega) (by first | decide | omega) (by first | decide | omega) (by first | decide | omega) (by rw [cT]; rfl) rfl ?_
          refine r_ex hX hP 1 (pc' := 99) (st' := [(2, this)]) (lo' := [(0, (2, this)), (1, (0, z20)), (2, (0, z25))]) rfl ?_
          have ci62 : CI E S (hw [(131, 5), (131, 6), (131, 7), (131, 8)] (up (hw [(131, 1), (131, 2)] G G5) 131 this 10 (td + 1)) G32) := (ci_hw (ci_up (ci_hw ci rfl) rfl) rfl)
          refine r_callV gd hX hP rfl cv_X6_132_131 hS (d' := 6) (mc' := 0) (ms' := 0) (as' := []) (st := []) (by first | decide | omega) (by first | decide | omega) (by first | decide | omega) rfl rfl (Nat.le_of_ble_eq_true rfl) (c_X6_whenR E S (hw [(131, 5), (131, 6), (131, 7), (131, 8)] (up (hw [(131, 1), (131, 2)] G G5) 131 this 10 (td + 1)) G32) this  hS tx tx_e tx_s s0 s0_e (td + 1) h30 (by first | decide | omega) ci62 TT nn (pAv TT nn (ud (pEx TT nn 1 sr) 3 (sr 3 + 1))) f33) ?_
          rintro _ _ _ ⟨rfl, ⟨G63, rfl⟩, rfl, sih64, sih64e, f65, ci66, f67⟩
          have k68 := rq_size f67
          have k68 := sih64e.trans k68
          refine r_peekI hX (tl_136 0 rfl (by decide)) tx_s (fun o69 o69e o69a o69b => ?_)
          obtain rfl : sih64 = o69 := sih64e.trans o69e.symm
          refine r_ex hX hP 1 (pc' := 131) (st' := []) (lo' := [(0, (2, this)), (1, (0, z20)), (2, (0, z25))]) rfl ?_
          have hC70 : pWh TT nn (pAv TT nn (ud (pEx TT nn 1 sr) 3 (sr 3 + 1))) = pCl TT nn sr := by
            unfold pCl; rw [show pCw TT nn (pEx TT nn 1 sr 0) = z20 from by omega]; rw [show pWf z20 (pEx TT nn 1 sr) = z25 from by omega]; (try unfold pKi); (repeat (first | rw [if_pos (by first | decide | omega)] | rw [if_neg (by first | decide | omega)])); try rfl
          have hC701 : (pCl TT nn sr) 1 = (pWh TT nn (pAv TT nn (ud (pEx TT nn 1 sr) 3 (sr 3 + 1)))) 1 := congrFun hC70.symm 1
          exact r_retV hX hP rfl rfl (by first | decide | omega) (by first | decide | omega) ⟨rfl, ⟨_, (hw_sub (hw_sub (hw_up (hw_sub (hw_refl _ _) rfl) rfl) rfl) rfl).symm⟩, rfl, sih64, sih64e, (td + 1), h30, (by first | decide | omega), ci66, (rd_cast f67 hC70), (fun a h => ⟨rfl, rfl⟩)⟩
        · skip
          refine r_tsIn hX hP rfl (tgt := 105) (off := 59) (by first | decide | omega) (by first | decide | omega) (by first | decide | omega) (by first | decide | omega) (by rw [cT]; rfl) rfl ?_
          refine r_ex hX hP 1 (pc' := 106) (st' := [(2, this)]) (lo' := [(0, (2, this)), (1, (0, z20)), (2, (0, z25))]) rfl ?_
          refine r_callV gd hX hP rfl cv_X6_135_131 hS (d' := 4) (mc' := 0) (ms' := 0) (as' := []) (st := []) (by first | decide | omega) (by first | decide | omega) (by first | decide | omega) rfl rfl (Nat.le_of_ble_eq_true rfl) (c_X6_choiceR E S (hw [(131, 5), (131, 6), (131, 7), (131, 8)] (up (hw [(131, 1), (131, 2)] G G5) 131 this 10 (td + 1)) G32) this  hS tx tx_e tx_s TT nn (pAv TT nn (ud (pEx TT nn 1 sr) 3 (sr 3 + 1))) f33) ?_
          rintro _ _ _ ⟨rfl, ⟨G71, rfl⟩, rfl, f72, f73⟩
          refine r_ex hX hP 1 (pc' := 131) (st' := []) (lo' := [(0, (2, this)), (1, (0, z20)), (2, (0, z25))]) rfl ?_
          have hC74 : pCh TT nn (pAv TT nn (ud (pEx TT nn 1 sr) 3 (sr 3 + 1))) = pCl TT nn sr := by
            unfold pCl; rw [show pCw TT nn (pEx TT nn 1 sr 0) = z20 from by omega]; rw [show pWf z20 (pEx TT nn 1 sr) = z25 from by omega]; (try unfold pKi); (repeat (first | rw [if_pos (by first | decide | omega)] | rw [if_neg (by first | decide | omega)])); try rfl
          have hC741 : (pCl TT nn sr) 1 = (pCh TT nn (pAv TT nn (ud (pEx TT nn 1 sr) 3 (sr 3 + 1)))) 1 := congrFun hC74.symm 1
          have ci75 : CI E S (hw [(106, -1), (107, -1), (131, 1), (131, 2), (131, 5), (131, 6), (131, 7), (131, 8), (131, 11), (136, 1)] (hw [(131, 5), (131, 6), (131, 7), (131, 8)] (up (hw [(131, 1), (131, 2)] G G5) 131 this 10 (td + 1)) G32) G71) := (ci_hw (ci_hw (ci_up (ci_hw ci rfl) rfl) rfl) rfl)
          exact r_retV hX hP rfl rfl (by first | decide | omega) (by first | decide | omega) ⟨rfl, ⟨_, (hw_sub (hw_sub (hw_up (hw_sub (hw_refl _ _) rfl) rfl) rfl) rfl).symm⟩, rfl, s0, s0_e, (td + 1), h30, (by first | decide | omega), ci75, (rd_cast f72 hC74), f73⟩
        · skip
          refine r_tsIn hX hP rfl (tgt := 112) (off := 66) (by first | decide | omega) (by first | decide | omega) (by first | decide | omega) (by first | decide | omega) (by rw [cT]; rfl) rfl ?_
          refine r_ex hX hP 1 (pc' := 113) (st' := [(2, this)]) (lo' := [(0, (2, this)), (1, (0, z20)), (2, (0, z25))]) rfl ?_
          refine r_callV gd hX hP rfl cv_X6_138_131 hS (d' := 3) (mc' := 0) (ms' := 0) (as' := []) (st := []) (by first | decide | omega) (by first | decide | omega) (by first | decide | omega) rfl rfl (Nat.le_of_ble_eq_true rfl) (c_X6_fallbackR E S (hw [(131, 5), (131, 6), (131, 7), (131, 8)] (up (hw [(131, 1), (131, 2)] G G5) 131 this 10 (td + 1)) G32) this  hS tx tx_e tx_s TT nn (pAv TT nn (ud (pEx TT nn 1 sr) 3 (sr 3 + 1))) f33) ?_
          rintro _ _ _ ⟨rfl, ⟨G76, rfl⟩, rfl, f77, f78⟩
          refine r_ex hX hP 1 (pc' := 131) (st' := []) (lo' := [(0, (2, this)), (1, (0, z20)), (2, (0, z25))]) rfl ?_
          have hC79 : pFa TT nn (pAv TT nn (ud (pEx TT nn 1 sr) 3 (sr 3 + 1))) = pCl TT nn sr := by
            unfold pCl; rw [show pCw TT nn (pEx TT nn 1 sr 0) = z20 from by omega]; rw [show pWf z20 (pEx TT nn 1 sr) = z25 from by omega]; (try unfold pKi); (repeat (first | rw [if_pos (by first | decide | omega)] | rw [if_neg (by first | decide | omega)])); try rfl
          have hC791 : (pCl TT nn sr) 1 = (pFa TT nn (pAv TT nn (ud (pEx TT nn 1 sr) 3 (sr 3 + 1)))) 1 := congrFun hC79.symm 1
          have ci80 : CI E S (hw [(131, 1), (131, 2), (131, 5), (131, 6), (131, 7), (131, 8), (136, 2)] (hw [(131, 5), (131, 6), (131, 7), (131, 8)] (up (hw [(131, 1), (131, 2)] G G5) 131 this 10 (td + 1)) G32) G76) := (ci_hw (ci_hw (ci_up (ci_hw ci rfl) rfl) rfl) rfl)
          exact r_retV hX hP rfl rfl (by first | decide | omega) (by first | decide | omega) ⟨rfl, ⟨_, (hw_sub (hw_sub (hw_up (hw_sub (hw_refl _ _) rfl) rfl) rfl) rfl).symm⟩, rfl, s0, s0_e, (td + 1), h30, (by first | decide | omega), ci80, (rd_cast f77 hC79), f78⟩
        · skip
          refine r_tsIn hX hP rfl (tgt := 119) (off := 73) (by first | decide | omega) (by first | decide | omega) (by first | decide | omega) (by first | decide | omega) (by rw [cT]; rfl) rfl ?_
          refine r_ex hX hP 1 (pc' := 120) (st' := [(2, this)]) (lo' := [(0, (2, this)), (1, (0, z20)), (2, (0, z25))]) rfl ?_
          refine r_callV gd hX hP rfl cv_X6_141_131 hS (d' := 6) (mc' := 0) (ms' := 0) (as' := []) (st := []) (by first | decide | omega) (by first | decide | omega) (by first | decide | omega) rfl rfl (Nat.le_of_ble_eq_true rfl) (c_X6_mostR E S (hw [(131, 5), (131, 6), (131, 7), (131, 8)] (up (hw [(131, 1), (131, 2)] G G5) 131 this 10 (td + 1)) G32) this  hS tx tx_e tx_s TT nn (pAv TT nn (ud (pEx TT nn 1 sr) 3 (sr 3 + 1))) f33) ?_
          rintro _ _ _ ⟨rfl, ⟨G81, rfl⟩, rfl, f82⟩
          refine r_ex hX hP 1 (pc' := 131) (st' := []) (lo' := [(0, (2, this)), (1, (0, z20)), (2, (0, z25))]) rfl ?_
          have hC83 : pMs TT nn (pAv TT nn (ud (pEx TT nn 1 sr) 3 (sr 3 + 1))) = pCl TT nn sr := by
            unfold pCl; rw [show pCw TT nn (pEx TT nn 1 sr 0) = z20 from by omega]; rw [show pWf z20 (pEx TT nn 1 sr) = z25 from by omega]; (try unfold pKi); (repeat (first | rw [if_pos (by first | decide | omega)] | rw [if_neg (by first | decide | omega)])); try rfl
          have hC831 : (pCl TT nn sr) 1 = (pMs TT nn (pAv TT nn (ud (pEx TT nn 1 sr) 3 (sr 3 + 1)))) 1 := congrFun hC83.symm 1
          have ci84 : CI E S (hw [(124, -1), (131, 1), (131, 2), (131, 5), (131, 6), (131, 7), (131, 8)] (hw [(131, 5), (131, 6), (131, 7), (131, 8)] (up (hw [(131, 1), (131, 2)] G G5) 131 this 10 (td + 1)) G32) G81) := (ci_hw (ci_hw (ci_up (ci_hw ci rfl) rfl) rfl) rfl)
          exact r_retV hX hP rfl rfl (by first | decide | omega) (by first | decide | omega) ⟨rfl, ⟨_, (hw_sub (hw_sub (hw_up (hw_sub (hw_refl _ _) rfl) rfl) rfl) rfl).symm⟩, rfl, s0, s0_e, (td + 1), h30, (by first | decide | omega), ci84, (rd_cast f82 hC83), (fun a h => ⟨rfl, rfl⟩)⟩
      · skip
        refine r_ex hX hP 2 (pc' := 26) (st' := [(0, z25), (2, this)]) (lo' := [(0, (2, this)), (1, (0, z20)), (2, (0, z25))]) rfl ?_
        refine r_callV gd hX hP rfl cv_X6_44_131 hS (d' := 0) (mc' := 0) (ms' := 0) (as' := [(0, z25)]) (st := []) (by first | decide | omega) (by first | decide | omega) (by first | decide | omega) rfl rfl (Nat.le_of_ble_eq_true rfl) (c_X6_failR E S (hw [(131, 1), (131, 2)] G G5) this z25 hS tx tx_e tx_s (by first | decide | omega) (by first | decide | omega) TT nn (pEx TT nn 1 sr) f28) ?_
        rintro _ _ _ ⟨rfl, ⟨G85, rfl⟩, z86, rfl, flh87, flh87e, rfl, f88, f89⟩
        have k90 := rq_flaw f89
        have k90 := flh87e.trans k90
        refine r_peekI hX (tl_131 1 rfl (by decide)) hS (fun o91 o91e o91a o91b => ?_)
        obtain rfl : flh87 = o91 := flh87e.trans o91e.symm
        refine r_ex hX hP 1 (pc' := 30) (st' := []) (lo' := [(0, (2, this)), (1, (0, z20)), (2, (0, z25))]) rfl ?_
        have hC92 : pFl TT nn z25 (pEx TT nn 1 sr) = pCl TT nn sr := by
          unfold pCl; rw [show pCw TT nn (pEx TT nn 1 sr 0) = z20 from by omega]; rw [show pWf z20 (pEx TT nn 1 sr) = z25 from by omega]; (try unfold pKi); (repeat (first | rw [if_pos (by first | decide | omega)] | rw [if_neg (by first | decide | omega)])); try rfl
        have hC921 : (pCl TT nn sr) 1 = (pFl TT nn z25 (pEx TT nn 1 sr)) 1 := congrFun hC92.symm 1
        have ci93 : CI E S (hw [(131, 1), (131, 2)] (hw [(131, 1), (131, 2)] G G5) G85) := (ci_hw (ci_hw ci rfl) rfl)
        exact r_retV hX hP rfl rfl (by first | decide | omega) (by first | decide | omega) ⟨rfl, ⟨_, (hw_sub (hw_sub (hw_refl _ _) rfl) rfl).symm⟩, rfl, s0, s0_e, td, td_e, (by first | decide | omega), ci93, (rd_cast f89 hC92), (fun a h => ⟨rfl, rfl⟩)⟩
    · skip
      exfalso; omega
  · skip
    have k94 := congrArg (tkK TT nn) (pEx_0 TT nn 1 sr)
    have k95 := congrArg (tkV TT nn) (pEx_0 TT nn 1 sr)
    have k96 := congrArg (tkS TT nn) (pEx_0 TT nn 1 sr)
    have k97 := congrArg (tkE TT nn) (pEx_0 TT nn 1 sr)
    have k98 := rq_flaw f8
    have k98 := flh7e.trans k98
    refine r_peekI hX (tl_131 1 rfl (by decide)) hS (fun o99 o99e o99a o99b => ?_)
    obtain rfl : flh7 = o99 := flh7e.trans o99e.symm
    refine r_if_ne hX hP rfl (tgt := 9) rfl (by first | decide | omega) (by first | decide | omega) (fun c100 => ?_) (fun c100 => ?_)
    · skip
      exfalso; omega
    · skip
      have hC101 : pEx TT nn 1 sr = pCl TT nn sr := by
        unfold pCl; (try unfold pKi); (repeat (first | rw [if_pos (by first | decide | omega)] | rw [if_neg (by first | decide | omega)])); try rfl
      have hC1011 : (pCl TT nn sr) 1 = (pEx TT nn 1 sr) 1 := congrFun hC101.symm 1
      have ci102 : CI E S (hw [(131, 1), (131, 2)] G G5) := (ci_hw ci rfl)
      exact r_retV hX hP rfl rfl (by first | decide | omega) (by first | decide | omega) ⟨rfl, ⟨_, (hw_sub (hw_refl _ _) rfl).symm⟩, rfl, s0, s0_e, td, td_e, (by first | decide | omega), ci102, (rd_cast f8 hC101), (fun a h => ⟨rfl, rfl⟩)⟩

