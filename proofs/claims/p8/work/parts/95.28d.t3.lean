set_option maxRecDepth 100000 in
set_option maxHeartbeats 4000000 in
theorem c_X6_ratioR (E : En) (S : Sg) (G : Gh) (this : Int) (what : Int) (hS : S this = 131) (tx : Int) (tx_e : tx = G 131 this 9) (tx_s : S tx = 136) (s0 : Int) (s0_e : s0 = G 136 tx 0) (td : Int) (td_e : td = G 131 this 10) (what_a : 0 ≤ what) (what_b : what ≤ 3) (pre0 : s0 + 1 ≤ td) (ci : CI E S G) (TT : Tp) (nn : Int) (sr : Rg) (rd : RdC TT nn sr G this tx) : Calls E mX6_ratio [(2, this), (0, what)] S G 6 0 0 (fun r S' G' => S = S' ∧ (∃ G1, hw [(119, -1), (120, -1), (121, -1), (122, -1), (123, -1), (131, 1), (131, 2), (131, 5), (131, 6), (131, 7), (131, 8), (131, 13), (131, 14), (136, 0)] G G1 = G') ∧ r = none ∧ ∃ s1 : Int, s1 = G' 136 tx 0 ∧ s1 ≤ s0 + 1 ∧ CI E S G' ∧ RdC TT nn (pRt TT nn what sr) G' this tx) := by
  refine calls_by [(0, (2, this)), (1, (0, what))] rfl rfl (Nat.le_of_ble_eq_true rfl) (fun X hX => ?_)
  have hP := hPX6_ratio
  refine r_peekI hX (tl_136 0 rfl (by decide)) tx_s (fun s0_o s0_oe s0_oa s0_ob => ?_)
  obtain rfl : s0 = s0_o := s0_e.trans s0_oe.symm
  refine r_peekI hX (tl_131 10 rfl (by decide)) hS (fun td_o td_oe td_oa td_ob => ?_)
  obtain rfl : td = td_o := td_e.trans td_oe.symm
  have k1 := s0_e.trans (rq_size rd)
  have k2 := td_e.trans (rq_told rd)
  have j85 : ∀ (l2_j85 l3_j85 l4_j85 l5_j85 : Int) (Gj85 : Gh), 0 ≤ l2_j85 → l2_j85 ≤ 1 → (-2147483648) ≤ l3_j85 → l3_j85 ≤ 2147483647 → (-2147483648) ≤ l4_j85 → l4_j85 ≤ 2147483647 → (-2147483648) ≤ l5_j85 → l5_j85 ≤ 2147483647 → (what ≠ 0 ∨ (qRt TT nn what sr) 1 ≠ 0 ∨ (0 ≤ l4_j85 ∧ l4_j85 ≤ 19)) → RdC TT nn (qRt TT nn what sr) (hw [(131, 1), (131, 2), (131, 5), (131, 6), (131, 7), (131, 8)] G Gj85) this tx → X 0 0 85 [] [(0, (2, this)), (1, (0, what)), (2, (0, l2_j85)), (3, (0, l3_j85)), (4, (0, l4_j85)), (5, (0, l5_j85))] S (hw [(131, 1), (131, 2), (131, 5), (131, 6), (131, 7), (131, 8)] G Gj85) := by
    intro l2_j85 l3_j85 l4_j85 l5_j85 Gj85 yj85_0 yj85_1 yj85_2 yj85_3 yj85_4 yj85_5 yj85_6 yj85_7 yj85_8 yj85_9
    refine r_ex hX hP 2 (pc' := 88) (st' := [(0, 59), (2, this)]) (lo' := [(0, (2, this)), (1, (0, what)), (2, (0, l2_j85)), (3, (0, l3_j85)), (4, (0, l4_j85)), (5, (0, l5_j85))]) rfl ?_
    refine r_peekI hX (tl_131 1 rfl (by decide)) hS (fun flp3 flp3e flp3a flp3b => ?_)
    have k4 := rq_flaw yj85_9
    have k4 := flp3e.trans k4
    refine r_callV gd hX hP rfl cv_X6_116_131 hS (d' := 2) (mc' := 0) (ms' := 0) (as' := [(0, 59)]) (st := []) (by first | decide | omega) (by first | decide | omega) (by first | decide | omega) rfl rfl (Nat.le_of_ble_eq_true rfl) (c_X6_signR E S (hw [(131, 1), (131, 2), (131, 5), (131, 6), (131, 7), (131, 8)] G Gj85) this 59 hS tx tx_e tx_s flp3 flp3e (by first | decide | omega) (by first | decide | omega) TT nn (qRt TT nn what sr) yj85_9) ?_
    rintro _ _ _ ⟨rfl, ⟨G5, rfl⟩, z6, rfl, flh7, flh7e, z6a, z6b, f8, f9, f10⟩
    have k11 := pSg_1 TT nn 59 (qRt TT nn what sr)
    have k12 := rq_flaw f10
    have k12 := flh7e.trans k12
    refine r_peekI hX (tl_131 1 rfl (by decide)) hS (fun o13 o13e o13a o13b => ?_)
    obtain rfl : flh7 = o13 := flh7e.trans o13e.symm
    refine r_ex hX hP 6 (pc' := 99) (st' := [(0, l5_j85), (0, l4_j85), (0, l3_j85), (0, what), (2, this)]) (lo' := [(0, (2, this)), (1, (0, what)), (2, (0, l2_j85)), (3, (0, l3_j85)), (4, (0, l4_j85)), (5, (0, l5_j85))]) rfl ?_
    have ci14 : CI E S (hw [(131, 1), (131, 2), (131, 5), (131, 6), (131, 7), (131, 8)] (hw [(131, 1), (131, 2), (131, 5), (131, 6), (131, 7), (131, 8)] G Gj85) G5) := (ci_hw (ci_hw ci rfl) rfl)
    refine r_callV gd hX hP rfl cv_X6_206_131 hS (d' := 1) (mc' := 0) (ms' := 0) (as' := [(0, what), (0, l3_j85), (0, l4_j85), (0, l5_j85)]) (st := []) (by first | decide | omega) (by first | decide | omega) (by first | decide | omega) rfl rfl (Nat.le_of_ble_eq_true rfl) (c_X6_storeR E S (hw [(131, 1), (131, 2), (131, 5), (131, 6), (131, 7), (131, 8)] (hw [(131, 1), (131, 2), (131, 5), (131, 6), (131, 7), (131, 8)] G Gj85) G5) this what l3_j85 l4_j85 l5_j85 hS tx tx_e tx_s s0 s0_e flh7 flh7e (by first | decide | omega) (by first | decide | omega) (by first | decide | omega) (by first | decide | omega) (by first | decide | omega) (by first | decide | omega) (by first | decide | omega) (by first | decide | omega) (by first | decide | omega) ci14 TT nn (pSg TT nn 59 (qRt TT nn what sr)) f10) ?_
    rintro _ _ _ ⟨rfl, ⟨G15, rfl⟩, rfl, sih16, sih16e, f17, ci18, f19⟩
    have k20 := rq_size f19
    have k20 := sih16e.trans k20
    refine r_peekI hX (tl_136 0 rfl (by decide)) tx_s (fun o21 o21e o21a o21b => ?_)
    obtain rfl : sih16 = o21 := sih16e.trans o21e.symm
    refine r_ex hX hP 1 (pc' := 103) (st' := [(2, this)]) (lo' := [(0, (2, this)), (1, (0, what)), (2, (0, l2_j85)), (3, (0, l3_j85)), (4, (0, l4_j85)), (5, (0, l5_j85))]) rfl ?_
    refine r_callV gd hX hP rfl cv_X6_168_131 hS (d' := 0) (mc' := 0) (ms' := 0) (as' := []) (st := []) (by first | decide | omega) (by first | decide | omega) (by first | decide | omega) rfl rfl (Nat.le_of_ble_eq_true rfl) (c_X6_rowR E S (hw [(119, -1), (120, -1), (121, -1), (122, -1), (123, -1), (136, 0)] (hw [(131, 1), (131, 2), (131, 5), (131, 6), (131, 7), (131, 8)] (hw [(131, 1), (131, 2), (131, 5), (131, 6), (131, 7), (131, 8)] G Gj85) G5) G15) this  hS tx tx_e tx_s TT nn (pSt (pSg TT nn 59 (qRt TT nn what sr))) f19) ?_
    rintro _ _ _ ⟨rfl, rfl, z22, rfl, z22a, z22b, f23, f24⟩
    refine r_ex hX hP 1 (pc' := 107) (st' := [(0, 3), (0, z22)]) (lo' := [(0, (2, this)), (1, (0, what)), (2, (0, l2_j85)), (3, (0, l3_j85)), (4, (0, l4_j85)), (5, (0, l5_j85))]) rfl ?_
    refine r_ic_ne hX hP rfl (tgt := 114) rfl (by first | decide | omega) (by first | decide | omega) (by first | decide | omega) (by first | decide | omega) (fun c25 => ?_) (fun c25 => ?_)
    · skip
      refine r_ex hX hP 4 (pc' := 119) (st' := [(2, this), (2, this)]) (lo' := [(0, (2, this)), (1, (0, what)), (2, (0, l2_j85)), (3, (0, l3_j85)), (4, (0, l4_j85)), (5, (0, l5_j85)), (6, (0, 0))]) rfl ?_
      refine r_getI hX hP rfl fl_X6_77_131 hS (fun tf26 tf26e tf26a tf26b => ?_)
      have k27 := rq_to f24
      have k27 := tf26e.trans k27
      refine r_if_ne hX hP rfl (tgt := 135) rfl (by first | decide | omega) (by first | decide | omega) (fun c28 => ?_) (fun c28 => ?_)
      · skip
        refine r_ex hX hP 2 (pc' := 140) (st' := [(0, 1), (2, this)]) (lo' := [(0, (2, this)), (1, (0, what)), (2, (0, l2_j85)), (3, (0, l3_j85)), (4, (0, l4_j85)), (5, (0, l5_j85)), (6, (0, 0))]) rfl ?_
        refine r_putIK hX hP rfl fp_X6_77_131 hS (by first | decide | omega) (by first | decide | omega) (fun h29 => ?_)
        refine r_ex hX hP 2 (pc' := 145) (st' := [(2, this), (2, this)]) (lo' := [(0, (2, this)), (1, (0, what)), (2, (0, l2_j85)), (3, (0, l3_j85)), (4, (0, l4_j85)), (5, (0, l5_j85)), (6, (0, 0))]) rfl ?_
        refine r_getI hX hP rfl fl_X6_73_131 hS (fun tf30 tf30e tf30a tf30b => ?_)
        have k31 := rq_ti f24
        have k31 := tf30e.trans k31
        refine r_if_ne hX hP rfl (tgt := 161) rfl (by first | decide | omega) (by first | decide | omega) (fun c32 => ?_) (fun c32 => ?_)
        · skip
          refine r_ex hX hP 2 (pc' := 166) (st' := [(0, 1), (2, this)]) (lo' := [(0, (2, this)), (1, (0, what)), (2, (0, l2_j85)), (3, (0, l3_j85)), (4, (0, l4_j85)), (5, (0, l5_j85)), (6, (0, 0))]) rfl ?_
          refine r_putIK hX hP rfl fp_X6_73_131 hS (by first | decide | omega) (by first | decide | omega) (fun h33 => ?_)
          have k34to : (up (up (hw [(119, -1), (120, -1), (121, -1), (122, -1), (123, -1), (136, 0)] (hw [(131, 1), (131, 2), (131, 5), (131, 6), (131, 7), (131, 8)] (hw [(131, 1), (131, 2), (131, 5), (131, 6), (131, 7), (131, 8)] G Gj85) G5) G15) 131 this 14 1) 131 this 13 1) 131 this 14 = (if what = 1 then (if pRw ((pSt (pSg TT nn 59 (qRt TT nn what sr)))) = 3 then 1 else ((pSt (pSg TT nn 59 (qRt TT nn what sr)))) 7) else ((pSt (pSg TT nn 59 (qRt TT nn what sr)))) 7) := by have q : 1 = (up (up (hw [(119, -1), (120, -1), (121, -1), (122, -1), (123, -1), (136, 0)] (hw [(131, 1), (131, 2), (131, 5), (131, 6), (131, 7), (131, 8)] (hw [(131, 1), (131, 2), (131, 5), (131, 6), (131, 7), (131, 8)] G Gj85) G5) G15) 131 this 14 1) 131 this 13 1) 131 this 14 := h29; (repeat' split) <;> omega
          have k34ti : (up (up (hw [(119, -1), (120, -1), (121, -1), (122, -1), (123, -1), (136, 0)] (hw [(131, 1), (131, 2), (131, 5), (131, 6), (131, 7), (131, 8)] (hw [(131, 1), (131, 2), (131, 5), (131, 6), (131, 7), (131, 8)] G Gj85) G5) G15) 131 this 14 1) 131 this 13 1) 131 this 13 = (if what = 1 then (if pRw ((pSt (pSg TT nn 59 (qRt TT nn what sr)))) = 3 then ((pSt (pSg TT nn 59 (qRt TT nn what sr)))) 6 else 1) else ((pSt (pSg TT nn 59 (qRt TT nn what sr)))) 6) := by have q : 1 = (up (up (hw [(119, -1), (120, -1), (121, -1), (122, -1), (123, -1), (136, 0)] (hw [(131, 1), (131, 2), (131, 5), (131, 6), (131, 7), (131, 8)] (hw [(131, 1), (131, 2), (131, 5), (131, 6), (131, 7), (131, 8)] G Gj85) G5) G15) 131 this 14 1) 131 this 13 1) 131 this 13 := h33; (repeat' split) <;> omega
          have rd35 : RdC TT nn (pTk what ((pSt (pSg TT nn 59 (qRt TT nn what sr))))) (up (up (hw [(119, -1), (120, -1), (121, -1), (122, -1), (123, -1), (136, 0)] (hw [(131, 1), (131, 2), (131, 5), (131, 6), (131, 7), (131, 8)] (hw [(131, 1), (131, 2), (131, 5), (131, 6), (131, 7), (131, 8)] G Gj85) G5) G15) 131 this 14 1) 131 this 13 1) this tx := rd_mk (rq_tape f24 : _) (rq_end f24 : _) (rq_text f24 : _) (rq_tok f24 : _) (rq_start f24 : _) (rq_at f24 : _) (rq_val f24 : _) (rq_flaw f24 : _) (rq_place f24 : _) (rq_told f24 : _) (rq_cc f24 : _) (rq_fb f24 : _) k34ti k34to (rq_dp f24 : _) (rq_size f24 : _) (rq_o0 f24 : _) (rq_o1 f24 : _) (rq_o2 f24 : _) (rq_a0 f24 : _) (rq_a1 f24 : _) (rq_a2 f24 : _) (rq_b0 f24 : _) (rq_b1 f24 : _) (rq_b2 f24 : _) (rq_m0 f24 : _) (rq_m1 f24 : _) (rq_m2 f24 : _) (rq_ne1 f24 : _) (rq_ne2 f24 : _) (rq_p0 f24 : _) (rq_p1 f24 : _) (rq_n4 f24 : _)
          have hC36 : pTk what ((pSt (pSg TT nn 59 (qRt TT nn what sr)))) = pRt TT nn what sr := by
            rfl
          have hC361 : (pRt TT nn what sr) 1 = (pTk what ((pSt (pSg TT nn 59 (qRt TT nn what sr))))) 1 := congrFun hC36.symm 1
          have ci37 : CI E S (up (up (hw [(119, -1), (120, -1), (121, -1), (122, -1), (123, -1), (136, 0)] (hw [(131, 1), (131, 2), (131, 5), (131, 6), (131, 7), (131, 8)] (hw [(131, 1), (131, 2), (131, 5), (131, 6), (131, 7), (131, 8)] G Gj85) G5) G15) 131 this 14 1) 131 this 13 1) := (ci_up (ci_up ci18 rfl) rfl)
          exact r_retV hX hP rfl rfl (by first | decide | omega) (by first | decide | omega) ⟨rfl, ⟨_, (hw_up (hw_up (hw_sub (hw_sub (hw_sub (hw_refl _ _) rfl) rfl) rfl) rfl) rfl).symm⟩, rfl, sih16, sih16e, (by first | decide | omega), ci37, (rd_cast rd35 hC36)⟩
        · skip
          refine r_ex hX hP 2 (pc' := 153) (st' := [(0, 1), (0, what), (2, this)]) (lo' := [(0, (2, this)), (1, (0, what)), (2, (0, l2_j85)), (3, (0, l3_j85)), (4, (0, l4_j85)), (5, (0, l5_j85)), (6, (0, 0))]) rfl ?_
          refine r_ic_ne hX hP rfl (tgt := 165) rfl (by first | decide | omega) (by first | decide | omega) (by first | decide | omega) (by first | decide | omega) (fun c38 => ?_) (fun c38 => ?_)
          · skip
            refine r_ex hX hP 1 (pc' := 166) (st' := [(0, 0), (2, this)]) (lo' := [(0, (2, this)), (1, (0, what)), (2, (0, l2_j85)), (3, (0, l3_j85)), (4, (0, l4_j85)), (5, (0, l5_j85)), (6, (0, 0))]) rfl ?_
            refine r_putIK hX hP rfl fp_X6_73_131 hS (by first | decide | omega) (by first | decide | omega) (fun h39 => ?_)
            have k40to : (up (up (hw [(119, -1), (120, -1), (121, -1), (122, -1), (123, -1), (136, 0)] (hw [(131, 1), (131, 2), (131, 5), (131, 6), (131, 7), (131, 8)] (hw [(131, 1), (131, 2), (131, 5), (131, 6), (131, 7), (131, 8)] G Gj85) G5) G15) 131 this 14 1) 131 this 13 0) 131 this 14 = (if what = 1 then (if pRw ((pSt (pSg TT nn 59 (qRt TT nn what sr)))) = 3 then 1 else ((pSt (pSg TT nn 59 (qRt TT nn what sr)))) 7) else ((pSt (pSg TT nn 59 (qRt TT nn what sr)))) 7) := by have q : 1 = (up (up (hw [(119, -1), (120, -1), (121, -1), (122, -1), (123, -1), (136, 0)] (hw [(131, 1), (131, 2), (131, 5), (131, 6), (131, 7), (131, 8)] (hw [(131, 1), (131, 2), (131, 5), (131, 6), (131, 7), (131, 8)] G Gj85) G5) G15) 131 this 14 1) 131 this 13 0) 131 this 14 := h29; (repeat' split) <;> omega
            have k40ti : (up (up (hw [(119, -1), (120, -1), (121, -1), (122, -1), (123, -1), (136, 0)] (hw [(131, 1), (131, 2), (131, 5), (131, 6), (131, 7), (131, 8)] (hw [(131, 1), (131, 2), (131, 5), (131, 6), (131, 7), (131, 8)] G Gj85) G5) G15) 131 this 14 1) 131 this 13 0) 131 this 13 = (if what = 1 then (if pRw ((pSt (pSg TT nn 59 (qRt TT nn what sr)))) = 3 then ((pSt (pSg TT nn 59 (qRt TT nn what sr)))) 6 else 1) else ((pSt (pSg TT nn 59 (qRt TT nn what sr)))) 6) := by have q : 0 = (up (up (hw [(119, -1), (120, -1), (121, -1), (122, -1), (123, -1), (136, 0)] (hw [(131, 1), (131, 2), (131, 5), (131, 6), (131, 7), (131, 8)] (hw [(131, 1), (131, 2), (131, 5), (131, 6), (131, 7), (131, 8)] G Gj85) G5) G15) 131 this 14 1) 131 this 13 0) 131 this 13 := h39; (repeat' split) <;> omega
            have rd41 : RdC TT nn (pTk what ((pSt (pSg TT nn 59 (qRt TT nn what sr))))) (up (up (hw [(119, -1), (120, -1), (121, -1), (122, -1), (123, -1), (136, 0)] (hw [(131, 1), (131, 2), (131, 5), (131, 6), (131, 7), (131, 8)] (hw [(131, 1), (131, 2), (131, 5), (131, 6), (131, 7), (131, 8)] G Gj85) G5) G15) 131 this 14 1) 131 this 13 0) this tx := rd_mk (rq_tape f24 : _) (rq_end f24 : _) (rq_text f24 : _) (rq_tok f24 : _) (rq_start f24 : _) (rq_at f24 : _) (rq_val f24 : _) (rq_flaw f24 : _) (rq_place f24 : _) (rq_told f24 : _) (rq_cc f24 : _) (rq_fb f24 : _) k40ti k40to (rq_dp f24 : _) (rq_size f24 : _) (rq_o0 f24 : _) (rq_o1 f24 : _) (rq_o2 f24 : _) (rq_a0 f24 : _) (rq_a1 f24 : _) (rq_a2 f24 : _) (rq_b0 f24 : _) (rq_b1 f24 : _) (rq_b2 f24 : _) (rq_m0 f24 : _) (rq_m1 f24 : _) (rq_m2 f24 : _) (rq_ne1 f24 : _) (rq_ne2 f24 : _) (rq_p0 f24 : _) (rq_p1 f24 : _) (rq_n4 f24 : _)
            have hC42 : pTk what ((pSt (pSg TT nn 59 (qRt TT nn what sr)))) = pRt TT nn what sr := by
              rfl
            have hC421 : (pRt TT nn what sr) 1 = (pTk what ((pSt (pSg TT nn 59 (qRt TT nn what sr))))) 1 := congrFun hC42.symm 1
            have ci43 : CI E S (up (up (hw [(119, -1), (120, -1), (121, -1), (122, -1), (123, -1), (136, 0)] (hw [(131, 1), (131, 2), (131, 5), (131, 6), (131, 7), (131, 8)] (hw [(131, 1), (131, 2), (131, 5), (131, 6), (131, 7), (131, 8)] G Gj85) G5) G15) 131 this 14 1) 131 this 13 0) := (ci_up (ci_up ci18 rfl) rfl)
            exact r_retV hX hP rfl rfl (by first | decide | omega) (by first | decide | omega) ⟨rfl, ⟨_, (hw_up (hw_up (hw_sub (hw_sub (hw_sub (hw_refl _ _) rfl) rfl) rfl) rfl) rfl).symm⟩, rfl, sih16, sih16e, (by first | decide | omega), ci43, (rd_cast rd41 hC42)⟩
          · skip
            refine r_ex hX hP 1 (pc' := 158) (st' := [(0, 0), (2, this)]) (lo' := [(0, (2, this)), (1, (0, what)), (2, (0, l2_j85)), (3, (0, l3_j85)), (4, (0, l4_j85)), (5, (0, l5_j85)), (6, (0, 0))]) rfl ?_
            refine r_if_ne hX hP rfl (tgt := 165) rfl (by first | decide | omega) (by first | decide | omega) (fun c44 => ?_) (fun c44 => ?_)
            · skip
              exfalso; omega
            · skip
              refine r_ex hX hP 2 (pc' := 166) (st' := [(0, 1), (2, this)]) (lo' := [(0, (2, this)), (1, (0, what)), (2, (0, l2_j85)), (3, (0, l3_j85)), (4, (0, l4_j85)), (5, (0, l5_j85)), (6, (0, 0))]) rfl ?_
              refine r_putIK hX hP rfl fp_X6_73_131 hS (by first | decide | omega) (by first | decide | omega) (fun h45 => ?_)
              have k46to : (up (up (hw [(119, -1), (120, -1), (121, -1), (122, -1), (123, -1), (136, 0)] (hw [(131, 1), (131, 2), (131, 5), (131, 6), (131, 7), (131, 8)] (hw [(131, 1), (131, 2), (131, 5), (131, 6), (131, 7), (131, 8)] G Gj85) G5) G15) 131 this 14 1) 131 this 13 1) 131 this 14 = (if what = 1 then (if pRw ((pSt (pSg TT nn 59 (qRt TT nn what sr)))) = 3 then 1 else ((pSt (pSg TT nn 59 (qRt TT nn what sr)))) 7) else ((pSt (pSg TT nn 59 (qRt TT nn what sr)))) 7) := by have q : 1 = (up (up (hw [(119, -1), (120, -1), (121, -1), (122, -1), (123, -1), (136, 0)] (hw [(131, 1), (131, 2), (131, 5), (131, 6), (131, 7), (131, 8)] (hw [(131, 1), (131, 2), (131, 5), (131, 6), (131, 7), (131, 8)] G Gj85) G5) G15) 131 this 14 1) 131 this 13 1) 131 this 14 := h29; (repeat' split) <;> omega
              have k46ti : (up (up (hw [(119, -1), (120, -1), (121, -1), (122, -1), (123, -1), (136, 0)] (hw [(131, 1), (131, 2), (131, 5), (131, 6), (131, 7), (131, 8)] (hw [(131, 1), (131, 2), (131, 5), (131, 6), (131, 7), (131, 8)] G Gj85) G5) G15) 131 this 14 1) 131 this 13 1) 131 this 13 = (if what = 1 then (if pRw ((pSt (pSg TT nn 59 (qRt TT nn what sr)))) = 3 then ((pSt (pSg TT nn 59 (qRt TT nn what sr)))) 6 else 1) else ((pSt (pSg TT nn 59 (qRt TT nn what sr)))) 6) := by have q : 1 = (up (up (hw [(119, -1), (120, -1), (121, -1), (122, -1), (123, -1), (136, 0)] (hw [(131, 1), (131, 2), (131, 5), (131, 6), (131, 7), (131, 8)] (hw [(131, 1), (131, 2), (131, 5), (131, 6), (131, 7), (131, 8)] G Gj85) G5) G15) 131 this 14 1) 131 this 13 1) 131 this 13 := h45; (repeat' split) <;> omega
              have rd47 : RdC TT nn (pTk what ((pSt (pSg TT nn 59 (qRt TT nn what sr))))) (up (up (hw [(119, -1), (120, -1), (121, -1), (122, -1), (123, -1), (136, 0)] (hw [(131, 1), (131, 2), (131, 5), (131, 6), (131, 7), (131, 8)] (hw [(131, 1), (131, 2), (131, 5), (131, 6), (131, 7), (131, 8)] G Gj85) G5) G15) 131 this 14 1) 131 this 13 1) this tx := rd_mk (rq_tape f24 : _) (rq_end f24 : _) (rq_text f24 : _) (rq_tok f24 : _) (rq_start f24 : _) (rq_at f24 : _) (rq_val f24 : _) (rq_flaw f24 : _) (rq_place f24 : _) (rq_told f24 : _) (rq_cc f24 : _) (rq_fb f24 : _) k46ti k46to (rq_dp f24 : _) (rq_size f24 : _) (rq_o0 f24 : _) (rq_o1 f24 : _) (rq_o2 f24 : _) (rq_a0 f24 : _) (rq_a1 f24 : _) (rq_a2 f24 : _) (rq_b0 f24 : _) (rq_b1 f24 : _) (rq_b2 f24 : _) (rq_m0 f24 : _) (rq_m1 f24 : _) (rq_m2 f24 : _) (rq_ne1 f24 : _) (rq_ne2 f24 : _) (rq_p0 f24 : _) (rq_p1 f24 : _) (rq_n4 f24 : _)
              have hC48 : pTk what ((pSt (pSg TT nn 59 (qRt TT nn what sr)))) = pRt TT nn what sr := by
                rfl
              have hC481 : (pRt TT nn what sr) 1 = (pTk what ((pSt (pSg TT nn 59 (qRt TT nn what sr))))) 1 := congrFun hC48.symm 1
              have ci49 : CI E S (up (up (hw [(119, -1), (120, -1), (121, -1), (122, -1), (123, -1), (136, 0)] (hw [(131, 1), (131, 2), (131, 5), (131, 6), (131, 7), (131, 8)] (hw [(131, 1), (131, 2), (131, 5), (131, 6), (131, 7), (131, 8)] G Gj85) G5) G15) 131 this 14 1) 131 this 13 1) := (ci_up (ci_up ci18 rfl) rfl)
              exact r_retV hX hP rfl rfl (by first | decide | omega) (by first | decide | omega) ⟨rfl, ⟨_, (hw_up (hw_up (hw_sub (hw_sub (hw_sub (hw_refl _ _) rfl) rfl) rfl) rfl) rfl).symm⟩, rfl, sih16, sih16e, (by first | decide | omega), ci49, (rd_cast rd47 hC48)⟩
      · skip
        refine r_ex hX hP 2 (pc' := 127) (st' := [(0, 1), (0, what), (2, this)]) (lo' := [(0, (2, this)), (1, (0, what)), (2, (0, l2_j85)), (3, (0, l3_j85)), (4, (0, l4_j85)), (5, (0, l5_j85)), (6, (0, 0))]) rfl ?_
        refine r_ic_ne hX hP rfl (tgt := 139) rfl (by first | decide | omega) (by first | decide | omega) (by first | decide | omega) (by first | decide | omega) (fun c50 => ?_) (fun c50 => ?_)
        · skip
          refine r_ex hX hP 1 (pc' := 140) (st' := [(0, 0), (2, this)]) (lo' := [(0, (2, this)), (1, (0, what)), (2, (0, l2_j85)), (3, (0, l3_j85)), (4, (0, l4_j85)), (5, (0, l5_j85)), (6, (0, 0))]) rfl ?_
          refine r_putIK hX hP rfl fp_X6_77_131 hS (by first | decide | omega) (by first | decide | omega) (fun h51 => ?_)
          refine r_ex hX hP 2 (pc' := 145) (st' := [(2, this), (2, this)]) (lo' := [(0, (2, this)), (1, (0, what)), (2, (0, l2_j85)), (3, (0, l3_j85)), (4, (0, l4_j85)), (5, (0, l5_j85)), (6, (0, 0))]) rfl ?_
          refine r_getI hX hP rfl fl_X6_73_131 hS (fun tf52 tf52e tf52a tf52b => ?_)
          have k53 := rq_ti f24
          have k53 := tf52e.trans k53
          refine r_if_ne hX hP rfl (tgt := 161) rfl (by first | decide | omega) (by first | decide | omega) (fun c54 => ?_) (fun c54 => ?_)
          · skip
            refine r_ex hX hP 2 (pc' := 166) (st' := [(0, 1), (2, this)]) (lo' := [(0, (2, this)), (1, (0, what)), (2, (0, l2_j85)), (3, (0, l3_j85)), (4, (0, l4_j85)), (5, (0, l5_j85)), (6, (0, 0))]) rfl ?_
            refine r_putIK hX hP rfl fp_X6_73_131 hS (by first | decide | omega) (by first | decide | omega) (fun h55 => ?_)
            have k56to : (up (up (hw [(119, -1), (120, -1), (121, -1), (122, -1), (123, -1), (136, 0)] (hw [(131, 1), (131, 2), (131, 5), (131, 6), (131, 7), (131, 8)] (hw [(131, 1), (131, 2), (131, 5), (131, 6), (131, 7), (131, 8)] G Gj85) G5) G15) 131 this 14 0) 131 this 13 1) 131 this 14 = (if what = 1 then (if pRw ((pSt (pSg TT nn 59 (qRt TT nn what sr)))) = 3 then 1 else ((pSt (pSg TT nn 59 (qRt TT nn what sr)))) 7) else ((pSt (pSg TT nn 59 (qRt TT nn what sr)))) 7) := by have q : 0 = (up (up (hw [(119, -1), (120, -1), (121, -1), (122, -1), (123, -1), (136, 0)] (hw [(131, 1), (131, 2), (131, 5), (131, 6), (131, 7), (131, 8)] (hw [(131, 1), (131, 2), (131, 5), (131, 6), (131, 7), (131, 8)] G Gj85) G5) G15) 131 this 14 0) 131 this 13 1) 131 this 14 := h51; (repeat' split) <;> omega
            have k56ti : (up (up (hw [(119, -1), (120, -1), (121, -1), (122, -1), (123, -1), (136, 0)] (hw [(131, 1), (131, 2), (131, 5), (131, 6), (131, 7), (131, 8)] (hw [(131, 1), (131, 2), (131, 5), (131, 6), (131, 7), (131, 8)] G Gj85) G5) G15) 131 this 14 0) 131 this 13 1) 131 this 13 = (if what = 1 then (if pRw ((pSt (pSg TT nn 59 (qRt TT nn what sr)))) = 3 then ((pSt (pSg TT nn 59 (qRt TT nn what sr)))) 6 else 1) else ((pSt (pSg TT nn 59 (qRt TT nn what sr)))) 6) := by have q : 1 = (up (up (hw [(119, -1), (120, -1), (121, -1), (122, -1), (123, -1), (136, 0)] (hw [(131, 1), (131, 2), (131, 5), (131, 6), (131, 7), (131, 8)] (hw [(131, 1), (131, 2), (131, 5), (131, 6), (131, 7), (131, 8)] G Gj85) G5) G15) 131 this 14 0) 131 this 13 1) 131 this 13 := h55; (repeat' split) <;> omega
            have rd57 : RdC TT nn (pTk what ((pSt (pSg TT nn 59 (qRt TT nn what sr))))) (up (up (hw [(119, -1), (120, -1), (121, -1), (122, -1), (123, -1), (136, 0)] (hw [(131, 1), (131, 2), (131, 5), (131, 6), (131, 7), (131, 8)] (hw [(131, 1), (131, 2), (131, 5), (131, 6), (131, 7), (131, 8)] G Gj85) G5) G15) 131 this 14 0) 131 this 13 1) this tx := rd_mk (rq_tape f24 : _) (rq_end f24 : _) (rq_text f24 : _) (rq_tok f24 : _) (rq_start f24 : _) (rq_at f24 : _) (rq_val f24 : _) (rq_flaw f24 : _) (rq_place f24 : _) (rq_told f24 : _) (rq_cc f24 : _) (rq_fb f24 : _) k56ti k56to (rq_dp f24 : _) (rq_size f24 : _) (rq_o0 f24 : _) (rq_o1 f24 : _) (rq_o2 f24 : _) (rq_a0 f24 : _) (rq_a1 f24 : _) (rq_a2 f24 : _) (rq_b0 f24 : _) (rq_b1 f24 : _) (rq_b2 f24 : _) (rq_m0 f24 : _) (rq_m1 f24 : _) (rq_m2 f24 : _) (rq_ne1 f24 : _) (rq_ne2 f24 : _) (rq_p0 f24 : _) (rq_p1 f24 : _) (rq_n4 f24 : _)
            have hC58 : pTk what ((pSt (pSg TT nn 59 (qRt TT nn what sr)))) = pRt TT nn what sr := by
              rfl
            have hC581 : (pRt TT nn what sr) 1 = (pTk what ((pSt (pSg TT nn 59 (qRt TT nn what sr))))) 1 := congrFun hC58.symm 1
            have ci59 : CI E S (up (up (hw [(119, -1), (120, -1), (121, -1), (122, -1), (123, -1), (136, 0)] (hw [(131, 1), (131, 2), (131, 5), (131, 6), (131, 7), (131, 8)] (hw [(131, 1), (131, 2), (131, 5), (131, 6), (131, 7), (131, 8)] G Gj85) G5) G15) 131 this 14 0) 131 this 13 1) := (ci_up (ci_up ci18 rfl) rfl)
            exact r_retV hX hP rfl rfl (by first | decide | omega) (by first | decide | omega) ⟨rfl, ⟨_, (hw_up (hw_up (hw_sub (hw_sub (hw_sub (hw_refl _ _) rfl) rfl) rfl) rfl) rfl).symm⟩, rfl, sih16, sih16e, (by first | decide | omega), ci59, (rd_cast rd57 hC58)⟩
          · skip
            refine r_ex hX hP 2 (pc' := 153) (st' := [(0, 1), (0, what), (2, this)]) (lo' := [(0, (2, this)), (1, (0, what)), (2, (0, l2_j85)), (3, (0, l3_j85)), (4, (0, l4_j85)), (5, (0, l5_j85)), (6, (0, 0))]) rfl ?_
            refine r_ic_ne hX hP rfl (tgt := 165) rfl (by first | decide | omega) (by first | decide | omega) (by first | decide | omega) (by first | decide | omega) (fun c60 => ?_) (fun c60 => ?_)
            · skip
              refine r_ex hX hP 1 (pc' := 166) (st' := [(0, 0), (2, this)]) (lo' := [(0, (2, this)), (1, (0, what)), (2, (0, l2_j85)), (3, (0, l3_j85)), (4, (0, l4_j85)), (5, (0, l5_j85)), (6, (0, 0))]) rfl ?_
              refine r_putIK hX hP rfl fp_X6_73_131 hS (by first | decide | omega) (by first | decide | omega) (fun h61 => ?_)
              have k62to : (up (up (hw [(119, -1), (120, -1), (121, -1), (122, -1), (123, -1), (136, 0)] (hw [(131, 1), (131, 2), (131, 5), (131, 6), (131, 7), (131, 8)] (hw [(131, 1), (131, 2), (131, 5), (131, 6), (131, 7), (131, 8)] G Gj85) G5) G15) 131 this 14 0) 131 this 13 0) 131 this 14 = (if what = 1 then (if pRw ((pSt (pSg TT nn 59 (qRt TT nn what sr)))) = 3 then 1 else ((pSt (pSg TT nn 59 (qRt TT nn what sr)))) 7) else ((pSt (pSg TT nn 59 (qRt TT nn what sr)))) 7) := by have q : 0 = (up (up (hw [(119, -1), (120, -1), (121, -1), (122, -1), (123, -1), (136, 0)] (hw [(131, 1), (131, 2), (131, 5), (131, 6), (131, 7), (131, 8)] (hw [(131, 1), (131, 2), (131, 5), (131, 6), (131, 7), (131, 8)] G Gj85) G5) G15) 131 this 14 0) 131 this 13 0) 131 this 14 := h51; (repeat' split) <;> omega
              have k62ti : (up (up (hw [(119, -1), (120, -1), (121, -1), (122, -1), (123, -1), (136, 0)] (hw [(131, 1), (131, 2), (131, 5), (131, 6), (131, 7), (131, 8)] (hw [(131, 1), (131, 2), (131, 5), (131, 6), (131, 7), (131, 8)] G Gj85) G5) G15) 131 this 14 0) 131 this 13 0) 131 this 13 = (if what = 1 then (if pRw ((pSt (pSg TT nn 59 (qRt TT nn what sr)))) = 3 then ((pSt (pSg TT nn 59 (qRt TT nn what sr)))) 6 else 1) else ((pSt (pSg TT nn 59 (qRt TT nn what sr)))) 6) := by have q : 0 = (up (up (hw [(119, -1), (120, -1), (121, -1), (122, -1), (123, -1), (136, 0)] (hw [(131, 1), (131, 2), (131, 5), (131, 6), (131, 7), (131, 8)] (hw [(131, 1), (131, 2), (131, 5), (131, 6), (131, 7), (131, 8)] G Gj85) G5) G15) 131 this 14 0) 131 this 13 0) 131 this 13 := h61; (repeat' split) <;> omega
              have rd63 : RdC TT nn (pTk what ((pSt (pSg TT nn 59 (qRt TT nn what sr))))) (up (up (hw [(119, -1), (120, -1), (121, -1), (122, -1), (123, -1), (136, 0)] (hw [(131, 1), (131, 2), (131, 5), (131, 6), (131, 7), (131, 8)] (hw [(131, 1), (131, 2), (131, 5), (131, 6), (131, 7), (131, 8)] G Gj85) G5) G15) 131 this 14 0) 131 this 13 0) this tx := rd_mk (rq_tape f24 : _) (rq_end f24 : _) (rq_text f24 : _) (rq_tok f24 : _) (rq_start f24 : _) (rq_at f24 : _) (rq_val f24 : _) (rq_flaw f24 : _) (rq_place f24 : _) (rq_told f24 : _) (rq_cc f24 : _) (rq_fb f24 : _) k62ti k62to (rq_dp f24 : _) (rq_size f24 : _) (rq_o0 f24 : _) (rq_o1 f24 : _) (rq_o2 f24 : _) (rq_a0 f24 : _) (rq_a1 f24 : _) (rq_a2 f24 : _) (rq_b0 f24 : _) (rq_b1 f24 : _) (rq_b2 f24 : _) (rq_m0 f24 : _) (rq_m1 f24 : _) (rq_m2 f24 : _) (rq_ne1 f24 : _) (rq_ne2 f24 : _) (rq_p0 f24 : _) (rq_p1 f24 : _) (rq_n4 f24 : _)
              have hC64 : pTk what ((pSt (pSg TT nn 59 (qRt TT nn what sr)))) = pRt TT nn what sr := by
                rfl
              have hC641 : (pRt TT nn what sr) 1 = (pTk what ((pSt (pSg TT nn 59 (qRt TT nn what sr))))) 1 := congrFun hC64.symm 1
              have ci65 : CI E S (up (up (hw [(119, -1), (120, -1), (121, -1), (122, -1), (123, -1), (136, 0)] (hw [(131, 1), (131, 2), (131, 5), (131, 6), (131, 7), (131, 8)] (hw [(131, 1), (131, 2), (131, 5), (131, 6), (131, 7), (131, 8)] G Gj85) G5) G15) 131 this 14 0) 131 this 13 0) := (ci_up (ci_up ci18 rfl) rfl)
              exact r_retV hX hP rfl rfl (by first | decide | omega) (by first | decide | omega) ⟨rfl, ⟨_, (hw_up (hw_up (hw_sub (hw_sub (hw_sub (hw_refl _ _) rfl) rfl) rfl) rfl) rfl).symm⟩, rfl, sih16, sih16e, (by first | decide | omega), ci65, (rd_cast rd63 hC64)⟩
            · skip
              refine r_ex hX hP 1 (pc' := 158) (st' := [(0, 0), (2, this)]) (lo' := [(0, (2, this)), (1, (0, what)), (2, (0, l2_j85)), (3, (0, l3_j85)), (4, (0, l4_j85)), (5, (0, l5_j85)), (6, (0, 0))]) rfl ?_
              refine r_if_ne hX hP rfl (tgt := 165) rfl (by first | decide | omega) (by first | decide | omega) (fun c66 => ?_) (fun c66 => ?_)
              · skip
                exfalso; omega
              · skip
                refine r_ex hX hP 2 (pc' := 166) (st' := [(0, 1), (2, this)]) (lo' := [(0, (2, this)), (1, (0, what)), (2, (0, l2_j85)), (3, (0, l3_j85)), (4, (0, l4_j85)), (5, (0, l5_j85)), (6, (0, 0))]) rfl ?_
                refine r_putIK hX hP rfl fp_X6_73_131 hS (by first | decide | omega) (by first | decide | omega) (fun h67 => ?_)
                have k68to : (up (up (hw [(119, -1), (120, -1), (121, -1), (122, -1), (123, -1), (136, 0)] (hw [(131, 1), (131, 2), (131, 5), (131, 6), (131, 7), (131, 8)] (hw [(131, 1), (131, 2), (131, 5), (131, 6), (131, 7), (131, 8)] G Gj85) G5) G15) 131 this 14 0) 131 this 13 1) 131 this 14 = (if what = 1 then (if pRw ((pSt (pSg TT nn 59 (qRt TT nn what sr)))) = 3 then 1 else ((pSt (pSg TT nn 59 (qRt TT nn what sr)))) 7) else ((pSt (pSg TT nn 59 (qRt TT nn what sr)))) 7) := by have q : 0 = (up (up (hw [(119, -1), (120, -1), (121, -1), (122, -1), (123, -1), (136, 0)] (hw [(131, 1), (131, 2), (131, 5), (131, 6), (131, 7), (131, 8)] (hw [(131, 1), (131, 2), (131, 5), (131, 6), (131, 7), (131, 8)] G Gj85) G5) G15) 131 this 14 0) 131 this 13 1) 131 this 14 := h51; (repeat' split) <;> omega
                have k68ti : (up (up (hw [(119, -1), (120, -1), (121, -1), (122, -1), (123, -1), (136, 0)] (hw [(131, 1), (131, 2), (131, 5), (131, 6), (131, 7), (131, 8)] (hw [(131, 1), (131, 2), (131, 5), (131, 6), (131, 7), (131, 8)] G Gj85) G5) G15) 131 this 14 0) 131 this 13 1) 131 this 13 = (if what = 1 then (if pRw ((pSt (pSg TT nn 59 (qRt TT nn what sr)))) = 3 then ((pSt (pSg TT nn 59 (qRt TT nn what sr)))) 6 else 1) else ((pSt (pSg TT nn 59 (qRt TT nn what sr)))) 6) := by have q : 1 = (up (up (hw [(119, -1), (120, -1), (121, -1), (122, -1), (123, -1), (136, 0)] (hw [(131, 1), (131, 2), (131, 5), (131, 6), (131, 7), (131, 8)] (hw [(131, 1), (131, 2), (131, 5), (131, 6), (131, 7), (131, 8)] G Gj85) G5) G15) 131 this 14 0) 131 this 13 1) 131 this 13 := h67; (repeat' split) <;> omega
                have rd69 : RdC TT nn (pTk what ((pSt (pSg TT nn 59 (qRt TT nn what sr))))) (up (up (hw [(119, -1), (120, -1), (121, -1), (122, -1), (123, -1), (136, 0)] (hw [(131, 1), (131, 2), (131, 5), (131, 6), (131, 7), (131, 8)] (hw [(131, 1), (131, 2), (131, 5), (131, 6), (131, 7), (131, 8)] G Gj85) G5) G15) 131 this 14 0) 131 this 13 1) this tx := rd_mk (rq_tape f24 : _) (rq_end f24 : _) (rq_text f24 : _) (rq_tok f24 : _) (rq_start f24 : _) (rq_at f24 : _) (rq_val f24 : _) (rq_flaw f24 : _) (rq_place f24 : _) (rq_told f24 : _) (rq_cc f24 : _) (rq_fb f24 : _) k68ti k68to (rq_dp f24 : _) (rq_size f24 : _) (rq_o0 f24 : _) (rq_o1 f24 : _) (rq_o2 f24 : _) (rq_a0 f24 : _) (rq_a1 f24 : _) (rq_a2 f24 : _) (rq_b0 f24 : _) (rq_b1 f24 : _) (rq_b2 f24 : _) (rq_m0 f24 : _) (rq_m1 f24 : _) (rq_m2 f24 : _) (rq_ne1 f24 : _) (rq_ne2 f24 : _) (rq_p0 f24 : _) (rq_p1 f24 : _) (rq_n4 f24 : _)
                have hC70 : pTk what ((pSt (pSg TT nn 59 (qRt TT nn what sr)))) = pRt TT nn what sr := by
                  rfl
                have hC701 : (pRt TT nn what sr) 1 = (pTk what ((pSt (pSg TT nn 59 (qRt TT nn what sr))))) 1 := congrFun hC70.symm 1
                have ci71 : CI E S (up (up (hw [(119, -1), (120, -1), (121, -1), (122, -1), (123, -1), (136, 0)] (hw [(131, 1), (131, 2), (131, 5), (131, 6), (131, 7), (131, 8)] (hw [(131, 1), (131, 2), (131, 5), (131, 6), (131, 7), (131, 8)] G Gj85) G5) G15) 131 this 14 0) 131 this 13 1) := (ci_up (ci_up ci18 rfl) rfl)
                exact r_retV hX hP rfl rfl (by first | decide | omega) (by first | decide | omega) ⟨rfl, ⟨_, (hw_up (hw_up (hw_sub (hw_sub (hw_sub (hw_refl _ _) rfl) rfl) rfl) rfl) rfl).symm⟩, rfl, sih16, sih16e, (by first | decide | omega), ci71, (rd_cast rd69 hC70)⟩
        · skip
          refine r_ex hX hP 1 (pc' := 132) (st' := [(0, 0), (2, this)]) (lo' := [(0, (2, this)), (1, (0, what)), (2, (0, l2_j85)), (3, (0, l3_j85)), (4, (0, l4_j85)), (5, (0, l5_j85)), (6, (0, 0))]) rfl ?_
          refine r_if_eq hX hP rfl (tgt := 139) rfl (by first | decide | omega) (by first | decide | omega) (fun c72 => ?_) (fun c72 => ?_)
          · skip
            refine r_ex hX hP 1 (pc' := 140) (st' := [(0, 0), (2, this)]) (lo' := [(0, (2, this)), (1, (0, what)), (2, (0, l2_j85)), (3, (0, l3_j85)), (4, (0, l4_j85)), (5, (0, l5_j85)), (6, (0, 0))]) rfl ?_
            refine r_putIK hX hP rfl fp_X6_77_131 hS (by first | decide | omega) (by first | decide | omega) (fun h73 => ?_)
            refine r_ex hX hP 2 (pc' := 145) (st' := [(2, this), (2, this)]) (lo' := [(0, (2, this)), (1, (0, what)), (2, (0, l2_j85)), (3, (0, l3_j85)), (4, (0, l4_j85)), (5, (0, l5_j85)), (6, (0, 0))]) rfl ?_
            refine r_getI hX hP rfl fl_X6_73_131 hS (fun tf74 tf74e tf74a tf74b => ?_)
            have k75 := rq_ti f24
            have k75 := tf74e.trans k75
            refine r_if_ne hX hP rfl (tgt := 161) rfl (by first | decide | omega) (by first | decide | omega) (fun c76 => ?_) (fun c76 => ?_)
            · skip
              refine r_ex hX hP 2 (pc' := 166) (st' := [(0, 1), (2, this)]) (lo' := [(0, (2, this)), (1, (0, what)), (2, (0, l2_j85)), (3, (0, l3_j85)), (4, (0, l4_j85)), (5, (0, l5_j85)), (6, (0, 0))]) rfl ?_
              refine r_putIK hX hP rfl fp_X6_73_131 hS (by first | decide | omega) (by first | decide | omega) (fun h77 => ?_)
              have k78to : (up (up (hw [(119, -1), (120, -1), (121, -1), (122, -1), (123, -1), (136, 0)] (hw [(131, 1), (131, 2), (131, 5), (131, 6), (131, 7), (131, 8)] (hw [(131, 1), (131, 2), (131, 5), (131, 6), (131, 7), (131, 8)] G Gj85) G5) G15) 131 this 14 0) 131 this 13 1) 131 this 14 = (if what = 1 then (if pRw ((pSt (pSg TT nn 59 (qRt TT nn what sr)))) = 3 then 1 else ((pSt (pSg TT nn 59 (qRt TT nn what sr)))) 7) else ((pSt (pSg TT nn 59 (qRt TT nn what sr)))) 7) := by have q : 0 = (up (up (hw [(119, -1), (120, -1), (121, -1), (122, -1), (123, -1), (136, 0)] (hw [(131, 1), (131, 2), (131, 5), (131, 6), (131, 7), (131, 8)] (hw [(131, 1), (131, 2), (131, 5), (131, 6), (131, 7), (131, 8)] G Gj85) G5) G15) 131 this 14 0) 131 this 13 1) 131 this 14 := h73; (repeat' split) <;> omega
              have k78ti : (up (up (hw [(119, -1), (120, -1), (121, -1), (122, -1), (123, -1), (136, 0)] (hw [(131, 1), (131, 2), (131, 5), (131, 6), (131, 7), (131, 8)] (hw [(131, 1), (131, 2), (131, 5), (131, 6), (131, 7), (131, 8)] G Gj85) G5) G15) 131 this 14 0) 131 this 13 1) 131 this 13 = (if what = 1 then (if pRw ((pSt (pSg TT nn 59 (qRt TT nn what sr)))) = 3 then ((pSt (pSg TT nn 59 (qRt TT nn what sr)))) 6 else 1) else ((pSt (pSg TT nn 59 (qRt TT nn what sr)))) 6) := by have q : 1 = (up (up (hw [(119, -1), (120, -1), (121, -1), (122, -1), (123, -1), (136, 0)] (hw [(131, 1), (131, 2), (131, 5), (131, 6), (131, 7), (131, 8)] (hw [(131, 1), (131, 2), (131, 5), (131, 6), (131, 7), (131, 8)] G Gj85) G5) G15) 131 this 14 0) 131 this 13 1) 131 this 13 := h77; (repeat' split) <;> omega
              have rd79 : RdC TT nn (pTk what ((pSt (pSg TT nn 59 (qRt TT nn what sr))))) (up (up (hw [(119, -1), (120, -1), (121, -1), (122, -1), (123, -1), (136, 0)] (hw [(131, 1), (131, 2), (131, 5), (131, 6), (131, 7), (131, 8)] (hw [(131, 1), (131, 2), (131, 5), (131, 6), (131, 7), (131, 8)] G Gj85) G5) G15) 131 this 14 0) 131 this 13 1) this tx := rd_mk (rq_tape f24 : _) (rq_end f24 : _) (rq_text f24 : _) (rq_tok f24 : _) (rq_start f24 : _) (rq_at f24 : _) (rq_val f24 : _) (rq_flaw f24 : _) (rq_place f24 : _) (rq_told f24 : _) (rq_cc f24 : _) (rq_fb f24 : _) k78ti k78to (rq_dp f24 : _) (rq_size f24 : _) (rq_o0 f24 : _) (rq_o1 f24 : _) (rq_o2 f24 : _) (rq_a0 f24 : _) (rq_a1 f24 : _) (rq_a2 f24 : _) (rq_b0 f24 : _) (rq_b1 f24 : _) (rq_b2 f24 : _) (rq_m0 f24 : _) (rq_m1 f24 : _) (rq_m2 f24 : _) (rq_ne1 f24 : _) (rq_ne2 f24 : _) (rq_p0 f24 : _) (rq_p1 f24 : _) (rq_n4 f24 : _)
              have hC80 : pTk what ((pSt (pSg TT nn 59 (qRt TT nn what sr)))) = pRt TT nn what sr := by
                rfl
              have hC801 : (pRt TT nn what sr) 1 = (pTk what ((pSt (pSg TT nn 59 (qRt TT nn what sr))))) 1 := congrFun hC80.symm 1
              have ci81 : CI E S (up (up (hw [(119, -1), (120, -1), (121, -1), (122, -1), (123, -1), (136, 0)] (hw [(131, 1), (131, 2), (131, 5), (131, 6), (131, 7), (131, 8)] (hw [(131, 1), (131, 2), (131, 5), (131, 6), (131, 7), (131, 8)] G Gj85) G5) G15) 131 this 14 0) 131 this 13 1) := (ci_up (ci_up ci18 rfl) rfl)
              exact r_retV hX hP rfl rfl (by first | decide | omega) (by first | decide | omega) ⟨rfl, ⟨_, (hw_up (hw_up (hw_sub (hw_sub (hw_sub (hw_refl _ _) rfl) rfl) rfl) rfl) rfl).symm⟩, rfl, sih16, sih16e, (by first | decide | omega), ci81, (rd_cast rd79 hC80)⟩
            · skip
              refine r_ex hX hP 2 (pc' := 153) (st' := [(0, 1), (0, what), (2, this)]) (lo' := [(0, (2, this)), (1, (0, what)), (2, (0, l2_j85)), (3, (0, l3_j85)), (4, (0, l4_j85)), (5, (0, l5_j85)), (6, (0, 0))]) rfl ?_
              refine r_ic_ne hX hP rfl (tgt := 165) rfl (by first | decide | omega) (by first | decide | omega) (by first | decide | omega) (by first | decide | omega) (fun c82 => ?_) (fun c82 => ?_)
              · skip
                exfalso; omega
              · skip
                refine r_ex hX hP 1 (pc' := 158) (st' := [(0, 0), (2, this)]) (lo' := [(0, (2, this)), (1, (0, what)), (2, (0, l2_j85)), (3, (0, l3_j85)), (4, (0, l4_j85)), (5, (0, l5_j85)), (6, (0, 0))]) rfl ?_
                refine r_if_ne hX hP rfl (tgt := 165) rfl (by first | decide | omega) (by first | decide | omega) (fun c83 => ?_) (fun c83 => ?_)
                · skip
                  exfalso; omega
                · skip
                  refine r_ex hX hP 2 (pc' := 166) (st' := [(0, 1), (2, this)]) (lo' := [(0, (2, this)), (1, (0, what)), (2, (0, l2_j85)), (3, (0, l3_j85)), (4, (0, l4_j85)), (5, (0, l5_j85)), (6, (0, 0))]) rfl ?_
                  refine r_putIK hX hP rfl fp_X6_73_131 hS (by first | decide | omega) (by first | decide | omega) (fun h84 => ?_)
                  have k85to : (up (up (hw [(119, -1), (120, -1), (121, -1), (122, -1), (123, -1), (136, 0)] (hw [(131, 1), (131, 2), (131, 5), (131, 6), (131, 7), (131, 8)] (hw [(131, 1), (131, 2), (131, 5), (131, 6), (131, 7), (131, 8)] G Gj85) G5) G15) 131 this 14 0) 131 this 13 1) 131 this 14 = (if what = 1 then (if pRw ((pSt (pSg TT nn 59 (qRt TT nn what sr)))) = 3 then 1 else ((pSt (pSg TT nn 59 (qRt TT nn what sr)))) 7) else ((pSt (pSg TT nn 59 (qRt TT nn what sr)))) 7) := by have q : 0 = (up (up (hw [(119, -1), (120, -1), (121, -1), (122, -1), (123, -1), (136, 0)] (hw [(131, 1), (131, 2), (131, 5), (131, 6), (131, 7), (131, 8)] (hw [(131, 1), (131, 2), (131, 5), (131, 6), (131, 7), (131, 8)] G Gj85) G5) G15) 131 this 14 0) 131 this 13 1) 131 this 14 := h73; (repeat' split) <;> omega
                  have k85ti : (up (up (hw [(119, -1), (120, -1), (121, -1), (122, -1), (123, -1), (136, 0)] (hw [(131, 1), (131, 2), (131, 5), (131, 6), (131, 7), (131, 8)] (hw [(131, 1), (131, 2), (131, 5), (131, 6), (131, 7), (131, 8)] G Gj85) G5) G15) 131 this 14 0) 131 this 13 1) 131 this 13 = (if what = 1 then (if pRw ((pSt (pSg TT nn 59 (qRt TT nn what sr)))) = 3 then ((pSt (pSg TT nn 59 (qRt TT nn what sr)))) 6 else 1) else ((pSt (pSg TT nn 59 (qRt TT nn what sr)))) 6) := by have q : 1 = (up (up (hw [(119, -1), (120, -1), (121, -1), (122, -1), (123, -1), (136, 0)] (hw [(131, 1), (131, 2), (131, 5), (131, 6), (131, 7), (131, 8)] (hw [(131, 1), (131, 2), (131, 5), (131, 6), (131, 7), (131, 8)] G Gj85) G5) G15) 131 this 14 0) 131 this 13 1) 131 this 13 := h84; (repeat' split) <;> omega
                  have rd86 : RdC TT nn (pTk what ((pSt (pSg TT nn 59 (qRt TT nn what sr))))) (up (up (hw [(119, -1), (120, -1), (121, -1), (122, -1), (123, -1), (136, 0)] (hw [(131, 1), (131, 2), (131, 5), (131, 6), (131, 7), (131, 8)] (hw [(131, 1), (131, 2), (131, 5), (131, 6), (131, 7), (131, 8)] G Gj85) G5) G15) 131 this 14 0) 131 this 13 1) this tx := rd_mk (rq_tape f24 : _) (rq_end f24 : _) (rq_text f24 : _) (rq_tok f24 : _) (rq_start f24 : _) (rq_at f24 : _) (rq_val f24 : _) (rq_flaw f24 : _) (rq_place f24 : _) (rq_told f24 : _) (rq_cc f24 : _) (rq_fb f24 : _) k85ti k85to (rq_dp f24 : _) (rq_size f24 : _) (rq_o0 f24 : _) (rq_o1 f24 : _) (rq_o2 f24 : _) (rq_a0 f24 : _) (rq_a1 f24 : _) (rq_a2 f24 : _) (rq_b0 f24 : _) (rq_b1 f24 : _) (rq_b2 f24 : _) (rq_m0 f24 : _) (rq_m1 f24 : _) (rq_m2 f24 : _) (rq_ne1 f24 : _) (rq_ne2 f24 : _) (rq_p0 f24 : _) (rq_p1 f24 : _) (rq_n4 f24 : _)
                  have hC87 : pTk what ((pSt (pSg TT nn 59 (qRt TT nn what sr)))) = pRt TT nn what sr := by
                    rfl
                  have hC871 : (pRt TT nn what sr) 1 = (pTk what ((pSt (pSg TT nn 59 (qRt TT nn what sr))))) 1 := congrFun hC87.symm 1
                  have ci88 : CI E S (up (up (hw [(119, -1), (120, -1), (121, -1), (122, -1), (123, -1), (136, 0)] (hw [(131, 1), (131, 2), (131, 5), (131, 6), (131, 7), (131, 8)] (hw [(131, 1), (131, 2), (131, 5), (131, 6), (131, 7), (131, 8)] G Gj85) G5) G15) 131 this 14 0) 131 this 13 1) := (ci_up (ci_up ci18 rfl) rfl)
                  exact r_retV hX hP rfl rfl (by first | decide | omega) (by first | decide | omega) ⟨rfl, ⟨_, (hw_up (hw_up (hw_sub (hw_sub (hw_sub (hw_refl _ _) rfl) rfl) rfl) rfl) rfl).symm⟩, rfl, sih16, sih16e, (by first | decide | omega), ci88, (rd_cast rd86 hC87)⟩
          · skip
            exfalso; omega
    · skip
      refine r_ex hX hP 5 (pc' := 119) (st' := [(2, this), (2, this)]) (lo' := [(0, (2, this)), (1, (0, what)), (2, (0, l2_j85)), (3, (0, l3_j85)), (4, (0, l4_j85)), (5, (0, l5_j85)), (6, (0, 1))]) rfl ?_
      refine r_getI hX hP rfl fl_X6_77_131 hS (fun tf89 tf89e tf89a tf89b => ?_)
      have k90 := rq_to f24
      have k90 := tf89e.trans k90
      refine r_if_ne hX hP rfl (tgt := 135) rfl (by first | decide | omega) (by first | decide | omega) (fun c91 => ?_) (fun c91 => ?_)
      · skip
        refine r_ex hX hP 2 (pc' := 140) (st' := [(0, 1), (2, this)]) (lo' := [(0, (2, this)), (1, (0, what)), (2, (0, l2_j85)), (3, (0, l3_j85)), (4, (0, l4_j85)), (5, (0, l5_j85)), (6, (0, 1))]) rfl ?_
        refine r_putIK hX hP rfl fp_X6_77_131 hS (by first | decide | omega) (by first | decide | omega) (fun h92 => ?_)
        refine r_ex hX hP 2 (pc' := 145) (st' := [(2, this), (2, this)]) (lo' := [(0, (2, this)), (1, (0, what)), (2, (0, l2_j85)), (3, (0, l3_j85)), (4, (0, l4_j85)), (5, (0, l5_j85)), (6, (0, 1))]) rfl ?_
        refine r_getI hX hP rfl fl_X6_73_131 hS (fun tf93 tf93e tf93a tf93b => ?_)
        have k94 := rq_ti f24
        have k94 := tf93e.trans k94
        refine r_if_ne hX hP rfl (tgt := 161) rfl (by first | decide | omega) (by first | decide | omega) (fun c95 => ?_) (fun c95 => ?_)
        · skip
          refine r_ex hX hP 2 (pc' := 166) (st' := [(0, 1), (2, this)]) (lo' := [(0, (2, this)), (1, (0, what)), (2, (0, l2_j85)), (3, (0, l3_j85)), (4, (0, l4_j85)), (5, (0, l5_j85)), (6, (0, 1))]) rfl ?_
          refine r_putIK hX hP rfl fp_X6_73_131 hS (by first | decide | omega) (by first | decide | omega) (fun h96 => ?_)
          have k97to : (up (up (hw [(119, -1), (120, -1), (121, -1), (122, -1), (123, -1), (136, 0)] (hw [(131, 1), (131, 2), (131, 5), (131, 6), (131, 7), (131, 8)] (hw [(131, 1), (131, 2), (131, 5), (131, 6), (131, 7), (131, 8)] G Gj85) G5) G15) 131 this 14 1) 131 this 13 1) 131 this 14 = (if what = 1 then (if pRw ((pSt (pSg TT nn 59 (qRt TT nn what sr)))) = 3 then 1 else ((pSt (pSg TT nn 59 (qRt TT nn what sr)))) 7) else ((pSt (pSg TT nn 59 (qRt TT nn what sr)))) 7) := by have q : 1 = (up (up (hw [(119, -1), (120, -1), (121, -1), (122, -1), (123, -1), (136, 0)] (hw [(131, 1), (131, 2), (131, 5), (131, 6), (131, 7), (131, 8)] (hw [(131, 1), (131, 2), (131, 5), (131, 6), (131, 7), (131, 8)] G Gj85) G5) G15) 131 this 14 1) 131 this 13 1) 131 this 14 := h92; (repeat' split) <;> omega
          have k97ti : (up (up (hw [(119, -1), (120, -1), (121, -1), (122, -1), (123, -1), (136, 0)] (hw [(131, 1), (131, 2), (131, 5), (131, 6), (131, 7), (131, 8)] (hw [(131, 1), (131, 2), (131, 5), (131, 6), (131, 7), (131, 8)] G Gj85) G5) G15) 131 this 14 1) 131 this 13 1) 131 this 13 = (if what = 1 then (if pRw ((pSt (pSg TT nn 59 (qRt TT nn what sr)))) = 3 then ((pSt (pSg TT nn 59 (qRt TT nn what sr)))) 6 else 1) else ((pSt (pSg TT nn 59 (qRt TT nn what sr)))) 6) := by have q : 1 = (up (up (hw [(119, -1), (120, -1), (121, -1), (122, -1), (123, -1), (136, 0)] (hw [(131, 1), (131, 2), (131, 5), (131, 6), (131, 7), (131, 8)] (hw [(131, 1), (131, 2), (131, 5), (131, 6), (131, 7), (131, 8)] G Gj85) G5) G15) 131 this 14 1) 131 this 13 1) 131 this 13 := h96; (repeat' split) <;> omega
          have rd98 : RdC TT nn (pTk what ((pSt (pSg TT nn 59 (qRt TT nn what sr))))) (up (up (hw [(119, -1), (120, -1), (121, -1), (122, -1), (123, -1), (136, 0)] (hw [(131, 1), (131, 2), (131, 5), (131, 6), (131, 7), (131, 8)] (hw [(131, 1), (131, 2), (131, 5), (131, 6), (131, 7), (131, 8)] G Gj85) G5) G15) 131 this 14 1) 131 this 13 1) this tx := rd_mk (rq_tape f24 : _) (rq_end f24 : _) (rq_text f24 : _) (rq_tok f24 : _) (rq_start f24 : _) (rq_at f24 : _) (rq_val f24 : _) (rq_flaw f24 : _) (rq_place f24 : _) (rq_told f24 : _) (rq_cc f24 : _) (rq_fb f24 : _) k97ti k97to (rq_dp f24 : _) (rq_size f24 : _) (rq_o0 f24 : _) (rq_o1 f24 : _) (rq_o2 f24 : _) (rq_a0 f24 : _) (rq_a1 f24 : _) (rq_a2 f24 : _) (rq_b0 f24 : _) (rq_b1 f24 : _) (rq_b2 f24 : _) (rq_m0 f24 : _) (rq_m1 f24 : _) (rq_m2 f24 : _) (rq_ne1 f24 : _) (rq_ne2 f24 : _) (rq_p0 f24 : _) (rq_p1 f24 : _) (rq_n4 f24 : _)
          have hC99 : pTk what ((pSt (pSg TT nn 59 (qRt TT nn what sr)))) = pRt TT nn what sr := by
            rfl
          have hC991 : (pRt TT nn what sr) 1 = (pTk what ((pSt (pSg TT nn 59 (qRt TT nn what sr))))) 1 := congrFun hC99.symm 1
          have ci100 : CI E S (up (up (hw [(119, -1), (120, -1), (121, -1), (122, -1), (123, -1), (136, 0)] (hw [(131, 1), (131, 2), (131, 5), (131, 6), (131, 7), (131, 8)] (hw [(131, 1), (131, 2), (131, 5), (131, 6), (131, 7), (131, 8)] G Gj85) G5) G15) 131 this 14 1) 131 this 13 1) := (ci_up (ci_up ci18 rfl) rfl)
          exact r_retV hX hP rfl rfl (by first | decide | omega) (by first | decide | omega) ⟨rfl, ⟨_, (hw_up (hw_up (hw_sub (hw_sub (hw_sub (hw_refl _ _) rfl) rfl) rfl) rfl) rfl).symm⟩, rfl, sih16, sih16e, (by first | decide | omega), ci100, (rd_cast rd98 hC99)⟩
        · skip
          refine r_ex hX hP 2 (pc' := 153) (st' := [(0, 1), (0, what), (2, this)]) (lo' := [(0, (2, this)), (1, (0, what)), (2, (0, l2_j85)), (3, (0, l3_j85)), (4, (0, l4_j85)), (5, (0, l5_j85)), (6, (0, 1))]) rfl ?_
          refine r_ic_ne hX hP rfl (tgt := 165) rfl (by first | decide | omega) (by first | decide | omega) (by first | decide | omega) (by first | decide | omega) (fun c101 => ?_) (fun c101 => ?_)
          · skip
            refine r_ex hX hP 1 (pc' := 166) (st' := [(0, 0), (2, this)]) (lo' := [(0, (2, this)), (1, (0, what)), (2, (0, l2_j85)), (3, (0, l3_j85)), (4, (0, l4_j85)), (5, (0, l5_j85)), (6, (0, 1))]) rfl ?_
            refine r_putIK hX hP rfl fp_X6_73_131 hS (by first | decide | omega) (by first | decide | omega) (fun h102 => ?_)
            have k103to : (up (up (hw [(119, -1), (120, -1), (121, -1), (122, -1), (123, -1), (136, 0)] (hw [(131, 1), (131, 2), (131, 5), (131, 6), (131, 7), (131, 8)] (hw [(131, 1), (131, 2), (131, 5), (131, 6), (131, 7), (131, 8)] G Gj85) G5) G15) 131 this 14 1) 131 this 13 0) 131 this 14 = (if what = 1 then (if pRw ((pSt (pSg TT nn 59 (qRt TT nn what sr)))) = 3 then 1 else ((pSt (pSg TT nn 59 (qRt TT nn what sr)))) 7) else ((pSt (pSg TT nn 59 (qRt TT nn what sr)))) 7) := by have q : 1 = (up (up (hw [(119, -1), (120, -1), (121, -1), (122, -1), (123, -1), (136, 0)] (hw [(131, 1), (131, 2), (131, 5), (131, 6), (131, 7), (131, 8)] (hw [(131, 1), (131, 2), (131, 5), (131, 6), (131, 7), (131, 8)] G Gj85) G5) G15) 131 this 14 1) 131 this 13 0) 131 this 14 := h92; (repeat' split) <;> omega
            have k103ti : (up (up (hw [(119, -1), (120, -1), (121, -1), (122, -1), (123, -1), (136, 0)] (hw [(131, 1), (131, 2), (131, 5), (131, 6), (131, 7), (131, 8)] (hw [(131, 1), (131, 2), (131, 5), (131, 6), (131, 7), (131, 8)] G Gj85) G5) G15) 131 this 14 1) 131 this 13 0) 131 this 13 = (if what = 1 then (if pRw ((pSt (pSg TT nn 59 (qRt TT nn what sr)))) = 3 then ((pSt (pSg TT nn 59 (qRt TT nn what sr)))) 6 else 1) else ((pSt (pSg TT nn 59 (qRt TT nn what sr)))) 6) := by have q : 0 = (up (up (hw [(119, -1), (120, -1), (121, -1), (122, -1), (123, -1), (136, 0)] (hw [(131, 1), (131, 2), (131, 5), (131, 6), (131, 7), (131, 8)] (hw [(131, 1), (131, 2), (131, 5), (131, 6), (131, 7), (131, 8)] G Gj85) G5) G15) 131 this 14 1) 131 this 13 0) 131 this 13 := h102; (repeat' split) <;> omega
            have rd104 : RdC TT nn (pTk what ((pSt (pSg TT nn 59 (qRt TT nn what sr))))) (up (up (hw [(119, -1), (120, -1), (121, -1), (122, -1), (123, -1), (136, 0)] (hw [(131, 1), (131, 2), (131, 5), (131, 6), (131, 7), (131, 8)] (hw [(131, 1), (131, 2), (131, 5), (131, 6), (131, 7), (131, 8)] G Gj85) G5) G15) 131 this 14 1) 131 this 13 0) this tx := rd_mk (rq_tape f24 : _) (rq_end f24 : _) (rq_text f24 : _) (rq_tok f24 : _) (rq_start f24 : _) (rq_at f24 : _) (rq_val f24 : _) (rq_flaw f24 : _) (rq_place f24 : _) (rq_told f24 : _) (rq_cc f24 : _) (rq_fb f24 : _) k103ti k103to (rq_dp f24 : _) (rq_size f24 : _) (rq_o0 f24 : _) (rq_o1 f24 : _) (rq_o2 f24 : _) (rq_a0 f24 : _) (rq_a1 f24 : _) (rq_a2 f24 : _) (rq_b0 f24 : _) (rq_b1 f24 : _) (rq_b2 f24 : _) (rq_m0 f24 : _) (rq_m1 f24 : _) (rq_m2 f24 : _) (rq_ne1 f24 : _) (rq_ne2 f24 : _) (rq_p0 f24 : _) (rq_p1 f24 : _) (rq_n4 f24 : _)
            have hC105 : pTk what ((pSt (pSg TT nn 59 (qRt TT nn what sr)))) = pRt TT nn what sr := by
              rfl
            have hC1051 : (pRt TT nn what sr) 1 = (pTk what ((pSt (pSg TT nn 59 (qRt TT nn what sr))))) 1 := congrFun hC105.symm 1
            have ci106 : CI E S (up (up (hw [(119, -1), (120, -1), (121, -1), (122, -1), (123, -1), (136, 0)] (hw [(131, 1), (131, 2), (131, 5), (131, 6), (131, 7), (131, 8)] (hw [(131, 1), (131, 2), (131, 5), (131, 6), (131, 7), (131, 8)] G Gj85) G5) G15) 131 this 14 1) 131 this 13 0) := (ci_up (ci_up ci18 rfl) rfl)
            exact r_retV hX hP rfl rfl (by first | decide | omega) (by first | decide | omega) ⟨rfl, ⟨_, (hw_up (hw_up (hw_sub (hw_sub (hw_sub (hw_refl _ _) rfl) rfl) rfl) rfl) rfl).symm⟩, rfl, sih16, sih16e, (by first | decide | omega), ci106, (rd_cast rd104 hC105)⟩
          · skip
            refine r_ex hX hP 1 (pc' := 158) (st' := [(0, 1), (2, this)]) (lo' := [(0, (2, this)), (1, (0, what)), (2, (0, l2_j85)), (3, (0, l3_j85)), (4, (0, l4_j85)), (5, (0, l5_j85)), (6, (0, 1))]) rfl ?_
            refine r_if_ne hX hP rfl (tgt := 165) rfl (by first | decide | omega) (by first | decide | omega) (fun c107 => ?_) (fun c107 => ?_)
            · skip
              refine r_ex hX hP 1 (pc' := 166) (st' := [(0, 0), (2, this)]) (lo' := [(0, (2, this)), (1, (0, what)), (2, (0, l2_j85)), (3, (0, l3_j85)), (4, (0, l4_j85)), (5, (0, l5_j85)), (6, (0, 1))]) rfl ?_
              refine r_putIK hX hP rfl fp_X6_73_131 hS (by first | decide | omega) (by first | decide | omega) (fun h108 => ?_)
              have k109to : (up (up (hw [(119, -1), (120, -1), (121, -1), (122, -1), (123, -1), (136, 0)] (hw [(131, 1), (131, 2), (131, 5), (131, 6), (131, 7), (131, 8)] (hw [(131, 1), (131, 2), (131, 5), (131, 6), (131, 7), (131, 8)] G Gj85) G5) G15) 131 this 14 1) 131 this 13 0) 131 this 14 = (if what = 1 then (if pRw ((pSt (pSg TT nn 59 (qRt TT nn what sr)))) = 3 then 1 else ((pSt (pSg TT nn 59 (qRt TT nn what sr)))) 7) else ((pSt (pSg TT nn 59 (qRt TT nn what sr)))) 7) := by have q : 1 = (up (up (hw [(119, -1), (120, -1), (121, -1), (122, -1), (123, -1), (136, 0)] (hw [(131, 1), (131, 2), (131, 5), (131, 6), (131, 7), (131, 8)] (hw [(131, 1), (131, 2), (131, 5), (131, 6), (131, 7), (131, 8)] G Gj85) G5) G15) 131 this 14 1) 131 this 13 0) 131 this 14 := h92; (repeat' split) <;> omega
              have k109ti : (up (up (hw [(119, -1), (120, -1), (121, -1), (122, -1), (123, -1), (136, 0)] (hw [(131, 1), (131, 2), (131, 5), (131, 6), (131, 7), (131, 8)] (hw [(131, 1), (131, 2), (131, 5), (131, 6), (131, 7), (131, 8)] G Gj85) G5) G15) 131 this 14 1) 131 this 13 0) 131 this 13 = (if what = 1 then (if pRw ((pSt (pSg TT nn 59 (qRt TT nn what sr)))) = 3 then ((pSt (pSg TT nn 59 (qRt TT nn what sr)))) 6 else 1) else ((pSt (pSg TT nn 59 (qRt TT nn what sr)))) 6) := by have q : 0 = (up (up (hw [(119, -1), (120, -1), (121, -1), (122, -1), (123, -1), (136, 0)] (hw [(131, 1), (131, 2), (131, 5), (131, 6), (131, 7), (131, 8)] (hw [(131, 1), (131, 2), (131, 5), (131, 6), (131, 7), (131, 8)] G Gj85) G5) G15) 131 this 14 1) 131 this 13 0) 131 this 13 := h108; (repeat' split) <;> omega
              have rd110 : RdC TT nn (pTk what ((pSt (pSg TT nn 59 (qRt TT nn what sr))))) (up (up (hw [(119, -1), (120, -1), (121, -1), (122, -1), (123, -1), (136, 0)] (hw [(131, 1), (131, 2), (131, 5), (131, 6), (131, 7), (131, 8)] (hw [(131, 1), (131, 2), (131, 5), (131, 6), (131, 7), (131, 8)] G Gj85) G5) G15) 131 this 14 1) 131 this 13 0) this tx := rd_mk (rq_tape f24 : _) (rq_end f24 : _) (rq_text f24 : _) (rq_tok f24 : _) (rq_start f24 : _) (rq_at f24 : _) (rq_val f24 : _) (rq_flaw f24 : _) (rq_place f24 : _) (rq_told f24 : _) (rq_cc f24 : _) (rq_fb f24 : _) k109ti k109to (rq_dp f24 : _) (rq_size f24 : _) (rq_o0 f24 : _) (rq_o1 f24 : _) (rq_o2 f24 : _) (rq_a0 f24 : _) (rq_a1 f24 : _) (rq_a2 f24 : _) (rq_b0 f24 : _) (rq_b1 f24 : _) (rq_b2 f24 : _) (rq_m0 f24 : _) (rq_m1 f24 : _) (rq_m2 f24 : _) (rq_ne1 f24 : _) (rq_ne2 f24 : _) (rq_p0 f24 : _) (rq_p1 f24 : _) (rq_n4 f24 : _)
              have hC111 : pTk what ((pSt (pSg TT nn 59 (qRt TT nn what sr)))) = pRt TT nn what sr := by
                rfl
              have hC1111 : (pRt TT nn what sr) 1 = (pTk what ((pSt (pSg TT nn 59 (qRt TT nn what sr))))) 1 := congrFun hC111.symm 1
              have ci112 : CI E S (up (up (hw [(119, -1), (120, -1), (121, -1), (122, -1), (123, -1), (136, 0)] (hw [(131, 1), (131, 2), (131, 5), (131, 6), (131, 7), (131, 8)] (hw [(131, 1), (131, 2), (131, 5), (131, 6), (131, 7), (131, 8)] G Gj85) G5) G15) 131 this 14 1) 131 this 13 0) := (ci_up (ci_up ci18 rfl) rfl)
              exact r_retV hX hP rfl rfl (by first | decide | omega) (by first | decide | omega) ⟨rfl, ⟨_, (hw_up (hw_up (hw_sub (hw_sub (hw_sub (hw_refl _ _) rfl) rfl) rfl) rfl) rfl).symm⟩, rfl, sih16, sih16e, (by first | decide | omega), ci112, (rd_cast rd110 hC111)⟩
            · skip
              exfalso; omega
      · skip
        refine r_ex hX hP 2 (pc' := 127) (st' := [(0, 1), (0, what), (2, this)]) (lo' := [(0, (2, this)), (1, (0, what)), (2, (0, l2_j85)), (3, (0, l3_j85)), (4, (0, l4_j85)), (5, (0, l5_j85)), (6, (0, 1))]) rfl ?_
        refine r_ic_ne hX hP rfl (tgt := 139) rfl (by first | decide | omega) (by first | decide | omega) (by first | decide | omega) (by first | decide | omega) (fun c113 => ?_) (fun c113 => ?_)
        · skip
          refine r_ex hX hP 1 (pc' := 140) (st' := [(0, 0), (2, this)]) (lo' := [(0, (2, this)), (1, (0, what)), (2, (0, l2_j85)), (3, (0, l3_j85)), (4, (0, l4_j85)), (5, (0, l5_j85)), (6, (0, 1))]) rfl ?_
          refine r_putIK hX hP rfl fp_X6_77_131 hS (by first | decide | omega) (by first | decide | omega) (fun h114 => ?_)
          refine r_ex hX hP 2 (pc' := 145) (st' := [(2, this), (2, this)]) (lo' := [(0, (2, this)), (1, (0, what)), (2, (0, l2_j85)), (3, (0, l3_j85)), (4, (0, l4_j85)), (5, (0, l5_j85)), (6, (0, 1))]) rfl ?_
          refine r_getI hX hP rfl fl_X6_73_131 hS (fun tf115 tf115e tf115a tf115b => ?_)
          have k116 := rq_ti f24
          have k116 := tf115e.trans k116
          refine r_if_ne hX hP rfl (tgt := 161) rfl (by first | decide | omega) (by first | decide | omega) (fun c117 => ?_) (fun c117 => ?_)
          · skip
            refine r_ex hX hP 2 (pc' := 166) (st' := [(0, 1), (2, this)]) (lo' := [(0, (2, this)), (1, (0, what)), (2, (0, l2_j85)), (3, (0, l3_j85)), (4, (0, l4_j85)), (5, (0, l5_j85)), (6, (0, 1))]) rfl ?_
            refine r_putIK hX hP rfl fp_X6_73_131 hS (by first | decide | omega) (by first | decide | omega) (fun h118 => ?_)
            have k119to : (up (up (hw [(119, -1), (120, -1), (121, -1), (122, -1), (123, -1), (136, 0)] (hw [(131, 1), (131, 2), (131, 5), (131, 6), (131, 7), (131, 8)] (hw [(131, 1), (131, 2), (131, 5), (131, 6), (131, 7), (131, 8)] G Gj85) G5) G15) 131 this 14 0) 131 this 13 1) 131 this 14 = (if what = 1 then (if pRw ((pSt (pSg TT nn 59 (qRt TT nn what sr)))) = 3 then 1 else ((pSt (pSg TT nn 59 (qRt TT nn what sr)))) 7) else ((pSt (pSg TT nn 59 (qRt TT nn what sr)))) 7) := by have q : 0 = (up (up (hw [(119, -1), (120, -1), (121, -1), (122, -1), (123, -1), (136, 0)] (hw [(131, 1), (131, 2), (131, 5), (131, 6), (131, 7), (131, 8)] (hw [(131, 1), (131, 2), (131, 5), (131, 6), (131, 7), (131, 8)] G Gj85) G5) G15) 131 this 14 0) 131 this 13 1) 131 this 14 := h114; (repeat' split) <;> omega
            have k119ti : (up (up (hw [(119, -1), (120, -1), (121, -1), (122, -1), (123, -1), (136, 0)] (hw [(131, 1), (131, 2), (131, 5), (131, 6), (131, 7), (131, 8)] (hw [(131, 1), (131, 2), (131, 5), (131, 6), (131, 7), (131, 8)] G Gj85) G5) G15) 131 this 14 0) 131 this 13 1) 131 this 13 = (if what = 1 then (if pRw ((pSt (pSg TT nn 59 (qRt TT nn what sr)))) = 3 then ((pSt (pSg TT nn 59 (qRt TT nn what sr)))) 6 else 1) else ((pSt (pSg TT nn 59 (qRt TT nn what sr)))) 6) := by have q : 1 = (up (up (hw [(119, -1), (120, -1), (121, -1), (122, -1), (123, -1), (136, 0)] (hw [(131, 1), (131, 2), (131, 5), (131, 6), (131, 7), (131, 8)] (hw [(131, 1), (131, 2), (131, 5), (131, 6), (131, 7), (131, 8)] G Gj85) G5) G15) 131 this 14 0) 131 this 13 1) 131 this 13 := h118; (repeat' split) <;> omega
            have rd120 : RdC TT nn (pTk what ((pSt (pSg TT nn 59 (qRt TT nn what sr))))) (up (up (hw [(119, -1), (120, -1), (121, -1), (122, -1), (123, -1), (136, 0)] (hw [(131, 1), (131, 2), (131, 5), (131, 6), (131, 7), (131, 8)] (hw [(131, 1), (131, 2), (131, 5), (131, 6), (131, 7), (131, 8)] G Gj85) G5) G15) 131 this 14 0) 131 this 13 1) this tx := rd_mk (rq_tape f24 : _) (rq_end f24 : _) (rq_text f24 : _) (rq_tok f24 : _) (rq_start f24 : _) (rq_at f24 : _) (rq_val f24 : _) (rq_flaw f24 : _) (rq_place f24 : _) (rq_told f24 : _) (rq_cc f24 : _) (rq_fb f24 : _) k119ti k119to (rq_dp f24 : _) (rq_size f24 : _) (rq_o0 f24 : _) (rq_o1 f24 : _) (rq_o2 f24 : _) (rq_a0 f24 : _) (rq_a1 f24 : _) (rq_a2 f24 : _) (rq_b0 f24 : _) (rq_b1 f24 : _) (rq_b2 f24 : _) (rq_m0 f24 : _) (rq_m1 f24 : _) (rq_m2 f24 : _) (rq_ne1 f24 : _) (rq_ne2 f24 : _) (rq_p0 f24 : _) (rq_p1 f24 : _) (rq_n4 f24 : _)
            have hC121 : pTk what ((pSt (pSg TT nn 59 (qRt TT nn what sr)))) = pRt TT nn what sr := by
              rfl
            have hC1211 : (pRt TT nn what sr) 1 = (pTk what ((pSt (pSg TT nn 59 (qRt TT nn what sr))))) 1 := congrFun hC121.symm 1
            have ci122 : CI E S (up (up (hw [(119, -1), (120, -1), (121, -1), (122, -1), (123, -1), (136, 0)] (hw [(131, 1), (131, 2), (131, 5), (131, 6), (131, 7), (131, 8)] (hw [(131, 1), (131, 2), (131, 5), (131, 6), (131, 7), (131, 8)] G Gj85) G5) G15) 131 this 14 0) 131 this 13 1) := (ci_up (ci_up ci18 rfl) rfl)
            exact r_retV hX hP rfl rfl (by first | decide | omega) (by first | decide | omega) ⟨rfl, ⟨_, (hw_up (hw_up (hw_sub (hw_sub (hw_sub (hw_refl _ _) rfl) rfl) rfl) rfl) rfl).symm⟩, rfl, sih16, sih16e, (by first | decide | omega), ci122, (rd_cast rd120 hC121)⟩
          · skip
            refine r_ex hX hP 2 (pc' := 153) (st' := [(0, 1), (0, what), (2, this)]) (lo' := [(0, (2, this)), (1, (0, what)), (2, (0, l2_j85)), (3, (0, l3_j85)), (4, (0, l4_j85)), (5, (0, l5_j85)), (6, (0, 1))]) rfl ?_
            refine r_ic_ne hX hP rfl (tgt := 165) rfl (by first | decide | omega) (by first | decide | omega) (by first | decide | omega) (by first | decide | omega) (fun c123 => ?_) (fun c123 => ?_)
            · skip
              refine r_ex hX hP 1 (pc' := 166) (st' := [(0, 0), (2, this)]) (lo' := [(0, (2, this)), (1, (0, what)), (2, (0, l2_j85)), (3, (0, l3_j85)), (4, (0, l4_j85)), (5, (0, l5_j85)), (6, (0, 1))]) rfl ?_
              refine r_putIK hX hP rfl fp_X6_73_131 hS (by first | decide | omega) (by first | decide | omega) (fun h124 => ?_)
              have k125to : (up (up (hw [(119, -1), (120, -1), (121, -1), (122, -1), (123, -1), (136, 0)] (hw [(131, 1), (131, 2), (131, 5), (131, 6), (131, 7), (131, 8)] (hw [(131, 1), (131, 2), (131, 5), (131, 6), (131, 7), (131, 8)] G Gj85) G5) G15) 131 this 14 0) 131 this 13 0) 131 this 14 = (if what = 1 then (if pRw ((pSt (pSg TT nn 59 (qRt TT nn what sr)))) = 3 then 1 else ((pSt (pSg TT nn 59 (qRt TT nn what sr)))) 7) else ((pSt (pSg TT nn 59 (qRt TT nn what sr)))) 7) := by have q : 0 = (up (up (hw [(119, -1), (120, -1), (121, -1), (122, -1), (123, -1), (136, 0)] (hw [(131, 1), (131, 2), (131, 5), (131, 6), (131, 7), (131, 8)] (hw [(131, 1), (131, 2), (131, 5), (131, 6), (131, 7), (131, 8)] G Gj85) G5) G15) 131 this 14 0) 131 this 13 0) 131 this 14 := h114; (repeat' split) <;> omega
              have k125ti : (up (up (hw [(119, -1), (120, -1), (121, -1), (122, -1), (123, -1), (136, 0)] (hw [(131, 1), (131, 2), (131, 5), (131, 6), (131, 7), (131, 8)] (hw [(131, 1), (131, 2), (131, 5), (131, 6), (131, 7), (131, 8)] G Gj85) G5) G15) 131 this 14 0) 131 this 13 0) 131 this 13 = (if what = 1 then (if pRw ((pSt (pSg TT nn 59 (qRt TT nn what sr)))) = 3 then ((pSt (pSg TT nn 59 (qRt TT nn what sr)))) 6 else 1) else ((pSt (pSg TT nn 59 (qRt TT nn what sr)))) 6) := by have q : 0 = (up (up (hw [(119, -1), (120, -1), (121, -1), (122, -1), (123, -1), (136, 0)] (hw [(131, 1), (131, 2), (131, 5), (131, 6), (131, 7), (131, 8)] (hw [(131, 1), (131, 2), (131, 5), (131, 6), (131, 7), (131, 8)] G Gj85) G5) G15) 131 this 14 0) 131 this 13 0) 131 this 13 := h124; (repeat' split) <;> omega
              have rd126 : RdC TT nn (pTk what ((pSt (pSg TT nn 59 (qRt TT nn what sr))))) (up (up (hw [(119, -1), (120, -1), (121, -1), (122, -1), (123, -1), (136, 0)] (hw [(131, 1), (131, 2), (131, 5), (131, 6), (131, 7), (131, 8)] (hw [(131, 1), (131, 2), (131, 5), (131, 6), (131, 7), (131, 8)] G Gj85) G5) G15) 131 this 14 0) 131 this 13 0) this tx := rd_mk (rq_tape f24 : _) (rq_end f24 : _) (rq_text f24 : _) (rq_tok f24 : _) (rq_start f24 : _) (rq_at f24 : _) (rq_val f24 : _) (rq_flaw f24 : _) (rq_place f24 : _) (rq_told f24 : _) (rq_cc f24 : _) (rq_fb f24 : _) k125ti k125to (rq_dp f24 : _) (rq_size f24 : _) (rq_o0 f24 : _) (rq_o1 f24 : _) (rq_o2 f24 : _) (rq_a0 f24 : _) (rq_a1 f24 : _) (rq_a2 f24 : _) (rq_b0 f24 : _) (rq_b1 f24 : _) (rq_b2 f24 : _) (rq_m0 f24 : _) (rq_m1 f24 : _) (rq_m2 f24 : _) (rq_ne1 f24 : _) (rq_ne2 f24 : _) (rq_p0 f24 : _) (rq_p1 f24 : _) (rq_n4 f24 : _)
              have hC127 : pTk what ((pSt (pSg TT nn 59 (qRt TT nn what sr)))) = pRt TT nn what sr := by
                rfl
              have hC1271 : (pRt TT nn what sr) 1 = (pTk what ((pSt (pSg TT nn 59 (qRt TT nn what sr))))) 1 := congrFun hC127.symm 1
              have ci128 : CI E S (up (up (hw [(119, -1), (120, -1), (121, -1), (122, -1), (123, -1), (136, 0)] (hw [(131, 1), (131, 2), (131, 5), (131, 6), (131, 7), (131, 8)] (hw [(131, 1), (131, 2), (131, 5), (131, 6), (131, 7), (131, 8)] G Gj85) G5) G15) 131 this 14 0) 131 this 13 0) := (ci_up (ci_up ci18 rfl) rfl)
              exact r_retV hX hP rfl rfl (by first | decide | omega) (by first | decide | omega) ⟨rfl, ⟨_, (hw_up (hw_up (hw_sub (hw_sub (hw_sub (hw_refl _ _) rfl) rfl) rfl) rfl) rfl).symm⟩, rfl, sih16, sih16e, (by first | decide | omega), ci128, (rd_cast rd126 hC127)⟩
            · skip
              refine r_ex hX hP 1 (pc' := 158) (st' := [(0, 1), (2, this)]) (lo' := [(0, (2, this)), (1, (0, what)), (2, (0, l2_j85)), (3, (0, l3_j85)), (4, (0, l4_j85)), (5, (0, l5_j85)), (6, (0, 1))]) rfl ?_
              refine r_if_ne hX hP rfl (tgt := 165) rfl (by first | decide | omega) (by first | decide | omega) (fun c129 => ?_) (fun c129 => ?_)
              · skip
                refine r_ex hX hP 1 (pc' := 166) (st' := [(0, 0), (2, this)]) (lo' := [(0, (2, this)), (1, (0, what)), (2, (0, l2_j85)), (3, (0, l3_j85)), (4, (0, l4_j85)), (5, (0, l5_j85)), (6, (0, 1))]) rfl ?_
                refine r_putIK hX hP rfl fp_X6_73_131 hS (by first | decide | omega) (by first | decide | omega) (fun h130 => ?_)
                have k131to : (up (up (hw [(119, -1), (120, -1), (121, -1), (122, -1), (123, -1), (136, 0)] (hw [(131, 1), (131, 2), (131, 5), (131, 6), (131, 7), (131, 8)] (hw [(131, 1), (131, 2), (131, 5), (131, 6), (131, 7), (131, 8)] G Gj85) G5) G15) 131 this 14 0) 131 this 13 0) 131 this 14 = (if what = 1 then (if pRw ((pSt (pSg TT nn 59 (qRt TT nn what sr)))) = 3 then 1 else ((pSt (pSg TT nn 59 (qRt TT nn what sr)))) 7) else ((pSt (pSg TT nn 59 (qRt TT nn what sr)))) 7) := by have q : 0 = (up (up (hw [(119, -1), (120, -1), (121, -1), (122, -1), (123, -1), (136, 0)] (hw [(131, 1), (131, 2), (131, 5), (131, 6), (131, 7), (131, 8)] (hw [(131, 1), (131, 2), (131, 5), (131, 6), (131, 7), (131, 8)] G Gj85) G5) G15) 131 this 14 0) 131 this 13 0) 131 this 14 := h114; (repeat' split) <;> omega
                have k131ti : (up (up (hw [(119, -1), (120, -1), (121, -1), (122, -1), (123, -1), (136, 0)] (hw [(131, 1), (131, 2), (131, 5), (131, 6), (131, 7), (131, 8)] (hw [(131, 1), (131, 2), (131, 5), (131, 6), (131, 7), (131, 8)] G Gj85) G5) G15) 131 this 14 0) 131 this 13 0) 131 this 13 = (if what = 1 then (if pRw ((pSt (pSg TT nn 59 (qRt TT nn what sr)))) = 3 then ((pSt (pSg TT nn 59 (qRt TT nn what sr)))) 6 else 1) else ((pSt (pSg TT nn 59 (qRt TT nn what sr)))) 6) := by have q : 0 = (up (up (hw [(119, -1), (120, -1), (121, -1), (122, -1), (123, -1), (136, 0)] (hw [(131, 1), (131, 2), (131, 5), (131, 6), (131, 7), (131, 8)] (hw [(131, 1), (131, 2), (131, 5), (131, 6), (131, 7), (131, 8)] G Gj85) G5) G15) 131 this 14 0) 131 this 13 0) 131 this 13 := h130; (repeat' split) <;> omega
                have rd132 : RdC TT nn (pTk what ((pSt (pSg TT nn 59 (qRt TT nn what sr))))) (up (up (hw [(119, -1), (120, -1), (121, -1), (122, -1), (123, -1), (136, 0)] (hw [(131, 1), (131, 2), (131, 5), (131, 6), (131, 7), (131, 8)] (hw [(131, 1), (131, 2), (131, 5), (131, 6), (131, 7), (131, 8)] G Gj85) G5) G15) 131 this 14 0) 131 this 13 0) this tx := rd_mk (rq_tape f24 : _) (rq_end f24 : _) (rq_text f24 : _) (rq_tok f24 : _) (rq_start f24 : _) (rq_at f24 : _) (rq_val f24 : _) (rq_flaw f24 : _) (rq_place f24 : _) (rq_told f24 : _) (rq_cc f24 : _) (rq_fb f24 : _) k131ti k131to (rq_dp f24 : _) (rq_size f24 : _) (rq_o0 f24 : _) (rq_o1 f24 : _) (rq_o2 f24 : _) (rq_a0 f24 : _) (rq_a1 f24 : _) (rq_a2 f24 : _) (rq_b0 f24 : _) (rq_b1 f24 : _) (rq_b2 f24 : _) (rq_m0 f24 : _) (rq_m1 f24 : _) (rq_m2 f24 : _) (rq_ne1 f24 : _) (rq_ne2 f24 : _) (rq_p0 f24 : _) (rq_p1 f24 : _) (rq_n4 f24 : _)
                have hC133 : pTk what ((pSt (pSg TT nn 59 (qRt TT nn what sr)))) = pRt TT nn what sr := by
                  rfl
                have hC1331 : (pRt TT nn what sr) 1 = (pTk what ((pSt (pSg TT nn 59 (qRt TT nn what sr))))) 1 := congrFun hC133.symm 1
                have ci134 : CI E S (up (up (hw [(119, -1), (120, -1), (121, -1), (122, -1), (123, -1), (136, 0)] (hw [(131, 1), (131, 2), (131, 5), (131, 6), (131, 7), (131, 8)] (hw [(131, 1), (131, 2), (131, 5), (131, 6), (131, 7), (131, 8)] G Gj85) G5) G15) 131 this 14 0) 131 this 13 0) := (ci_up (ci_up ci18 rfl) rfl)
                exact r_retV hX hP rfl rfl (by first | decide | omega) (by first | decide | omega) ⟨rfl, ⟨_, (hw_up (hw_up (hw_sub (hw_sub (hw_sub (hw_refl _ _) rfl) rfl) rfl) rfl) rfl).symm⟩, rfl, sih16, sih16e, (by first | decide | omega), ci134, (rd_cast rd132 hC133)⟩
              · skip
                exfalso; omega
        · skip
          refine r_ex hX hP 1 (pc' := 132) (st' := [(0, 1), (2, this)]) (lo' := [(0, (2, this)), (1, (0, what)), (2, (0, l2_j85)), (3, (0, l3_j85)), (4, (0, l4_j85)), (5, (0, l5_j85)), (6, (0, 1))]) rfl ?_
          refine r_if_eq hX hP rfl (tgt := 139) rfl (by first | decide | omega) (by first | decide | omega) (fun c135 => ?_) (fun c135 => ?_)
          · skip
            exfalso; omega
          · skip
            refine r_ex hX hP 2 (pc' := 140) (st' := [(0, 1), (2, this)]) (lo' := [(0, (2, this)), (1, (0, what)), (2, (0, l2_j85)), (3, (0, l3_j85)), (4, (0, l4_j85)), (5, (0, l5_j85)), (6, (0, 1))]) rfl ?_
            refine r_putIK hX hP rfl fp_X6_77_131 hS (by first | decide | omega) (by first | decide | omega) (fun h136 => ?_)
            refine r_ex hX hP 2 (pc' := 145) (st' := [(2, this), (2, this)]) (lo' := [(0, (2, this)), (1, (0, what)), (2, (0, l2_j85)), (3, (0, l3_j85)), (4, (0, l4_j85)), (5, (0, l5_j85)), (6, (0, 1))]) rfl ?_
            refine r_getI hX hP rfl fl_X6_73_131 hS (fun tf137 tf137e tf137a tf137b => ?_)
            have k138 := rq_ti f24
            have k138 := tf137e.trans k138
            refine r_if_ne hX hP rfl (tgt := 161) rfl (by first | decide | omega) (by first | decide | omega) (fun c139 => ?_) (fun c139 => ?_)
            · skip
              refine r_ex hX hP 2 (pc' := 166) (st' := [(0, 1), (2, this)]) (lo' := [(0, (2, this)), (1, (0, what)), (2, (0, l2_j85)), (3, (0, l3_j85)), (4, (0, l4_j85)), (5, (0, l5_j85)), (6, (0, 1))]) rfl ?_
              refine r_putIK hX hP rfl fp_X6_73_131 hS (by first | decide | omega) (by first | decide | omega) (fun h140 => ?_)
              have k141to : (up (up (hw [(119, -1), (120, -1), (121, -1), (122, -1), (123, -1), (136, 0)] (hw [(131, 1), (131, 2), (131, 5), (131, 6), (131, 7), (131, 8)] (hw [(131, 1), (131, 2), (131, 5), (131, 6), (131, 7), (131, 8)] G Gj85) G5) G15) 131 this 14 1) 131 this 13 1) 131 this 14 = (if what = 1 then (if pRw ((pSt (pSg TT nn 59 (qRt TT nn what sr)))) = 3 then 1 else ((pSt (pSg TT nn 59 (qRt TT nn what sr)))) 7) else ((pSt (pSg TT nn 59 (qRt TT nn what sr)))) 7) := by have q : 1 = (up (up (hw [(119, -1), (120, -1), (121, -1), (122, -1), (123, -1), (136, 0)] (hw [(131, 1), (131, 2), (131, 5), (131, 6), (131, 7), (131, 8)] (hw [(131, 1), (131, 2), (131, 5), (131, 6), (131, 7), (131, 8)] G Gj85) G5) G15) 131 this 14 1) 131 this 13 1) 131 this 14 := h136; (repeat' split) <;> omega
              have k141ti : (up (up (hw [(119, -1), (120, -1), (121, -1), (122, -1), (123, -1), (136, 0)] (hw [(131, 1), (131, 2), (131, 5), (131, 6), (131, 7), (131, 8)] (hw [(131, 1), (131, 2), (131, 5), (131, 6), (131, 7), (131, 8)] G Gj85) G5) G15) 131 this 14 1) 131 this 13 1) 131 this 13 = (if what = 1 then (if pRw ((pSt (pSg TT nn 59 (qRt TT nn what sr)))) = 3 then ((pSt (pSg TT nn 59 (qRt TT nn what sr)))) 6 else 1) else ((pSt (pSg TT nn 59 (qRt TT nn what sr)))) 6) := by have q : 1 = (up (up (hw [(119, -1), (120, -1), (121, -1), (122, -1), (123, -1), (136, 0)] (hw [(131, 1), (131, 2), (131, 5), (131, 6), (131, 7), (131, 8)] (hw [(131, 1), (131, 2), (131, 5), (131, 6), (131, 7), (131, 8)] G Gj85) G5) G15) 131 this 14 1) 131 this 13 1) 131 this 13 := h140; (repeat' split) <;> omega
              have rd142 : RdC TT nn (pTk what ((pSt (pSg TT nn 59 (qRt TT nn what sr))))) (up (up (hw [(119, -1), (120, -1), (121, -1), (122, -1), (123, -1), (136, 0)] (hw [(131, 1), (131, 2), (131, 5), (131, 6), (131, 7), (131, 8)] (hw [(131, 1), (131, 2), (131, 5), (131, 6), (131, 7), (131, 8)] G Gj85) G5) G15) 131 this 14 1) 131 this 13 1) this tx := rd_mk (rq_tape f24 : _) (rq_end f24 : _) (rq_text f24 : _) (rq_tok f24 : _) (rq_start f24 : _) (rq_at f24 : _) (rq_val f24 : _) (rq_flaw f24 : _) (rq_place f24 : _) (rq_told f24 : _) (rq_cc f24 : _) (rq_fb f24 : _) k141ti k141to (rq_dp f24 : _) (rq_size f24 : _) (rq_o0 f24 : _) (rq_o1 f24 : _) (rq_o2 f24 : _) (rq_a0 f24 : _) (rq_a1 f24 : _) (rq_a2 f24 : _) (rq_b0 f24 : _) (rq_b1 f24 : _) (rq_b2 f24 : _) (rq_m0 f24 : _) (rq_m1 f24 : _) (rq_m2 f24 : _) (rq_ne1 f24 : _) (rq_ne2 f24 : _) (rq_p0 f24 : _) (rq_p1 f24 : _) (rq_n4 f24 : _)
              have hC143 : pTk what ((pSt (pSg TT nn 59 (qRt TT nn what sr)))) = pRt TT nn what sr := by
                rfl
              have hC1431 : (pRt TT nn what sr) 1 = (pTk what ((pSt (pSg TT nn 59 (qRt TT nn what sr))))) 1 := congrFun hC143.symm 1
              have ci144 : CI E S (up (up (hw [(119, -1), (120, -1), (121, -1), (122, -1), (123, -1), (136, 0)] (hw [(131, 1), (131, 2), (131, 5), (131, 6), (131, 7), (131, 8)] (hw [(131, 1), (131, 2), (131, 5), (131, 6), (131, 7), (131, 8)] G Gj85) G5) G15) 131 this 14 1) 131 this 13 1) := (ci_up (ci_up ci18 rfl) rfl)
              exact r_retV hX hP rfl rfl (by first | decide | omega) (by first | decide | omega) ⟨rfl, ⟨_, (hw_up (hw_up (hw_sub (hw_sub (hw_sub (hw_refl _ _) rfl) rfl) rfl) rfl) rfl).symm⟩, rfl, sih16, sih16e, (by first | decide | omega), ci144, (rd_cast rd142 hC143)⟩
            · skip
              refine r_ex hX hP 2 (pc' := 153) (st' := [(0, 1), (0, what), (2, this)]) (lo' := [(0, (2, this)), (1, (0, what)), (2, (0, l2_j85)), (3, (0, l3_j85)), (4, (0, l4_j85)), (5, (0, l5_j85)), (6, (0, 1))]) rfl ?_
              refine r_ic_ne hX hP rfl (tgt := 165) rfl (by first | decide | omega) (by first | decide | omega) (by first | decide | omega) (by first | decide | omega) (fun c145 => ?_) (fun c145 => ?_)
              · skip
                exfalso; omega
              · skip
                refine r_ex hX hP 1 (pc' := 158) (st' := [(0, 1), (2, this)]) (lo' := [(0, (2, this)), (1, (0, what)), (2, (0, l2_j85)), (3, (0, l3_j85)), (4, (0, l4_j85)), (5, (0, l5_j85)), (6, (0, 1))]) rfl ?_
                refine r_if_ne hX hP rfl (tgt := 165) rfl (by first | decide | omega) (by first | decide | omega) (fun c146 => ?_) (fun c146 => ?_)
                · skip
                  refine r_ex hX hP 1 (pc' := 166) (st' := [(0, 0), (2, this)]) (lo' := [(0, (2, this)), (1, (0, what)), (2, (0, l2_j85)), (3, (0, l3_j85)), (4, (0, l4_j85)), (5, (0, l5_j85)), (6, (0, 1))]) rfl ?_
                  refine r_putIK hX hP rfl fp_X6_73_131 hS (by first | decide | omega) (by first | decide | omega) (fun h147 => ?_)
                  have k148to : (up (up (hw [(119, -1), (120, -1), (121, -1), (122, -1), (123, -1), (136, 0)] (hw [(131, 1), (131, 2), (131, 5), (131, 6), (131, 7), (131, 8)] (hw [(131, 1), (131, 2), (131, 5), (131, 6), (131, 7), (131, 8)] G Gj85) G5) G15) 131 this 14 1) 131 this 13 0) 131 this 14 = (if what = 1 then (if pRw ((pSt (pSg TT nn 59 (qRt TT nn what sr)))) = 3 then 1 else ((pSt (pSg TT nn 59 (qRt TT nn what sr)))) 7) else ((pSt (pSg TT nn 59 (qRt TT nn what sr)))) 7) := by have q : 1 = (up (up (hw [(119, -1), (120, -1), (121, -1), (122, -1), (123, -1), (136, 0)] (hw [(131, 1), (131, 2), (131, 5), (131, 6), (131, 7), (131, 8)] (hw [(131, 1), (131, 2), (131, 5), (131, 6), (131, 7), (131, 8)] G Gj85) G5) G15) 131 this 14 1) 131 this 13 0) 131 this 14 := h136; (repeat' split) <;> omega
                  have k148ti : (up (up (hw [(119, -1), (120, -1), (121, -1), (122, -1), (123, -1), (136, 0)] (hw [(131, 1), (131, 2), (131, 5), (131, 6), (131, 7), (131, 8)] (hw [(131, 1), (131, 2), (131, 5), (131, 6), (131, 7), (131, 8)] G Gj85) G5) G15) 131 this 14 1) 131 this 13 0) 131 this 13 = (if what = 1 then (if pRw ((pSt (pSg TT nn 59 (qRt TT nn what sr)))) = 3 then ((pSt (pSg TT nn 59 (qRt TT nn what sr)))) 6 else 1) else ((pSt (pSg TT nn 59 (qRt TT nn what sr)))) 6) := by have q : 0 = (up (up (hw [(119, -1), (120, -1), (121, -1), (122, -1), (123, -1), (136, 0)] (hw [(131, 1), (131, 2), (131, 5), (131, 6), (131, 7), (131, 8)] (hw [(131, 1), (131, 2), (131, 5), (131, 6), (131, 7), (131, 8)] G Gj85) G5) G15) 131 this 14 1) 131 this 13 0) 131 this 13 := h147; (repeat' split) <;> omega
                  have rd149 : RdC TT nn (pTk what ((pSt (pSg TT nn 59 (qRt TT nn what sr))))) (up (up (hw [(119, -1), (120, -1), (121, -1), (122, -1), (123, -1), (136, 0)] (hw [(131, 1), (131, 2), (131, 5), (131, 6), (131, 7), (131, 8)] (hw [(131, 1), (131, 2), (131, 5), (131, 6), (131, 7), (131, 8)] G Gj85) G5) G15) 131 this 14 1) 131 this 13 0) this tx := rd_mk (rq_tape f24 : _) (rq_end f24 : _) (rq_text f24 : _) (rq_tok f24 : _) (rq_start f24 : _) (rq_at f24 : _) (rq_val f24 : _) (rq_flaw f24 : _) (rq_place f24 : _) (rq_told f24 : _) (rq_cc f24 : _) (rq_fb f24 : _) k148ti k148to (rq_dp f24 : _) (rq_size f24 : _) (rq_o0 f24 : _) (rq_o1 f24 : _) (rq_o2 f24 : _) (rq_a0 f24 : _) (rq_a1 f24 : _) (rq_a2 f24 : _) (rq_b0 f24 : _) (rq_b1 f24 : _) (rq_b2 f24 : _) (rq_m0 f24 : _) (rq_m1 f24 : _) (rq_m2 f24 : _) (rq_ne1 f24 : _) (rq_ne2 f24 : _) (rq_p0 f24 : _) (rq_p1 f24 : _) (rq_n4 f24 : _)
                  have hC150 : pTk what ((pSt (pSg TT nn 59 (qRt TT nn what sr)))) = pRt TT nn what sr := by
                    rfl
                  have hC1501 : (pRt TT nn what sr) 1 = (pTk what ((pSt (pSg TT nn 59 (qRt TT nn what sr))))) 1 := congrFun hC150.symm 1
                  have ci151 : CI E S (up (up (hw [(119, -1), (120, -1), (121, -1), (122, -1), (123, -1), (136, 0)] (hw [(131, 1), (131, 2), (131, 5), (131, 6), (131, 7), (131, 8)] (hw [(131, 1), (131, 2), (131, 5), (131, 6), (131, 7), (131, 8)] G Gj85) G5) G15) 131 this 14 1) 131 this 13 0) := (ci_up (ci_up ci18 rfl) rfl)
                  exact r_retV hX hP rfl rfl (by first | decide | omega) (by first | decide | omega) ⟨rfl, ⟨_, (hw_up (hw_up (hw_sub (hw_sub (hw_sub (hw_refl _ _) rfl) rfl) rfl) rfl) rfl).symm⟩, rfl, sih16, sih16e, (by first | decide | omega), ci151, (rd_cast rd149 hC150)⟩
                · skip
                  exfalso; omega
  refine r_ex hX hP 1 (pc' := 1) (st' := [(0, what)]) (lo' := [(0, (2, this)), (1, (0, what))]) rfl ?_
  refine r_if_eq hX hP rfl (tgt := 9) rfl (by first | decide | omega) (by first | decide | omega) (fun c152 => ?_) (fun c152 => ?_)
  · skip
    refine r_ex hX hP 4 (pc' := 16) (st' := [(0, 1)]) (lo' := [(0, (2, this)), (1, (0, what)), (2, (0, 1))]) rfl ?_
    refine r_if_eq hX hP rfl (tgt := 30) rfl (by first | decide | omega) (by first | decide | omega) (fun c153 => ?_) (fun c153 => ?_)
    · skip
      exfalso; omega
    · skip
      refine r_ex hX hP 3 (pc' := 24) (st' := [(0, 1000), (0, 1), (2, this)]) (lo' := [(0, (2, this)), (1, (0, what)), (2, (0, 1))]) rfl ?_
      refine r_peekI hX (tl_131 1 rfl (by decide)) hS (fun flp154 flp154e flp154a flp154b => ?_)
      have k155 := rq_flaw rd
      have k155 := flp154e.trans k155
      refine r_callV gd hX hP rfl cv_X6_196_131 hS (d' := 2) (mc' := 0) (ms' := 0) (as' := [(0, 1), (0, 1000)]) (st := []) (by first | decide | omega) (by first | decide | omega) (by first | decide | omega) rfl rfl (Nat.le_of_ble_eq_true rfl) (c_X6_numberR E S G this 1 1000 hS tx tx_e tx_s flp154 flp154e (by first | decide | omega) (by first | decide | omega) (by first | decide | omega) (by first | decide | omega) TT nn sr rd) ?_
      rintro _ _ _ ⟨rfl, ⟨G156, rfl⟩, z157, rfl, flh158, flh158e, z157a, z157b, f159, f160⟩
      have k161 := rq_flaw f160
      have k161 := flh158e.trans k161
      refine r_peekI hX (tl_131 1 rfl (by decide)) hS (fun o162 o162e o162a o162b => ?_)
      obtain rfl : flh158 = o162 := flh158e.trans o162e.symm
      refine r_ex hX hP 5 (pc' := 42) (st' := [(0, what)]) (lo' := [(0, (2, this)), (1, (0, what)), (2, (0, 1)), (3, (0, z157)), (4, (0, (-1)))]) rfl ?_
      refine r_if_ne hX hP rfl (tgt := 60) rfl (by first | decide | omega) (by first | decide | omega) (fun c163 => ?_) (fun c163 => ?_)
      · skip
        exfalso; omega
      · skip
        refine r_ex hX hP 1 (pc' := 46) (st' := [(2, this)]) (lo' := [(0, (2, this)), (1, (0, what)), (2, (0, 1)), (3, (0, z157)), (4, (0, (-1)))]) rfl ?_
        refine r_ldcS hX hP rfl (k := 18) (by decide) rfl rfl ?_
        refine r_callV gd hX hP rfl cv_X6_202_131 hS (d' := 5) (mc' := 0) (ms' := 0) (as' := [(2, (sK E 18))]) (st := []) (by first | decide | omega) (by first | decide | omega) (by first | decide | omega) rfl rfl (Nat.le_of_ble_eq_true rfl) (c_X6_keywordR E S (hw [(131, 1), (131, 2), (131, 5), (131, 6), (131, 7), (131, 8)] G G156) this 18 hS (by decide) tx tx_e tx_s flh158 flh158e TT nn (pNb TT nn 1 1000 sr) f160) ?_
        rintro _ _ _ ⟨rfl, ⟨G164, rfl⟩, rfl, flh165, flh165e, f166, f167⟩
        have k168 := rq_flaw f167
        have k168 := flh165e.trans k168
        refine r_peekI hX (tl_131 1 rfl (by decide)) hS (fun o169 o169e o169a o169b => ?_)
        obtain rfl : flh165 = o169 := flh165e.trans o169e.symm
        refine r_ex hX hP 3 (pc' := 55) (st' := [(0, 19), (0, 0), (2, this)]) (lo' := [(0, (2, this)), (1, (0, what)), (2, (0, 1)), (3, (0, z157)), (4, (0, (-1)))]) rfl ?_
        refine r_callV gd hX hP rfl cv_X6_196_131 hS (d' := 2) (mc' := 0) (ms' := 0) (as' := [(0, 0), (0, 19)]) (st := []) (by first | decide | omega) (by first | decide | omega) (by first | decide | omega) rfl rfl (Nat.le_of_ble_eq_true rfl) (c_X6_numberR E S (hw [(131, 1), (131, 2), (131, 5), (131, 6), (131, 7), (131, 8)] (hw [(131, 1), (131, 2), (131, 5), (131, 6), (131, 7), (131, 8)] G G156) G164) this 0 19 hS tx tx_e tx_s flh165 flh165e (by first | decide | omega) (by first | decide | omega) (by first | decide | omega) (by first | decide | omega) TT nn (pKd TT nn 18 (pNb TT nn 1 1000 sr)) f167) ?_
        rintro _ _ _ ⟨rfl, ⟨G170, rfl⟩, z171, rfl, flh172, flh172e, z171a, z171b, f173, f174⟩
        have k175 := rq_flaw f174
        have k175 := flh172e.trans k175
        refine r_peekI hX (tl_131 1 rfl (by decide)) hS (fun o176 o176e o176a o176b => ?_)
        obtain rfl : flh172 = o176 := flh172e.trans o176e.symm
        refine r_ex hX hP 2 (pc' := 61) (st' := [(2, this)]) (lo' := [(0, (2, this)), (1, (0, what)), (2, (0, 1)), (3, (0, z157)), (4, (0, z171))]) rfl ?_
        refine r_ldcS hX hP rfl (k := 19) (by decide) rfl rfl ?_
        refine r_callV gd hX hP rfl cv_X6_202_131 hS (d' := 5) (mc' := 0) (ms' := 0) (as' := [(2, (sK E 19))]) (st := []) (by first | decide | omega) (by first | decide | omega) (by first | decide | omega) rfl rfl (Nat.le_of_ble_eq_true rfl) (c_X6_keywordR E S (hw [(131, 1), (131, 2), (131, 5), (131, 6), (131, 7), (131, 8)] (hw [(131, 1), (131, 2), (131, 5), (131, 6), (131, 7), (131, 8)] (hw [(131, 1), (131, 2), (131, 5), (131, 6), (131, 7), (131, 8)] G G156) G164) G170) this 19 hS (by decide) tx tx_e tx_s flh172 flh172e TT nn (pNb TT nn 0 19 (pKd TT nn 18 (pNb TT nn 1 1000 sr))) f174) ?_
        rintro _ _ _ ⟨rfl, ⟨G177, rfl⟩, rfl, flh178, flh178e, f179, f180⟩
        have k181 := rq_flaw f180
        have k181 := flh178e.trans k181
        refine r_peekI hX (tl_131 1 rfl (by decide)) hS (fun o182 o182e o182a o182b => ?_)
        obtain rfl : flh178 = o182 := flh178e.trans o182e.symm
        refine r_ex hX hP 3 (pc' := 69) (st' := [(0, 1), (0, what), (2, this)]) (lo' := [(0, (2, this)), (1, (0, what)), (2, (0, 1)), (3, (0, z157)), (4, (0, z171))]) rfl ?_
        refine r_ic_ne hX hP rfl (tgt := 76) rfl (by first | decide | omega) (by first | decide | omega) (by first | decide | omega) (by first | decide | omega) (fun c183 => ?_) (fun c183 => ?_)
        · skip
          refine r_ex hX hP 2 (pc' := 80) (st' := [(0, 1000), (0, 1), (2, this)]) (lo' := [(0, (2, this)), (1, (0, what)), (2, (0, 1)), (3, (0, z157)), (4, (0, z171))]) rfl ?_
          refine r_callV gd hX hP rfl cv_X6_196_131 hS (d' := 2) (mc' := 0) (ms' := 0) (as' := [(0, 1), (0, 1000)]) (st := []) (by first | decide | omega) (by first | decide | omega) (by first | decide | omega) rfl rfl (Nat.le_of_ble_eq_true rfl) (c_X6_numberR E S (hw [(131, 1), (131, 2), (131, 5), (131, 6), (131, 7), (131, 8)] (hw [(131, 1), (131, 2), (131, 5), (131, 6), (131, 7), (131, 8)] (hw [(131, 1), (131, 2), (131, 5), (131, 6), (131, 7), (131, 8)] (hw [(131, 1), (131, 2), (131, 5), (131, 6), (131, 7), (131, 8)] G G156) G164) G170) G177) this 1 1000 hS tx tx_e tx_s flh178 flh178e (by first | decide | omega) (by first | decide | omega) (by first | decide | omega) (by first | decide | omega) TT nn (pKd TT nn 19 (pNb TT nn 0 19 (pKd TT nn 18 (pNb TT nn 1 1000 sr)))) f180) ?_
          rintro _ _ _ ⟨rfl, ⟨G184, rfl⟩, z185, rfl, flh186, flh186e, z185a, z185b, f187, f188⟩
          have k189 := rq_flaw f188
          have k189 := flh186e.trans k189
          refine r_peekI hX (tl_131 1 rfl (by decide)) hS (fun o190 o190e o190a o190b => ?_)
          obtain rfl : flh186 = o190 := flh186e.trans o190e.symm
          refine r_ex hX hP 1 (pc' := 85) (st' := []) (lo' := [(0, (2, this)), (1, (0, what)), (2, (0, 1)), (3, (0, z157)), (4, (0, z171)), (5, (0, z185))]) rfl ?_
          refine r_eqG (X := X) (hw_sub (hw_sub (hw_sub (hw_sub (hw_sub (hw_refl [(131, 1), (131, 2), (131, 5), (131, 6), (131, 7), (131, 8)] _) rfl) rfl) rfl) rfl) rfl) ?_
          have k191V : z157 = pV1 TT nn what sr := by unfold pV1 pM1; (repeat' split) <;> omega
          have k191 : pNb TT nn 1 1000 (pKd TT nn 19 (pNb TT nn 0 19 (pKd TT nn 18 (pNb TT nn 1 1000 sr)))) = qRt TT nn what sr := by
            unfold qRt pM3 pM2 pM1; (try rw [← k191V]); (repeat (first | rw [if_pos (by first | decide | omega)] | rw [if_neg (by first | decide | omega)])); try rfl
          have k1911 : (qRt TT nn what sr) 1 = (pNb TT nn 1 1000 (pKd TT nn 19 (pNb TT nn 0 19 (pKd TT nn 18 (pNb TT nn 1 1000 sr))))) 1 := congrFun k191.symm 1
          exact j85 1 z157 z171 z185 _ (by first | decide | omega) (by first | decide | omega) (by first | decide | omega) (by first | decide | omega) (by first | decide | omega) (by first | decide | omega) (by first | decide | omega) (by first | decide | omega) (by first | decide | omega) (rd_cast f188 k191)
        · skip
          exfalso; omega
  · skip
    refine r_ex hX hP 2 (pc' := 6) (st' := [(0, 1), (0, what)]) (lo' := [(0, (2, this)), (1, (0, what))]) rfl ?_
    refine r_ic_ne hX hP rfl (tgt := 13) rfl (by first | decide | omega) (by first | decide | omega) (by first | decide | omega) (by first | decide | omega) (fun c192 => ?_) (fun c192 => ?_)
    · skip
      refine r_ex hX hP 3 (pc' := 16) (st' := [(0, 0)]) (lo' := [(0, (2, this)), (1, (0, what)), (2, (0, 0))]) rfl ?_
      refine r_if_eq hX hP rfl (tgt := 30) rfl (by first | decide | omega) (by first | decide | omega) (fun c193 => ?_) (fun c193 => ?_)
      · skip
        refine r_ex hX hP 2 (pc' := 32) (st' := [(0, 0), (2, this)]) (lo' := [(0, (2, this)), (1, (0, what)), (2, (0, 0))]) rfl ?_
        refine r_ldc hX hP rfl (v := 9999999) (tbg sg4 166 rfl rfl) ?_
        refine r_peekI hX (tl_131 1 rfl (by decide)) hS (fun flp194 flp194e flp194a flp194b => ?_)
        have k195 := rq_flaw rd
        have k195 := flp194e.trans k195
        refine r_callV gd hX hP rfl cv_X6_196_131 hS (d' := 2) (mc' := 0) (ms' := 0) (as' := [(0, 0), (0, 9999999)]) (st := []) (by first | decide | omega) (by first | decide | omega) (by first | decide | omega) rfl rfl (Nat.le_of_ble_eq_true rfl) (c_X6_numberR E S G this 0 9999999 hS tx tx_e tx_s flp194 flp194e (by first | decide | omega) (by first | decide | omega) (by first | decide | omega) (by first | decide | omega) TT nn sr rd) ?_
        rintro _ _ _ ⟨rfl, ⟨G196, rfl⟩, z197, rfl, flh198, flh198e, z197a, z197b, f199, f200⟩
        have k201 := rq_flaw f200
        have k201 := flh198e.trans k201
        refine r_peekI hX (tl_131 1 rfl (by decide)) hS (fun o202 o202e o202a o202b => ?_)
        obtain rfl : flh198 = o202 := flh198e.trans o202e.symm
        refine r_ex hX hP 4 (pc' := 42) (st' := [(0, what)]) (lo' := [(0, (2, this)), (1, (0, what)), (2, (0, 0)), (3, (0, z197)), (4, (0, (-1)))]) rfl ?_
        refine r_if_ne hX hP rfl (tgt := 60) rfl (by first | decide | omega) (by first | decide | omega) (fun c203 => ?_) (fun c203 => ?_)
        · skip
          refine r_ex hX hP 1 (pc' := 61) (st' := [(2, this)]) (lo' := [(0, (2, this)), (1, (0, what)), (2, (0, 0)), (3, (0, z197)), (4, (0, (-1)))]) rfl ?_
          refine r_ldcS hX hP rfl (k := 19) (by decide) rfl rfl ?_
          refine r_callV gd hX hP rfl cv_X6_202_131 hS (d' := 5) (mc' := 0) (ms' := 0) (as' := [(2, (sK E 19))]) (st := []) (by first | decide | omega) (by first | decide | omega) (by first | decide | omega) rfl rfl (Nat.le_of_ble_eq_true rfl) (c_X6_keywordR E S (hw [(131, 1), (131, 2), (131, 5), (131, 6), (131, 7), (131, 8)] G G196) this 19 hS (by decide) tx tx_e tx_s flh198 flh198e TT nn (pNb TT nn 0 9999999 sr) f200) ?_
          rintro _ _ _ ⟨rfl, ⟨G204, rfl⟩, rfl, flh205, flh205e, f206, f207⟩
          have k208 := rq_flaw f207
          have k208 := flh205e.trans k208
          refine r_peekI hX (tl_131 1 rfl (by decide)) hS (fun o209 o209e o209a o209b => ?_)
          obtain rfl : flh205 = o209 := flh205e.trans o209e.symm
          refine r_ex hX hP 3 (pc' := 69) (st' := [(0, 1), (0, what), (2, this)]) (lo' := [(0, (2, this)), (1, (0, what)), (2, (0, 0)), (3, (0, z197)), (4, (0, (-1)))]) rfl ?_
          refine r_ic_ne hX hP rfl (tgt := 76) rfl (by first | decide | omega) (by first | decide | omega) (by first | decide | omega) (by first | decide | omega) (fun c210 => ?_) (fun c210 => ?_)
          · skip
            refine r_ex hX hP 2 (pc' := 80) (st' := [(0, 1000), (0, 1), (2, this)]) (lo' := [(0, (2, this)), (1, (0, what)), (2, (0, 0)), (3, (0, z197)), (4, (0, (-1)))]) rfl ?_
            refine r_callV gd hX hP rfl cv_X6_196_131 hS (d' := 2) (mc' := 0) (ms' := 0) (as' := [(0, 1), (0, 1000)]) (st := []) (by first | decide | omega) (by first | decide | omega) (by first | decide | omega) rfl rfl (Nat.le_of_ble_eq_true rfl) (c_X6_numberR E S (hw [(131, 1), (131, 2), (131, 5), (131, 6), (131, 7), (131, 8)] (hw [(131, 1), (131, 2), (131, 5), (131, 6), (131, 7), (131, 8)] G G196) G204) this 1 1000 hS tx tx_e tx_s flh205 flh205e (by first | decide | omega) (by first | decide | omega) (by first | decide | omega) (by first | decide | omega) TT nn (pKd TT nn 19 (pNb TT nn 0 9999999 sr)) f207) ?_
            rintro _ _ _ ⟨rfl, ⟨G211, rfl⟩, z212, rfl, flh213, flh213e, z212a, z212b, f214, f215⟩
            have k216 := rq_flaw f215
            have k216 := flh213e.trans k216
            refine r_peekI hX (tl_131 1 rfl (by decide)) hS (fun o217 o217e o217a o217b => ?_)
            obtain rfl : flh213 = o217 := flh213e.trans o217e.symm
            refine r_ex hX hP 1 (pc' := 85) (st' := []) (lo' := [(0, (2, this)), (1, (0, what)), (2, (0, 0)), (3, (0, z197)), (4, (0, (-1))), (5, (0, z212))]) rfl ?_
            refine r_eqG (X := X) (hw_sub (hw_sub (hw_sub (hw_refl [(131, 1), (131, 2), (131, 5), (131, 6), (131, 7), (131, 8)] _) rfl) rfl) rfl) ?_
            have k218V : z197 = pV1 TT nn what sr := by unfold pV1 pM1; (repeat' split) <;> omega
            have k218 : pNb TT nn 1 1000 (pKd TT nn 19 (pNb TT nn 0 9999999 sr)) = qRt TT nn what sr := by
              unfold qRt pM3 pM2 pM1; (try rw [← k218V]); (repeat (first | rw [if_pos (by first | decide | omega)] | rw [if_neg (by first | decide | omega)])); try rfl
            have k2181 : (qRt TT nn what sr) 1 = (pNb TT nn 1 1000 (pKd TT nn 19 (pNb TT nn 0 9999999 sr))) 1 := congrFun k218.symm 1
            exact j85 0 z197 (-1) z212 _ (by first | decide | omega) (by first | decide | omega) (by first | decide | omega) (by first | decide | omega) (by first | decide | omega) (by first | decide | omega) (by first | decide | omega) (by first | decide | omega) (by first | decide | omega) (rd_cast f215 k218)
          · skip
            exfalso; omega
        · skip
          exfalso; omega
      · skip
        exfalso; omega
    · skip
      refine r_ex hX hP 4 (pc' := 16) (st' := [(0, 1)]) (lo' := [(0, (2, this)), (1, (0, what)), (2, (0, 1))]) rfl ?_
      refine r_if_eq hX hP rfl (tgt := 30) rfl (by first | decide | omega) (by first | decide | omega) (fun c219 => ?_) (fun c219 => ?_)
      · skip
        exfalso; omega
      · skip
        refine r_ex hX hP 3 (pc' := 24) (st' := [(0, 1000), (0, 1), (2, this)]) (lo' := [(0, (2, this)), (1, (0, what)), (2, (0, 1))]) rfl ?_
        refine r_peekI hX (tl_131 1 rfl (by decide)) hS (fun flp220 flp220e flp220a flp220b => ?_)
        have k221 := rq_flaw rd
        have k221 := flp220e.trans k221
        refine r_callV gd hX hP rfl cv_X6_196_131 hS (d' := 2) (mc' := 0) (ms' := 0) (as' := [(0, 1), (0, 1000)]) (st := []) (by first | decide | omega) (by first | decide | omega) (by first | decide | omega) rfl rfl (Nat.le_of_ble_eq_true rfl) (c_X6_numberR E S G this 1 1000 hS tx tx_e tx_s flp220 flp220e (by first | decide | omega) (by first | decide | omega) (by first | decide | omega) (by first | decide | omega) TT nn sr rd) ?_
        rintro _ _ _ ⟨rfl, ⟨G222, rfl⟩, z223, rfl, flh224, flh224e, z223a, z223b, f225, f226⟩
        have k227 := rq_flaw f226
        have k227 := flh224e.trans k227
        refine r_peekI hX (tl_131 1 rfl (by decide)) hS (fun o228 o228e o228a o228b => ?_)
        obtain rfl : flh224 = o228 := flh224e.trans o228e.symm
        refine r_ex hX hP 5 (pc' := 42) (st' := [(0, what)]) (lo' := [(0, (2, this)), (1, (0, what)), (2, (0, 1)), (3, (0, z223)), (4, (0, (-1)))]) rfl ?_
        refine r_if_ne hX hP rfl (tgt := 60) rfl (by first | decide | omega) (by first | decide | omega) (fun c229 => ?_) (fun c229 => ?_)
        · skip
          refine r_ex hX hP 1 (pc' := 61) (st' := [(2, this)]) (lo' := [(0, (2, this)), (1, (0, what)), (2, (0, 1)), (3, (0, z223)), (4, (0, (-1)))]) rfl ?_
          refine r_ldcS hX hP rfl (k := 19) (by decide) rfl rfl ?_
          refine r_callV gd hX hP rfl cv_X6_202_131 hS (d' := 5) (mc' := 0) (ms' := 0) (as' := [(2, (sK E 19))]) (st := []) (by first | decide | omega) (by first | decide | omega) (by first | decide | omega) rfl rfl (Nat.le_of_ble_eq_true rfl) (c_X6_keywordR E S (hw [(131, 1), (131, 2), (131, 5), (131, 6), (131, 7), (131, 8)] G G222) this 19 hS (by decide) tx tx_e tx_s flh224 flh224e TT nn (pNb TT nn 1 1000 sr) f226) ?_
          rintro _ _ _ ⟨rfl, ⟨G230, rfl⟩, rfl, flh231, flh231e, f232, f233⟩
          have k234 := rq_flaw f233
          have k234 := flh231e.trans k234
          refine r_peekI hX (tl_131 1 rfl (by decide)) hS (fun o235 o235e o235a o235b => ?_)
          obtain rfl : flh231 = o235 := flh231e.trans o235e.symm
          refine r_ex hX hP 3 (pc' := 69) (st' := [(0, 1), (0, what), (2, this)]) (lo' := [(0, (2, this)), (1, (0, what)), (2, (0, 1)), (3, (0, z223)), (4, (0, (-1)))]) rfl ?_
          refine r_ic_ne hX hP rfl (tgt := 76) rfl (by first | decide | omega) (by first | decide | omega) (by first | decide | omega) (by first | decide | omega) (fun c236 => ?_) (fun c236 => ?_)
          · skip
            exfalso; omega
          · skip
            refine r_ex hX hP 3 (pc' := 80) (st' := [(0, 1000), (0, z223), (2, this)]) (lo' := [(0, (2, this)), (1, (0, what)), (2, (0, 1)), (3, (0, z223)), (4, (0, (-1)))]) rfl ?_
            refine r_callV gd hX hP rfl cv_X6_196_131 hS (d' := 2) (mc' := 0) (ms' := 0) (as' := [(0, z223), (0, 1000)]) (st := []) (by first | decide | omega) (by first | decide | omega) (by first | decide | omega) rfl rfl (Nat.le_of_ble_eq_true rfl) (c_X6_numberR E S (hw [(131, 1), (131, 2), (131, 5), (131, 6), (131, 7), (131, 8)] (hw [(131, 1), (131, 2), (131, 5), (131, 6), (131, 7), (131, 8)] G G222) G230) this z223 1000 hS tx tx_e tx_s flh231 flh231e (by first | decide | omega) (by first | decide | omega) (by first | decide | omega) (by first | decide | omega) TT nn (pKd TT nn 19 (pNb TT nn 1 1000 sr)) f233) ?_
            rintro _ _ _ ⟨rfl, ⟨G237, rfl⟩, z238, rfl, flh239, flh239e, z238a, z238b, f240, f241⟩
            have k242 := rq_flaw f241
            have k242 := flh239e.trans k242
            refine r_peekI hX (tl_131 1 rfl (by decide)) hS (fun o243 o243e o243a o243b => ?_)
            obtain rfl : flh239 = o243 := flh239e.trans o243e.symm
            refine r_ex hX hP 1 (pc' := 85) (st' := []) (lo' := [(0, (2, this)), (1, (0, what)), (2, (0, 1)), (3, (0, z223)), (4, (0, (-1))), (5, (0, z238))]) rfl ?_
            refine r_eqG (X := X) (hw_sub (hw_sub (hw_sub (hw_refl [(131, 1), (131, 2), (131, 5), (131, 6), (131, 7), (131, 8)] _) rfl) rfl) rfl) ?_
            have k244V : z223 = pV1 TT nn what sr := by unfold pV1 pM1; (repeat' split) <;> omega
            have k244 : pNb TT nn z223 1000 (pKd TT nn 19 (pNb TT nn 1 1000 sr)) = qRt TT nn what sr := by
              unfold qRt pM3 pM2 pM1; (try rw [← k244V]); (repeat (first | rw [if_pos (by first | decide | omega)] | rw [if_neg (by first | decide | omega)])); try rfl
            have k2441 : (qRt TT nn what sr) 1 = (pNb TT nn z223 1000 (pKd TT nn 19 (pNb TT nn 1 1000 sr))) 1 := congrFun k244.symm 1
            exact j85 1 z223 (-1) z238 _ (by first | decide | omega) (by first | decide | omega) (by first | decide | omega) (by first | decide | omega) (by first | decide | omega) (by first | decide | omega) (by first | decide | omega) (by first | decide | omega) (by first | decide | omega) (rd_cast f241 k244)
        · skip
          exfalso; omega
