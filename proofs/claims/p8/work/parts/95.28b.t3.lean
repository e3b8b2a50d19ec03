set_option maxRecDepth 100000 in
set_option maxHeartbeats 4000000 in
theorem c_X6_isR (E : En) (S : Sg) (G : Gh) (this : Int) (wanted : Nat) (hS : S this = 131) (wanted_h : wanted < 20) (tx : Int) (tx_e : tx = G 131 this 9) (tx_s : S tx = 136) (atv : Int) (atv_e : atv = G 131 this 5) (stv : Int) (stv_e : stv = G 131 this 7) (TT : Tp) (nn : Int) (sr : Rg) (rd : RdC TT nn sr G this tx) : Calls E mX6_is [(2, this), (2, (sK E wanted))] S G 4 0 0 (fun r S' G' => S = S' ∧ G = G' ∧ ∃ z : Int, r = some (0, z) ∧ 0 ≤ z ∧ z ≤ 1 ∧ z = wq TT nn (sr 0) wanted ∧ RdC TT nn (sr) G' this tx) := by
  refine calls_by [(0, (2, this)), (1, (2, (sK E wanted)))] rfl rfl (Nat.le_of_ble_eq_true rfl) (fun X hX => ?_)
  have hP := hPX6_is
  have wanted_l := ksl8 wanted wanted_h
  refine r_peekI hX (tl_131 5 rfl (by decide)) hS (fun atv_o atv_oe atv_oa atv_ob => ?_)
  obtain rfl : atv = atv_o := atv_e.trans atv_oe.symm
  refine r_peekI hX (tl_131 7 rfl (by decide)) hS (fun stv_o stv_oe stv_oa stv_ob => ?_)
  obtain rfl : stv = stv_o := stv_e.trans stv_oe.symm
  have k1 := atv_e.trans (rq_at rd)
  have k2 := stv_e.trans (rq_start rd)
  have k3 := rq_n4 rd
  have k4 := rq_p0 rd
  have k5 := rq_p1 rd
  have k6 := tkE_le (T := TT) (rq_p1 rd)
  have k7 := tkS_ge TT nn (sr 0)
  have k8 := tkE_ge TT nn (sr 0)
  have k9 := wq_or TT nn (sr 0) wanted
  have k10 := (show wL wanted = ((ksL.getD wanted 0 : Nat) : Int) from rfl)
  refine r_ex hX hP 1 (pc' := 1) (st' := [(2, this)]) (lo' := [(0, (2, this)), (1, (2, (sK E wanted)))]) rfl ?_
  refine r_getI hX hP rfl fl_X6_38_131 hS (fun tf11 tf11e tf11a tf11b => ?_)
  have k12 := rq_tok rd
  have k12 := tf11e.trans k12
  refine r_ex hX hP 1 (pc' := 5) (st' := [(0, 1), (0, tf11)]) (lo' := [(0, (2, this)), (1, (2, (sK E wanted)))]) rfl ?_
  refine r_ic_ne hX hP rfl (tgt := 28) rfl (by first | decide | omega) (by first | decide | omega) (by first | decide | omega) (by first | decide | omega) (fun c13 => ?_) (fun c13 => ?_)
  · skip
    refine r_ex hX hP 4 (pc' := 32) (st' := []) (lo' := [(0, (2, this)), (1, (2, (sK E wanted))), (2, (0, 0)), (3, (0, 0))]) rfl ?_
    have x75 : ∀ (l2_x75 l3_x75 : Int), 0 ≤ l2_x75 → l2_x75 ≤ 1 → 0 ≤ l3_x75 → l3_x75 ≤ 8 → (l2_x75 = 1 ∨ wq TT nn (sr 0) wanted = 0) → (l2_x75 = 0 ∨ wq TT nn (sr 0) wanted = 1) → X 0 0 75 [] [(0, (2, this)), (1, (2, (sK E wanted))), (2, (0, l2_x75)), (3, (0, l3_x75))] S G := by
      intro l2_x75 l3_x75 yx75_0 yx75_1 yx75_2 yx75_3 yx75_4 yx75_5
      refine r_ex hX hP 1 (pc' := 76) (st' := [(0, l2_x75)]) (lo' := [(0, (2, this)), (1, (2, (sK E wanted))), (2, (0, l2_x75)), (3, (0, l3_x75))]) rfl ?_
      exact r_retZ hX hP rfl rfl (by first | decide | omega) (by first | decide | omega) (by first | decide | omega) (by first | decide | omega) ⟨rfl, rfl, l2_x75, rfl, (by first | decide | omega), (by first | decide | omega), (by first | decide | omega), rd⟩
    have loop32 : ∀ (nF : Nat) (l2_h32 l3_h32 : Int), 0 ≤ l2_h32 → l2_h32 ≤ 1 → 0 ≤ l3_h32 → l3_h32 ≤ 8 → (l2_h32 = 0 ∨ atv - stv = ((ksL.getD wanted 0 : Nat) : Int)) → (l2_h32 = 0 ∨ (tkK TT nn (sr 0) = 1 ∧ tkE TT nn (sr 0) - tkS TT nn (sr 0) = wL wanted ∧ eqv (fun i => TT (tkS TT nn (sr 0) + i)) (wC wanted) (wL wanted) l3_h32 = eqv (fun i => TT (tkS TT nn (sr 0) + i)) (wC wanted) (wL wanted) 0)) → (l2_h32 = 1 ∨ wq TT nn (sr 0) wanted = 0) → 8 - l3_h32 < (nF : Int) → X 0 0 32 [] [(0, (2, this)), (1, (2, (sK E wanted))), (2, (0, l2_h32)), (3, (0, l3_h32))] S G := by
      intro nF
      induction nF with
      | zero => intro l2_h32 l3_h32 yh32_0 yh32_1 yh32_2 yh32_3 yh32_4 yh32_5 yh32_6 ym32; exfalso; omega
      | succ nF ih32 =>
        intro l2_h32 l3_h32 yh32_0 yh32_1 yh32_2 yh32_3 yh32_4 yh32_5 yh32_6 ym32
        have k14 := eqw_or (T := TT) (w := wanted) (m := wL wanted) (k := l3_h32) (show stv = tkS TT nn (sr 0) from by omega)
        refine r_ex hX hP 1 (pc' := 33) (st' := [(0, l2_h32)]) (lo' := [(0, (2, this)), (1, (2, (sK E wanted))), (2, (0, l2_h32)), (3, (0, l3_h32))]) rfl ?_
        refine r_if_eq hX hP rfl (tgt := 75) rfl (by first | decide | omega) (by first | decide | omega) (fun c15 => ?_) (fun c15 => ?_)
        · skip
          exact x75 l2_h32 l3_h32 (by first | decide | omega) (by first | decide | omega) (by first | decide | omega) (by first | decide | omega) (by first | decide | omega) (by first | decide | omega)
        · skip
          refine r_ex hX hP 2 (pc' := 38) (st' := [(2, (sK E wanted)), (0, l3_h32)]) (lo' := [(0, (2, this)), (1, (2, (sK E wanted))), (2, (0, l2_h32)), (3, (0, l3_h32))]) rfl ?_
          refine r_callT gd hX hP rfl ct_X6_102 wanted_h (d' := 1) (mc' := 0) (ms' := 0) (as' := []) (st := [(0, l3_h32)]) (by first | decide | omega) (by first | decide | omega) (by first | decide | omega) rfl rfl (Nat.le_of_ble_eq_true rfl) (c_J0_length_8abf5 E S G wanted  wanted_h) ?_
          rintro _ _ _ ⟨rfl, rfl, z16, rfl, z16a, z16b, f17⟩
          refine r_ic_ge hX hP rfl (tgt := 75) rfl (by first | decide | omega) (by first | decide | omega) (by first | decide | omega) (by first | decide | omega) (fun c18 => ?_) (fun c18 => ?_)
          · skip
            exact x75 l2_h32 l3_h32 (by first | decide | omega) (by first | decide | omega) (by first | decide | omega) (by first | decide | omega) (by first | decide | omega) (by first | decide | omega)
          · skip
            refine r_ex hX hP 1 (pc' := 45) (st' := [(2, this)]) (lo' := [(0, (2, this)), (1, (2, (sK E wanted))), (2, (0, l2_h32)), (3, (0, l3_h32))]) rfl ?_
            refine r_getR hX hP rfl fl_X6_18_131 hS (fun tf19 tf19e tf19s => ?_)
            refine r_ex hX hP 1 (pc' := 49) (st' := [(2, this), (2, tf19)]) (lo' := [(0, (2, this)), (1, (2, (sK E wanted))), (2, (0, l2_h32)), (3, (0, l3_h32))]) rfl ?_
            refine r_getKI hX hP rfl fl_X6_83_131 hS (x := stv) stv_e ?_
            refine r_ex hX hP 2 (pc' := 54) (st' := [(0, (stv + l3_h32)), (2, tf19)]) (lo' := [(0, (2, this)), (1, (2, (sK E wanted))), (2, (0, l2_h32)), (3, (0, l3_h32))]) rfl ?_
            refine r_iald hX hP rfl al_105 tf19s (by first | decide | omega) (by first | decide | omega) (fun x20 x20e x20a x20b => ?_)
            have k21 := rd_tpx rd tf19e x20e
            refine r_ex hX hP 2 (pc' := 57) (st' := [(0, l3_h32), (2, (sK E wanted)), (0, x20)]) (lo' := [(0, (2, this)), (1, (2, (sK E wanted))), (2, (0, l2_h32)), (3, (0, l3_h32))]) rfl ?_
            refine r_callT gd hX hP rfl ct_X6_107 wanted_h (d' := 3) (mc' := 0) (ms' := 0) (as' := [(0, l3_h32)]) (st := [(0, x20)]) (by first | decide | omega) (by first | decide | omega) (by first | decide | omega) rfl rfl (Nat.le_of_ble_eq_true rfl) (c_J0_charAtX E S G wanted l3_h32 wanted_h (by first | decide | omega) (by first | decide | omega) (by first | decide | omega)) ?_
            rintro _ _ _ ⟨rfl, rfl, z22, rfl, z22a, z22b, f23⟩
            refine r_ic_ne hX hP rfl (tgt := 67) rfl (by first | decide | omega) (by first | decide | omega) (by first | decide | omega) (by first | decide | omega) (fun c24 => ?_) (fun c24 => ?_)
            · skip
              refine r_ex hX hP 4 (pc' := 32) (st' := []) (lo' := [(0, (2, this)), (1, (2, (sK E wanted))), (2, (0, 0)), (3, (0, (l3_h32 + 1)))]) rfl ?_
              exact ih32 0 (l3_h32 + 1) (by first | decide | omega) (by first | decide | omega) (by first | decide | omega) (by first | decide | omega) (by first | decide | omega) (by first | decide | omega) (by first | decide | omega) (by first | decide | omega)
            · skip
              refine r_ex hX hP 5 (pc' := 32) (st' := []) (lo' := [(0, (2, this)), (1, (2, (sK E wanted))), (2, (0, 1)), (3, (0, (l3_h32 + 1)))]) rfl ?_
              exact ih32 1 (l3_h32 + 1) (by first | decide | omega) (by first | decide | omega) (by first | decide | omega) (by first | decide | omega) (by first | decide | omega) (by first | decide | omega) (by first | decide | omega) (by first | decide | omega)
    exact loop32 ((8 - 0) + 1 : Int).toNat 0 0 (by first | decide | omega) (by first | decide | omega) (by first | decide | omega) (by first | decide | omega) (by first | decide | omega) (by first | decide | omega) (by first | decide | omega) (by first | decide | omega)
  · skip
    refine r_ex hX hP 1 (pc' := 9) (st' := [(2, this)]) (lo' := [(0, (2, this)), (1, (2, (sK E wanted)))]) rfl ?_
    refine r_getKI hX hP rfl fl_X6_67_131 hS (x := atv) atv_e ?_
    refine r_ex hX hP 1 (pc' := 13) (st' := [(2, this), (0, atv)]) (lo' := [(0, (2, this)), (1, (2, (sK E wanted)))]) rfl ?_
    refine r_getKI hX hP rfl fl_X6_83_131 hS (x := stv) stv_e ?_
    refine r_ex hX hP 2 (pc' := 18) (st' := [(2, (sK E wanted)), (0, (atv - stv))]) (lo' := [(0, (2, this)), (1, (2, (sK E wanted)))]) rfl ?_
    refine r_callT gd hX hP rfl ct_X6_102 wanted_h (d' := 1) (mc' := 0) (ms' := 0) (as' := []) (st := [(0, (atv - stv))]) (by first | decide | omega) (by first | decide | omega) (by first | decide | omega) rfl rfl (Nat.le_of_ble_eq_true rfl) (c_J0_length_8abf5 E S G wanted  wanted_h) ?_
    rintro _ _ _ ⟨rfl, rfl, z25, rfl, z25a, z25b, f26⟩
    refine r_ic_ne hX hP rfl (tgt := 28) rfl (by first | decide | omega) (by first | decide | omega) (by first | decide | omega) (by first | decide | omega) (fun c27 => ?_) (fun c27 => ?_)
    · skip
      refine r_ex hX hP 4 (pc' := 32) (st' := []) (lo' := [(0, (2, this)), (1, (2, (sK E wanted))), (2, (0, 0)), (3, (0, 0))]) rfl ?_
      have x75 : ∀ (l2_x75 l3_x75 : Int), 0 ≤ l2_x75 → l2_x75 ≤ 1 → 0 ≤ l3_x75 → l3_x75 ≤ 8 → (l2_x75 = 1 ∨ wq TT nn (sr 0) wanted = 0) → (l2_x75 = 0 ∨ wq TT nn (sr 0) wanted = 1) → X 0 0 75 [] [(0, (2, this)), (1, (2, (sK E wanted))), (2, (0, l2_x75)), (3, (0, l3_x75))] S G := by
        intro l2_x75 l3_x75 yx75_0 yx75_1 yx75_2 yx75_3 yx75_4 yx75_5
        refine r_ex hX hP 1 (pc' := 76) (st' := [(0, l2_x75)]) (lo' := [(0, (2, this)), (1, (2, (sK E wanted))), (2, (0, l2_x75)), (3, (0, l3_x75))]) rfl ?_
        exact r_retZ hX hP rfl rfl (by first | decide | omega) (by first | decide | omega) (by first | decide | omega) (by first | decide | omega) ⟨rfl, rfl, l2_x75, rfl, (by first | decide | omega), (by first | decide | omega), (by first | decide | omega), rd⟩
      have loop32 : ∀ (nF : Nat) (l2_h32 l3_h32 : Int), 0 ≤ l2_h32 → l2_h32 ≤ 1 → 0 ≤ l3_h32 → l3_h32 ≤ 8 → (l2_h32 = 0 ∨ atv - stv = ((ksL.getD wanted 0 : Nat) : Int)) → (l2_h32 = 0 ∨ (tkK TT nn (sr 0) = 1 ∧ tkE TT nn (sr 0) - tkS TT nn (sr 0) = wL wanted ∧ eqv (fun i => TT (tkS TT nn (sr 0) + i)) (wC wanted) (wL wanted) l3_h32 = eqv (fun i => TT (tkS TT nn (sr 0) + i)) (wC wanted) (wL wanted) 0)) → (l2_h32 = 1 ∨ wq TT nn (sr 0) wanted = 0) → 8 - l3_h32 < (nF : Int) → X 0 0 32 [] [(0, (2, this)), (1, (2, (sK E wanted))), (2, (0, l2_h32)), (3, (0, l3_h32))] S G := by
        intro nF
        induction nF with
        | zero => intro l2_h32 l3_h32 yh32_0 yh32_1 yh32_2 yh32_3 yh32_4 yh32_5 yh32_6 ym32; exfalso; omega
        | succ nF ih32 =>
          intro l2_h32 l3_h32 yh32_0 yh32_1 yh32_2 yh32_3 yh32_4 yh32_5 yh32_6 ym32
          have k28 := eqw_or (T := TT) (w := wanted) (m := wL wanted) (k := l3_h32) (show stv = tkS TT nn (sr 0) from by omega)
          refine r_ex hX hP 1 (pc' := 33) (st' := [(0, l2_h32)]) (lo' := [(0, (2, this)), (1, (2, (sK E wanted))), (2, (0, l2_h32)), (3, (0, l3_h32))]) rfl ?_
          refine r_if_eq hX hP rfl (tgt := 75) rfl (by first | decide | omega) (by first | decide | omega) (fun c29 => ?_) (fun c29 => ?_)
          · skip
            exact x75 l2_h32 l3_h32 (by first | decide | omega) (by first | decide | omega) (by first | decide | omega) (by first | decide | omega) (by first | decide | omega) (by first | decide | omega)
          · skip
            refine r_ex hX hP 2 (pc' := 38) (st' := [(2, (sK E wanted)), (0, l3_h32)]) (lo' := [(0, (2, this)), (1, (2, (sK E wanted))), (2, (0, l2_h32)), (3, (0, l3_h32))]) rfl ?_
            refine r_callT gd hX hP rfl ct_X6_102 wanted_h (d' := 1) (mc' := 0) (ms' := 0) (as' := []) (st := [(0, l3_h32)]) (by first | decide | omega) (by first | decide | omega) (by first | decide | omega) rfl rfl (Nat.le_of_ble_eq_true rfl) (c_J0_length_8abf5 E S G wanted  wanted_h) ?_
            rintro _ _ _ ⟨rfl, rfl, z30, rfl, z30a, z30b, f31⟩
            refine r_ic_ge hX hP rfl (tgt := 75) rfl (by first | decide | omega) (by first | decide | omega) (by first | decide | omega) (by first | decide | omega) (fun c32 => ?_) (fun c32 => ?_)
            · skip
              exact x75 l2_h32 l3_h32 (by first | decide | omega) (by first | decide | omega) (by first | decide | omega) (by first | decide | omega) (by first | decide | omega) (by first | decide | omega)
            · skip
              refine r_ex hX hP 1 (pc' := 45) (st' := [(2, this)]) (lo' := [(0, (2, this)), (1, (2, (sK E wanted))), (2, (0, l2_h32)), (3, (0, l3_h32))]) rfl ?_
              refine r_getR hX hP rfl fl_X6_18_131 hS (fun tf33 tf33e tf33s => ?_)
              refine r_ex hX hP 1 (pc' := 49) (st' := [(2, this), (2, tf33)]) (lo' := [(0, (2, this)), (1, (2, (sK E wanted))), (2, (0, l2_h32)), (3, (0, l3_h32))]) rfl ?_
              refine r_getKI hX hP rfl fl_X6_83_131 hS (x := stv) stv_e ?_
              refine r_ex hX hP 2 (pc' := 54) (st' := [(0, (stv + l3_h32)), (2, tf33)]) (lo' := [(0, (2, this)), (1, (2, (sK E wanted))), (2, (0, l2_h32)), (3, (0, l3_h32))]) rfl ?_
              refine r_iald hX hP rfl al_105 tf33s (by first | decide | omega) (by first | decide | omega) (fun x34 x34e x34a x34b => ?_)
              have k35 := rd_tpx rd tf33e x34e
              refine r_ex hX hP 2 (pc' := 57) (st' := [(0, l3_h32), (2, (sK E wanted)), (0, x34)]) (lo' := [(0, (2, this)), (1, (2, (sK E wanted))), (2, (0, l2_h32)), (3, (0, l3_h32))]) rfl ?_
              refine r_callT gd hX hP rfl ct_X6_107 wanted_h (d' := 3) (mc' := 0) (ms' := 0) (as' := [(0, l3_h32)]) (st := [(0, x34)]) (by first | decide | omega) (by first | decide | omega) (by first | decide | omega) rfl rfl (Nat.le_of_ble_eq_true rfl) (c_J0_charAtX E S G wanted l3_h32 wanted_h (by first | decide | omega) (by first | decide | omega) (by first | decide | omega)) ?_
              rintro _ _ _ ⟨rfl, rfl, z36, rfl, z36a, z36b, f37⟩
              refine r_ic_ne hX hP rfl (tgt := 67) rfl (by first | decide | omega) (by first | decide | omega) (by first | decide | omega) (by first | decide | omega) (fun c38 => ?_) (fun c38 => ?_)
              · skip
                refine r_ex hX hP 4 (pc' := 32) (st' := []) (lo' := [(0, (2, this)), (1, (2, (sK E wanted))), (2, (0, 0)), (3, (0, (l3_h32 + 1)))]) rfl ?_
                exact ih32 0 (l3_h32 + 1) (by first | decide | omega) (by first | decide | omega) (by first | decide | omega) (by first | decide | omega) (by first | decide | omega) (by first | decide | omega) (by first | decide | omega) (by first | decide | omega)
              · skip
                refine r_ex hX hP 5 (pc' := 32) (st' := []) (lo' := [(0, (2, this)), (1, (2, (sK E wanted))), (2, (0, 1)), (3, (0, (l3_h32 + 1)))]) rfl ?_
                exact ih32 1 (l3_h32 + 1) (by first | decide | omega) (by first | decide | omega) (by first | decide | omega) (by first | decide | omega) (by first | decide | omega) (by first | decide | omega) (by first | decide | omega) (by first | decide | omega)
      exact loop32 ((8 - 0) + 1 : Int).toNat 0 0 (by first | decide | omega) (by first | decide | omega) (by first | decide | omega) (by first | decide | omega) (by first | decide | omega) (by first | decide | omega) (by first | decide | omega) (by first | decide | omega)
    · skip
      refine r_ex hX hP 5 (pc' := 32) (st' := []) (lo' := [(0, (2, this)), (1, (2, (sK E wanted))), (2, (0, 1)), (3, (0, 0))]) rfl ?_
      have x75 : ∀ (l2_x75 l3_x75 : Int), 0 ≤ l2_x75 → l2_x75 ≤ 1 → 0 ≤ l3_x75 → l3_x75 ≤ 8 → (l2_x75 = 1 ∨ wq TT nn (sr 0) wanted = 0) → (l2_x75 = 0 ∨ wq TT nn (sr 0) wanted = 1) → X 0 0 75 [] [(0, (2, this)), (1, (2, (sK E wanted))), (2, (0, l2_x75)), (3, (0, l3_x75))] S G := by
        intro l2_x75 l3_x75 yx75_0 yx75_1 yx75_2 yx75_3 yx75_4 yx75_5
        refine r_ex hX hP 1 (pc' := 76) (st' := [(0, l2_x75)]) (lo' := [(0, (2, this)), (1, (2, (sK E wanted))), (2, (0, l2_x75)), (3, (0, l3_x75))]) rfl ?_
        exact r_retZ hX hP rfl rfl (by first | decide | omega) (by first | decide | omega) (by first | decide | omega) (by first | decide | omega) ⟨rfl, rfl, l2_x75, rfl, (by first | decide | omega), (by first | decide | omega), (by first | decide | omega), rd⟩
      have loop32 : ∀ (nF : Nat) (l2_h32 l3_h32 : Int), 0 ≤ l2_h32 → l2_h32 ≤ 1 → 0 ≤ l3_h32 → l3_h32 ≤ 8 → (l2_h32 = 0 ∨ atv - stv = ((ksL.getD wanted 0 : Nat) : Int)) → (l2_h32 = 0 ∨ (tkK TT nn (sr 0) = 1 ∧ tkE TT nn (sr 0) - tkS TT nn (sr 0) = wL wanted ∧ eqv (fun i => TT (tkS TT nn (sr 0) + i)) (wC wanted) (wL wanted) l3_h32 = eqv (fun i => TT (tkS TT nn (sr 0) + i)) (wC wanted) (wL wanted) 0)) → (l2_h32 = 1 ∨ wq TT nn (sr 0) wanted = 0) → 8 - l3_h32 < (nF : Int) → X 0 0 32 [] [(0, (2, this)), (1, (2, (sK E wanted))), (2, (0, l2_h32)), (3, (0, l3_h32))] S G := by
        intro nF
        induction nF with
        | zero => intro l2_h32 l3_h32 yh32_0 yh32_1 yh32_2 yh32_3 yh32_4 yh32_5 yh32_6 ym32; exfalso; omega
        | succ nF ih32 =>
          intro l2_h32 l3_h32 yh32_0 yh32_1 yh32_2 yh32_3 yh32_4 yh32_5 yh32_6 ym32
          have k39 := eqw_or (T := TT) (w := wanted) (m := wL wanted) (k := l3_h32) (show stv = tkS TT nn (sr 0) from by omega)
          refine r_ex hX hP 1 (pc' := 33) (st' := [(0, l2_h32)]) (lo' := [(0, (2, this)), (1, (2, (sK E wanted))), (2, (0, l2_h32)), (3, (0, l3_h32))]) rfl ?_
          refine r_if_eq hX hP rfl (tgt := 75) rfl (by first | decide | omega) (by first | decide | omega) (fun c40 => ?_) (fun c40 => ?_)
          · skip
            exact x75 l2_h32 l3_h32 (by first | decide | omega) (by first | decide | omega) (by first | decide | omega) (by first | decide | omega) (by first | decide | omega) (by first | decide | omega)
          · skip
            refine r_ex hX hP 2 (pc' := 38) (st' := [(2, (sK E wanted)), (0, l3_h32)]) (lo' := [(0, (2, this)), (1, (2, (sK E wanted))), (2, (0, l2_h32)), (3, (0, l3_h32))]) rfl ?_
            refine r_callT gd hX hP rfl ct_X6_102 wanted_h (d' := 1) (mc' := 0) (ms' := 0) (as' := []) (st := [(0, l3_h32)]) (by first | decide | omega) (by first | decide | omega) (by first | decide | omega) rfl rfl (Nat.le_of_ble_eq_true rfl) (c_J0_length_8abf5 E S G wanted  wanted_h) ?_
            rintro _ _ _ ⟨rfl, rfl, z41, rfl, z41a, z41b, f42⟩
            refine r_ic_ge hX hP rfl (tgt := 75) rfl (by first | decide | omega) (by first | decide | omega) (by first | decide | omega) (by first | decide | omega) (fun c43 => ?_) (fun c43 => ?_)
            · skip
              exact x75 l2_h32 l3_h32 (by first | decide | omega) (by first | decide | omega) (by first | decide | omega) (by first | decide | omega) (by first | decide | omega) (by first | decide | omega)
            · skip
              refine r_ex hX hP 1 (pc' := 45) (st' := [(2, this)]) (lo' := [(0, (2, this)), (1, (2, (sK E wanted))), (2, (0, l2_h32)), (3, (0, l3_h32))]) rfl ?_
              refine r_getR hX hP rfl fl_X6_18_131 hS (fun tf44 tf44e tf44s => ?_)
              refine r_ex hX hP 1 (pc' := 49) (st' := [(2, this), (2, tf44)]) (lo' := [(0, (2, this)), (1, (2, (sK E wanted))), (2, (0, l2_h32)), (3, (0, l3_h32))]) rfl ?_
              refine r_getKI hX hP rfl fl_X6_83_131 hS (x := stv) stv_e ?_
              refine r_ex hX hP 2 (pc' := 54) (st' := [(0, (stv + l3_h32)), (2, tf44)]) (lo' := [(0, (2, this)), (1, (2, (sK E wanted))), (2, (0, l2_h32)), (3, (0, l3_h32))]) rfl ?_
              refine r_iald hX hP rfl al_105 tf44s (by first | decide | omega) (by first | decide | omega) (fun x45 x45e x45a x45b => ?_)
              have k46 := rd_tpx rd tf44e x45e
              refine r_ex hX hP 2 (pc' := 57) (st' := [(0, l3_h32), (2, (sK E wanted)), (0, x45)]) (lo' := [(0, (2, this)), (1, (2, (sK E wanted))), (2, (0, l2_h32)), (3, (0, l3_h32))]) rfl ?_
              refine r_callT gd hX hP rfl ct_X6_107 wanted_h (d' := 3) (mc' := 0) (ms' := 0) (as' := [(0, l3_h32)]) (st := [(0, x45)]) (by first | decide | omega) (by first | decide | omega) (by first | decide | omega) rfl rfl (Nat.le_of_ble_eq_true rfl) (c_J0_charAtX E S G wanted l3_h32 wanted_h (by first | decide | omega) (by first | decide | omega) (by first | decide | omega)) ?_
              rintro _ _ _ ⟨rfl, rfl, z47, rfl, z47a, z47b, f48⟩
              refine r_ic_ne hX hP rfl (tgt := 67) rfl (by first | decide | omega) (by first | decide | omega) (by first | decide | omega) (by first | decide | omega) (fun c49 => ?_) (fun c49 => ?_)
              · skip
                refine r_ex hX hP 4 (pc' := 32) (st' := []) (lo' := [(0, (2, this)), (1, (2, (sK E wanted))), (2, (0, 0)), (3, (0, (l3_h32 + 1)))]) rfl ?_
                exact ih32 0 (l3_h32 + 1) (by first | decide | omega) (by first | decide | omega) (by first | decide | omega) (by first | decide | omega) (by first | decide | omega) (by first | decide | omega) (by first | decide | omega) (by first | decide | omega)
              · skip
                refine r_ex hX hP 5 (pc' := 32) (st' := []) (lo' := [(0, (2, this)), (1, (2, (sK E wanted))), (2, (0, 1)), (3, (0, (l3_h32 + 1)))]) rfl ?_
                exact ih32 1 (l3_h32 + 1) (by first | decide | omega) (by first | decide | omega) (by first | decide | omega) (by first | decide | omega) (by first | decide | omega) (by first | decide | omega) (by first | decide | omega) (by first | decide | omega)
      exact loop32 ((8 - 0) + 1 : Int).toNat 1 0 (by first | decide | omega) (by first | decide | omega) (by first | decide | omega) (by first | decide | omega) (by first | decide | omega) (by first | decide | omega) (by first | decide | omega) (by first | decide | omega)
set_option maxRecDepth 100000 in
set_option maxHeartbeats 4000000 in
theorem c_X6_keywordR (E : En) (S : Sg) (G : Gh) (this : Int) (wanted : Nat) (hS : S this = 131) (wanted_h : wanted < 20) (tx : Int) (tx_e : tx = G 131 this 9) (tx_s : S tx = 136) (f0 : Int) (f0_e : f0 = G 131 this 1) (TT : Tp) (nn : Int) (sr : Rg) (rd : RdC TT nn sr G this tx) : Calls E mX6_keyword [(2, this), (2, (sK E wanted))] S G 5 0 0 (fun r S' G' => S = S' ∧ (∃ G1, hw [(131, 1), (131, 2), (131, 5), (131, 6), (131, 7), (131, 8)] G G1 = G') ∧ r = none ∧ ∃ f1 : Int, f1 = G' 131 this 1 ∧ (f0 = 0 ∨ f1 ≠ 0) ∧ RdC TT nn (pKd TT nn wanted sr) G' this tx) := by
  refine calls_by [(0, (2, this)), (1, (2, (sK E wanted)))] rfl rfl (Nat.le_of_ble_eq_true rfl) (fun X hX => ?_)
  have hP := hPX6_keyword
  have wanted_l := ksl8 wanted wanted_h
  refine r_peekI hX (tl_131 1 rfl (by decide)) hS (fun f0_o f0_oe f0_oa f0_ob => ?_)
  obtain rfl : f0 = f0_o := f0_e.trans f0_oe.symm
  have k1 := f0_e.trans (rq_flaw rd)
  refine r_ex hX hP 2 (pc' := 2) (st' := [(0, 1), (2, this)]) (lo' := [(0, (2, this)), (1, (2, (sK E wanted)))]) rfl ?_
  refine r_callV gd hX hP rfl cv_X6_95_131 hS (d' := 1) (mc' := 0) (ms' := 0) (as' := [(0, 1)]) (st := []) (by first | decide | omega) (by first | decide | omega) (by first | decide | omega) rfl rfl (Nat.le_of_ble_eq_true rfl) (c_X6_expectR E S G this 1 hS tx tx_e tx_s f0 f0_e (by first | decide | omega) (by first | decide | omega) TT nn sr rd) ?_
  rintro _ _ _ ⟨rfl, ⟨G2, rfl⟩, z3, rfl, flh4, flh4e, (⟨rfl, f6, f7, f8⟩ | ⟨rfl, f9⟩), f5⟩
  · skip
    have k10 := congrArg (tkK TT nn) (pEx_0 TT nn 1 sr)
    have k11 := congrArg (tkV TT nn) (pEx_0 TT nn 1 sr)
    have k12 := congrArg (tkS TT nn) (pEx_0 TT nn 1 sr)
    have k13 := congrArg (tkE TT nn) (pEx_0 TT nn 1 sr)
    have k14 := rq_flaw f5
    have k14 := flh4e.trans k14
    refine r_peekI hX (tl_131 1 rfl (by decide)) hS (fun o15 o15e o15a o15b => ?_)
    obtain rfl : flh4 = o15 := flh4e.trans o15e.symm
    refine r_if_ne hX hP rfl (tgt := 9) rfl (by first | decide | omega) (by first | decide | omega) (fun c16 => ?_) (fun c16 => ?_)
    · skip
      refine r_ex hX hP 2 (pc' := 11) (st' := [(2, (sK E wanted)), (2, this)]) (lo' := [(0, (2, this)), (1, (2, (sK E wanted)))]) rfl ?_
      refine r_peekI hX (tl_131 5 rfl (by decide)) hS (fun atp17 atp17e atp17a atp17b => ?_)
      have k18 := rq_at f5
      have k18 := atp17e.trans k18
      refine r_peekI hX (tl_131 7 rfl (by decide)) hS (fun stp19 stp19e stp19a stp19b => ?_)
      have k20 := rq_start f5
      have k20 := stp19e.trans k20
      refine r_callV gd hX hP rfl cv_X6_98_131 hS (d' := 4) (mc' := 0) (ms' := 0) (as' := [(2, (sK E wanted))]) (st := []) (by first | decide | omega) (by first | decide | omega) (by first | decide | omega) rfl rfl (Nat.le_of_ble_eq_true rfl) (c_X6_isR E S (hw [(131, 1), (131, 2)] G G2) this wanted hS wanted_h tx tx_e tx_s atp17 atp17e stp19 stp19e TT nn (pEx TT nn 1 sr) f5) ?_
      rintro _ _ _ ⟨rfl, rfl, z21, rfl, z21a, z21b, f22, f23⟩
      refine r_if_eq hX hP rfl (tgt := 24) rfl (by first | decide | omega) (by first | decide | omega) (fun c24 => ?_) (fun c24 => ?_)
      · skip
        refine r_ex hX hP 2 (pc' := 26) (st' := [(0, 2), (2, this)]) (lo' := [(0, (2, this)), (1, (2, (sK E wanted)))]) rfl ?_
        refine r_callV gd hX hP rfl cv_X6_44_131 hS (d' := 0) (mc' := 0) (ms' := 0) (as' := [(0, 2)]) (st := []) (by first | decide | omega) (by first | decide | omega) (by first | decide | omega) rfl rfl (Nat.le_of_ble_eq_true rfl) (c_X6_failR E S (hw [(131, 1), (131, 2)] G G2) this 2 hS tx tx_e tx_s (by first | decide | omega) (by first | decide | omega) TT nn (pEx TT nn 1 sr) f23) ?_
        rintro _ _ _ ⟨rfl, ⟨G25, rfl⟩, z26, rfl, flh27, flh27e, rfl, f28, f29⟩
        have k30 := rq_flaw f29
        have k30 := flh27e.trans k30
        refine r_peekI hX (tl_131 1 rfl (by decide)) hS (fun o31 o31e o31a o31b => ?_)
        obtain rfl : flh27 = o31 := flh27e.trans o31e.symm
        refine r_ex hX hP 1 (pc' := 30) (st' := []) (lo' := [(0, (2, this)), (1, (2, (sK E wanted)))]) rfl ?_
        have hC32 : pFl TT nn 2 (pEx TT nn 1 sr) = pKd TT nn wanted sr := by
          unfold pKd; (repeat (first | rw [if_pos (by first | decide | omega)] | rw [if_neg (by first | decide | omega)])); try rfl
        have hC321 : (pKd TT nn wanted sr) 1 = (pFl TT nn 2 (pEx TT nn 1 sr)) 1 := congrFun hC32.symm 1
        exact r_retV hX hP rfl rfl (by first | decide | omega) (by first | decide | omega) ⟨rfl, ⟨_, (hw_sub (hw_sub (hw_refl _ _) rfl) rfl).symm⟩, rfl, flh27, flh27e, (by first | decide | omega), (rd_cast f29 hC32)⟩
      · skip
        refine r_ex hX hP 1 (pc' := 18) (st' := [(2, this)]) (lo' := [(0, (2, this)), (1, (2, (sK E wanted)))]) rfl ?_
        refine r_callV gd hX hP rfl cv_X6_80_131 hS (d' := 1) (mc' := 0) (ms' := 0) (as' := []) (st := []) (by first | decide | omega) (by first | decide | omega) (by first | decide | omega) rfl rfl (Nat.le_of_ble_eq_true rfl) (c_X6_advanceR E S (hw [(131, 1), (131, 2)] G G2) this  hS tx tx_e tx_s TT nn (pEx TT nn 1 sr) f23) ?_
        rintro _ _ _ ⟨rfl, ⟨G33, rfl⟩, rfl, f34⟩
        have k35 := (show pAv TT nn (pEx TT nn 1 sr) 1 = (pEx TT nn 1 sr) 1 from rfl)
        refine r_ex hX hP 1 (pc' := 30) (st' := []) (lo' := [(0, (2, this)), (1, (2, (sK E wanted)))]) rfl ?_
        have hC36 : pAv TT nn (pEx TT nn 1 sr) = pKd TT nn wanted sr := by
          unfold pKd; (repeat (first | rw [if_pos (by first | decide | omega)] | rw [if_neg (by first | decide | omega)])); try rfl
        have hC361 : (pKd TT nn wanted sr) 1 = (pAv TT nn (pEx TT nn 1 sr)) 1 := congrFun hC36.symm 1
        exact r_retV hX hP rfl rfl (by first | decide | omega) (by first | decide | omega) ⟨rfl, ⟨_, (hw_sub (hw_sub (hw_refl _ _) rfl) rfl).symm⟩, rfl, flh4, flh4e, (by first | decide | omega), (rd_cast f34 hC36)⟩
    · skip
      exfalso; omega
  · skip
    have k37 := congrArg (tkK TT nn) (pEx_0 TT nn 1 sr)
    have k38 := congrArg (tkV TT nn) (pEx_0 TT nn 1 sr)
    have k39 := congrArg (tkS TT nn) (pEx_0 TT nn 1 sr)
    have k40 := congrArg (tkE TT nn) (pEx_0 TT nn 1 sr)
    have k41 := rq_flaw f5
    have k41 := flh4e.trans k41
    refine r_peekI hX (tl_131 1 rfl (by decide)) hS (fun o42 o42e o42a o42b => ?_)
    obtain rfl : flh4 = o42 := flh4e.trans o42e.symm
    refine r_if_ne hX hP rfl (tgt := 9) rfl (by first | decide | omega) (by first | decide | omega) (fun c43 => ?_) (fun c43 => ?_)
    · skip
      exfalso; omega
    · skip
      have hC44 : pEx TT nn 1 sr = pKd TT nn wanted sr := by
        unfold pKd; (repeat (first | rw [if_pos (by first | decide | omega)] | rw [if_neg (by first | decide | omega)])); try rfl
      have hC441 : (pKd TT nn wanted sr) 1 = (pEx TT nn 1 sr) 1 := congrFun hC44.symm 1
      exact r_retV hX hP rfl rfl (by first | decide | omega) (by first | decide | omega) ⟨rfl, ⟨_, (hw_sub (hw_refl _ _) rfl).symm⟩, rfl, flh4, flh4e, (by first | decide | omega), (rd_cast f5 hC44)⟩
set_option maxRecDepth 100000 in
set_option maxHeartbeats 4000000 in
theorem c_X6_numberR (E : En) (S : Sg) (G : Gh) (this : Int) (least : Int) (greatest : Int) (hS : S this = 131) (tx : Int) (tx_e : tx = G 131 this 9) (tx_s : S tx = 136) (f0 : Int) (f0_e : f0 = G 131 this 1) (least_a : (-2147483648) ≤ least) (least_b : least ≤ 2147483647) (greatest_a : (-2147483648) ≤ greatest) (greatest_b : greatest ≤ 2147483647) (TT : Tp) (nn : Int) (sr : Rg) (rd : RdC TT nn sr G this tx) : Calls E mX6_number [(2, this), (0, least), (0, greatest)] S G 2 0 0 (fun r S' G' => S = S' ∧ (∃ G1, hw [(131, 1), (131, 2), (131, 5), (131, 6), (131, 7), (131, 8)] G G1 = G') ∧ ∃ z : Int, r = some (0, z) ∧ ∃ f1 : Int, f1 = G' 131 this 1 ∧ (-2147483648) ≤ z ∧ z ≤ 2147483647 ∧ ((f1 ≠ 0 ∧ z = -1) ∨ (f1 = 0 ∧ f0 = 0 ∧ z = tkV TT nn (sr 0) ∧ least ≤ z ∧ z ≤ greatest)) ∧ RdC TT nn (pNb TT nn least greatest sr) G' this tx) := by
  refine calls_by [(0, (2, this)), (1, (0, least)), (2, (0, greatest))] rfl rfl (Nat.le_of_ble_eq_true rfl) (fun X hX => ?_)
  have hP := hPX6_number
  refine r_peekI hX (tl_131 1 rfl (by decide)) hS (fun f0_o f0_oe f0_oa f0_ob => ?_)
  obtain rfl : f0 = f0_o := f0_e.trans f0_oe.symm
  have k1 := f0_e.trans (rq_flaw rd)
  refine r_ex hX hP 2 (pc' := 2) (st' := [(0, 2), (2, this)]) (lo' := [(0, (2, this)), (1, (0, least)), (2, (0, greatest))]) rfl ?_
  refine r_callV gd hX hP rfl cv_X6_95_131 hS (d' := 1) (mc' := 0) (ms' := 0) (as' := [(0, 2)]) (st := []) (by first | decide | omega) (by first | decide | omega) (by first | decide | omega) rfl rfl (Nat.le_of_ble_eq_true rfl) (c_X6_expectR E S G this 2 hS tx tx_e tx_s f0 f0_e (by first | decide | omega) (by first | decide | omega) TT nn sr rd) ?_
  rintro _ _ _ ⟨rfl, ⟨G2, rfl⟩, z3, rfl, flh4, flh4e, (⟨rfl, f6, f7, f8⟩ | ⟨rfl, f9⟩), f5⟩
  · skip
    have k10 := congrArg (tkK TT nn) (pEx_0 TT nn 2 sr)
    have k11 := congrArg (tkV TT nn) (pEx_0 TT nn 2 sr)
    have k12 := congrArg (tkS TT nn) (pEx_0 TT nn 2 sr)
    have k13 := congrArg (tkE TT nn) (pEx_0 TT nn 2 sr)
    have k14 := rq_flaw f5
    have k14 := flh4e.trans k14
    refine r_peekI hX (tl_131 1 rfl (by decide)) hS (fun o15 o15e o15a o15b => ?_)
    obtain rfl : flh4 = o15 := flh4e.trans o15e.symm
    refine r_if_ne hX hP rfl (tgt := 10) rfl (by first | decide | omega) (by first | decide | omega) (fun c16 => ?_) (fun c16 => ?_)
    · skip
      refine r_ex hX hP 1 (pc' := 11) (st' := [(2, this)]) (lo' := [(0, (2, this)), (1, (0, least)), (2, (0, greatest))]) rfl ?_
      refine r_getI hX hP rfl fl_X6_92_131 hS (fun vf17 vf17e vf17a vf17b => ?_)
      have k18 := rq_val f5 (by first | decide | omega)
      have k18 := vf17e.trans k18
      refine r_ex hX hP 1 (pc' := 15) (st' := [(0, least), (0, vf17)]) (lo' := [(0, (2, this)), (1, (0, least)), (2, (0, greatest))]) rfl ?_
      refine r_ic_lt hX hP rfl (tgt := 26) rfl (by first | decide | omega) (by first | decide | omega) (by first | decide | omega) (by first | decide | omega) (fun c19 => ?_) (fun c19 => ?_)
      · skip
        refine r_ex hX hP 2 (pc' := 28) (st' := [(0, 4), (2, this)]) (lo' := [(0, (2, this)), (1, (0, least)), (2, (0, greatest))]) rfl ?_
        refine r_callV gd hX hP rfl cv_X6_44_131 hS (d' := 0) (mc' := 0) (ms' := 0) (as' := [(0, 4)]) (st := []) (by first | decide | omega) (by first | decide | omega) (by first | decide | omega) rfl rfl (Nat.le_of_ble_eq_true rfl) (c_X6_failR E S (hw [(131, 1), (131, 2)] G G2) this 4 hS tx tx_e tx_s (by first | decide | omega) (by first | decide | omega) TT nn (pEx TT nn 2 sr) f5) ?_
        rintro _ _ _ ⟨rfl, ⟨G20, rfl⟩, z21, rfl, flh22, flh22e, rfl, f23, f24⟩
        have k25 := rq_flaw f24
        have k25 := flh22e.trans k25
        refine r_peekI hX (tl_131 1 rfl (by decide)) hS (fun o26 o26e o26a o26b => ?_)
        obtain rfl : flh22 = o26 := flh22e.trans o26e.symm
        refine r_ex hX hP 2 (pc' := 33) (st' := [(0, (-1))]) (lo' := [(0, (2, this)), (1, (0, least)), (2, (0, greatest))]) rfl ?_
        have hC27 : pFl TT nn 4 (pEx TT nn 2 sr) = pNb TT nn least greatest sr := by
          unfold pNb; (repeat (first | rw [if_pos (by first | decide | omega)] | rw [if_neg (by first | decide | omega)])); try rfl
        have hC271 : (pNb TT nn least greatest sr) 1 = (pFl TT nn 4 (pEx TT nn 2 sr)) 1 := congrFun hC27.symm 1
        exact r_retI hX hP rfl rfl (by first | decide | omega) (by first | decide | omega) ⟨rfl, ⟨_, (hw_sub (hw_sub (hw_refl _ _) rfl) rfl).symm⟩, (-1), rfl, flh22, flh22e, (by first | decide | omega), (by first | decide | omega), (by first | decide | omega), (rd_cast f24 hC27)⟩
      · skip
        refine r_ex hX hP 1 (pc' := 19) (st' := [(2, this)]) (lo' := [(0, (2, this)), (1, (0, least)), (2, (0, greatest))]) rfl ?_
        refine r_getKI hX hP rfl fl_X6_92_131 hS (x := vf17) vf17e ?_
        refine r_ex hX hP 1 (pc' := 23) (st' := [(0, greatest), (0, vf17)]) (lo' := [(0, (2, this)), (1, (0, least)), (2, (0, greatest))]) rfl ?_
        refine r_ic_le hX hP rfl (tgt := 34) rfl (by first | decide | omega) (by first | decide | omega) (by first | decide | omega) (by first | decide | omega) (fun c28 => ?_) (fun c28 => ?_)
        · skip
          refine r_ex hX hP 1 (pc' := 35) (st' := [(2, this)]) (lo' := [(0, (2, this)), (1, (0, least)), (2, (0, greatest))]) rfl ?_
          refine r_getKI hX hP rfl fl_X6_92_131 hS (x := vf17) vf17e ?_
          refine r_ex hX hP 2 (pc' := 40) (st' := [(2, this)]) (lo' := [(0, (2, this)), (1, (0, least)), (2, (0, greatest)), (3, (0, vf17))]) rfl ?_
          refine r_callV gd hX hP rfl cv_X6_80_131 hS (d' := 1) (mc' := 0) (ms' := 0) (as' := []) (st := []) (by first | decide | omega) (by first | decide | omega) (by first | decide | omega) rfl rfl (Nat.le_of_ble_eq_true rfl) (c_X6_advanceR E S (hw [(131, 1), (131, 2)] G G2) this  hS tx tx_e tx_s TT nn (pEx TT nn 2 sr) f5) ?_
          rintro _ _ _ ⟨rfl, ⟨G29, rfl⟩, rfl, f30⟩
          have k31 := (show pAv TT nn (pEx TT nn 2 sr) 1 = (pEx TT nn 2 sr) 1 from rfl)
          refine r_ex hX hP 1 (pc' := 44) (st' := [(0, vf17)]) (lo' := [(0, (2, this)), (1, (0, least)), (2, (0, greatest)), (3, (0, vf17))]) rfl ?_
          have hC32 : pAv TT nn (pEx TT nn 2 sr) = pNb TT nn least greatest sr := by
            unfold pNb; (repeat (first | rw [if_pos (by first | decide | omega)] | rw [if_neg (by first | decide | omega)])); try rfl
          have hC321 : (pNb TT nn least greatest sr) 1 = (pAv TT nn (pEx TT nn 2 sr)) 1 := congrFun hC32.symm 1
          exact r_retI hX hP rfl rfl (by first | decide | omega) (by first | decide | omega) ⟨rfl, ⟨_, (hw_sub (hw_sub (hw_refl _ _) rfl) rfl).symm⟩, vf17, rfl, flh4, flh4e, (by first | decide | omega), (by first | decide | omega), (by first | decide | omega), (rd_cast f30 hC32)⟩
        · skip
          refine r_ex hX hP 2 (pc' := 28) (st' := [(0, 4), (2, this)]) (lo' := [(0, (2, this)), (1, (0, least)), (2, (0, greatest))]) rfl ?_
          refine r_callV gd hX hP rfl cv_X6_44_131 hS (d' := 0) (mc' := 0) (ms' := 0) (as' := [(0, 4)]) (st := []) (by first | decide | omega) (by first | decide | omega) (by first | decide | omega) rfl rfl (Nat.le_of_ble_eq_true rfl) (c_X6_failR E S (hw [(131, 1), (131, 2)] G G2) this 4 hS tx tx_e tx_s (by first | decide | omega) (by first | decide | omega) TT nn (pEx TT nn 2 sr) f5) ?_
          rintro _ _ _ ⟨rfl, ⟨G33, rfl⟩, z34, rfl, flh35, flh35e, rfl, f36, f37⟩
          have k38 := rq_flaw f37
          have k38 := flh35e.trans k38
          refine r_peekI hX (tl_131 1 rfl (by decide)) hS (fun o39 o39e o39a o39b => ?_)
          obtain rfl : flh35 = o39 := flh35e.trans o39e.symm
          refine r_ex hX hP 2 (pc' := 33) (st' := [(0, (-1))]) (lo' := [(0, (2, this)), (1, (0, least)), (2, (0, greatest))]) rfl ?_
          have hC40 : pFl TT nn 4 (pEx TT nn 2 sr) = pNb TT nn least greatest sr := by
            unfold pNb; (repeat (first | rw [if_pos (by first | decide | omega)] | rw [if_neg (by first | decide | omega)])); try rfl
          have hC401 : (pNb TT nn least greatest sr) 1 = (pFl TT nn 4 (pEx TT nn 2 sr)) 1 := congrFun hC40.symm 1
          exact r_retI hX hP rfl rfl (by first | decide | omega) (by first | decide | omega) ⟨rfl, ⟨_, (hw_sub (hw_sub (hw_refl _ _) rfl) rfl).symm⟩, (-1), rfl, flh35, flh35e, (by first | decide | omega), (by first | decide | omega), (by first | decide | omega), (rd_cast f37 hC40)⟩
    · skip
      exfalso; omega
  · skip
    have k41 := congrArg (tkK TT nn) (pEx_0 TT nn 2 sr)
    have k42 := congrArg (tkV TT nn) (pEx_0 TT nn 2 sr)
    have k43 := congrArg (tkS TT nn) (pEx_0 TT nn 2 sr)
    have k44 := congrArg (tkE TT nn) (pEx_0 TT nn 2 sr)
    have k45 := rq_flaw f5
    have k45 := flh4e.trans k45
    refine r_peekI hX (tl_131 1 rfl (by decide)) hS (fun o46 o46e o46a o46b => ?_)
    obtain rfl : flh4 = o46 := flh4e.trans o46e.symm
    refine r_if_ne hX hP rfl (tgt := 10) rfl (by first | decide | omega) (by first | decide | omega) (fun c47 => ?_) (fun c47 => ?_)
    · skip
      exfalso; omega
    · skip
      refine r_ex hX hP 1 (pc' := 9) (st' := [(0, (-1))]) (lo' := [(0, (2, this)), (1, (0, least)), (2, (0, greatest))]) rfl ?_
      have hC48 : pEx TT nn 2 sr = pNb TT nn least greatest sr := by
        unfold pNb; (repeat (first | rw [if_pos (by first | decide | omega)] | rw [if_neg (by first | decide | omega)])); try rfl
      have hC481 : (pNb TT nn least greatest sr) 1 = (pEx TT nn 2 sr) 1 := congrFun hC48.symm 1
      exact r_retI hX hP rfl rfl (by first | decide | omega) (by first | decide | omega) ⟨rfl, ⟨_, (hw_sub (hw_refl _ _) rfl).symm⟩, (-1), rfl, flh4, flh4e, (by first | decide | omega), (by first | decide | omega), (by first | decide | omega), (rd_cast f5 hC48)⟩
set_option maxRecDepth 100000 in
set_option maxHeartbeats 4000000 in
theorem c_X6_pushR (E : En) (S : Sg) (G : Gh) (this : Int) (open_ : Int) (hS : S this = 131) (tx : Int) (tx_e : tx = G 131 this 9) (tx_s : S tx = 136) (open__a : (-1) ≤ open_) (open__b : open_ ≤ 59) (TT : Tp) (nn : Int) (sr : Rg) (rd : RdC TT nn sr G this tx) : Calls E mX6_push [(2, this), (0, open_)] S G 3 0 0 (fun r S' G' => S = S' ∧ (∃ G1, hw [(106, -1), (131, 1), (131, 2), (131, 5), (131, 6), (131, 7), (131, 8), (131, 11)] G G1 = G') ∧ r = none ∧ RdC TT nn (pPu TT nn open_ sr) G' this tx) := by
  refine calls_by [(0, (2, this)), (1, (0, open_))] rfl rfl (Nat.le_of_ble_eq_true rfl) (fun X hX => ?_)
  have hP := hPX6_push
  refine r_ex hX hP 2 (pc' := 3) (st' := [(0, 123), (2, this)]) (lo' := [(0, (2, this)), (1, (0, open_))]) rfl ?_
  refine r_peekI hX (tl_131 1 rfl (by decide)) hS (fun flp1 flp1e flp1a flp1b => ?_)
  have k2 := rq_flaw rd
  have k2 := flp1e.trans k2
  refine r_callV gd hX hP rfl cv_X6_116_131 hS (d' := 2) (mc' := 0) (ms' := 0) (as' := [(0, 123)]) (st := []) (by first | decide | omega) (by first | decide | omega) (by first | decide | omega) rfl rfl (Nat.le_of_ble_eq_true rfl) (c_X6_signR E S G this 123 hS tx tx_e tx_s flp1 flp1e (by first | decide | omega) (by first | decide | omega) TT nn sr rd) ?_
  rintro _ _ _ ⟨rfl, ⟨G3, rfl⟩, z4, rfl, flh5, flh5e, z4a, z4b, f6, f7, f8⟩
  have k9 := pSg_1 TT nn 123 sr
  have k10 := rq_flaw f8
  have k10 := flh5e.trans k10
  refine r_peekI hX (tl_131 1 rfl (by decide)) hS (fun o11 o11e o11a o11b => ?_)
  obtain rfl : flh5 = o11 := flh5e.trans o11e.symm
  refine r_if_eq hX hP rfl (tgt := 37) rfl (by first | decide | omega) (by first | decide | omega) (fun c12 => ?_) (fun c12 => ?_)
  · skip
    have hC13 : pSg TT nn 123 sr = pPu TT nn open_ sr := by
      unfold pPu; (repeat (first | rw [if_pos (by first | decide | omega)] | rw [if_neg (by first | decide | omega)])); try rfl
    have hC131 : (pPu TT nn open_ sr) 1 = (pSg TT nn 123 sr) 1 := congrFun hC13.symm 1
    exact r_retV hX hP rfl rfl (by first | decide | omega) (by first | decide | omega) ⟨rfl, ⟨_, (hw_sub (hw_refl _ _) rfl).symm⟩, rfl, (rd_cast f8 hC13)⟩
  · skip
    refine r_ex hX hP 1 (pc' := 10) (st' := [(2, this)]) (lo' := [(0, (2, this)), (1, (0, open_))]) rfl ?_
    refine r_getI hX hP rfl fl_X6_41_131 hS (fun df14 df14e df14a df14b => ?_)
    have k15 := rq_dp f8
    have k15 := df14e.trans k15
    refine r_ex hX hP 1 (pc' := 14) (st' := [(0, 3), (0, df14)]) (lo' := [(0, (2, this)), (1, (0, open_))]) rfl ?_
    refine r_ic_ge hX hP rfl (tgt := 37) rfl (by first | decide | omega) (by first | decide | omega) (by first | decide | omega) (by first | decide | omega) (fun c16 => ?_) (fun c16 => ?_)
    · skip
      have hC17 : pSg TT nn 123 sr = pPu TT nn open_ sr := by
        unfold pPu; (repeat (first | rw [if_pos (by first | decide | omega)] | rw [if_neg (by first | decide | omega)])); try rfl
      have hC171 : (pPu TT nn open_ sr) 1 = (pSg TT nn 123 sr) 1 := congrFun hC17.symm 1
      exact r_retV hX hP rfl rfl (by first | decide | omega) (by first | decide | omega) ⟨rfl, ⟨_, (hw_sub (hw_refl _ _) rfl).symm⟩, rfl, (rd_cast f8 hC17)⟩
    · skip
      refine r_ex hX hP 1 (pc' := 18) (st' := [(2, this)]) (lo' := [(0, (2, this)), (1, (0, open_))]) rfl ?_
      refine r_getR hX hP rfl fl_X6_22_131 hS (fun of18 of18e of18s => ?_)
      refine r_ex hX hP 1 (pc' := 22) (st' := [(2, this), (2, of18)]) (lo' := [(0, (2, this)), (1, (0, open_))]) rfl ?_
      refine r_getKI hX hP rfl fl_X6_41_131 hS (x := df14) df14e ?_
      refine r_ex hX hP 1 (pc' := 26) (st' := [(0, open_), (0, df14), (2, of18)]) (lo' := [(0, (2, this)), (1, (0, open_))]) rfl ?_
      refine r_iastK hX hP rfl al_106 of18s (by first | decide | omega) (by first | decide | omega) (by first | decide | omega) (by first | decide | omega) (fun h19 => ?_)
      refine r_ex hX hP 2 (pc' := 29) (st' := [(2, this), (2, this)]) (lo' := [(0, (2, this)), (1, (0, open_))]) rfl ?_
      refine r_getKI hX hP rfl fl_X6_41_131 hS (x := df14) df14e ?_
      refine r_ex hX hP 2 (pc' := 34) (st' := [(0, (df14 + 1)), (2, this)]) (lo' := [(0, (2, this)), (1, (0, open_))]) rfl ?_
      refine r_putIK hX hP rfl fp_X6_41_131 hS (by first | decide | omega) (by first | decide | omega) (fun h20 => ?_)
      have k21 : df14 = (pSg TT nn 123 sr) 8 := by omega
      have rd22 : RdC TT nn (pPs open_ (pSg TT nn 123 sr)) (up (up (hw [(131, 1), (131, 2), (131, 5), (131, 6), (131, 7), (131, 8)] G G3) 106 of18 df14 open_) 131 this 11 (df14 + 1)) this tx := rd_mk (rq_tape f8 : _) (rq_end f8 : _) (rq_text f8 : _) (rq_tok f8 : _) (rq_start f8 : _) (rq_at f8 : _) (rq_val f8 : _) (rq_flaw f8 : _) (rq_place f8 : _) (rq_told f8 : _) (rq_cc f8 : _) (rq_fb f8 : _) (rq_ti f8 : _) (rq_to f8 : _) (h20.symm.trans (show (df14 + 1) = (pSg TT nn 123 sr) 8 + 1 from by omega)) (rq_size f8 : _) (rd_psh (k := 0) (v := open_) of18e k21 (rq_o0 f8) : _) (rd_psh (k := 1) (v := open_) of18e k21 (rq_o1 f8) : _) (rd_psh (k := 2) (v := open_) of18e k21 (rq_o2 f8) : _) (rq_a0 f8 : _) (rq_a1 f8 : _) (rq_a2 f8 : _) (rq_b0 f8 : _) (rq_b1 f8 : _) (rq_b2 f8 : _) (rq_m0 f8 : _) (rq_m1 f8 : _) (rq_m2 f8 : _) (rq_ne1 f8 : _) (rq_ne2 f8 : _) (rq_p0 f8 : _) (rq_p1 f8 : _) (rq_n4 f8 : _)
      have hC23 : pPs open_ (pSg TT nn 123 sr) = pPu TT nn open_ sr := by
        unfold pPu; (repeat (first | rw [if_pos (by first | decide | omega)] | rw [if_neg (by first | decide | omega)])); try rfl
      have hC231 : (pPu TT nn open_ sr) 1 = (pPs open_ (pSg TT nn 123 sr)) 1 := congrFun hC23.symm 1
      exact r_retV hX hP rfl rfl (by first | decide | omega) (by first | decide | omega) ⟨rfl, ⟨_, (hw_up (hw_up (hw_sub (hw_refl _ _) rfl) rfl) rfl).symm⟩, rfl, (rd_cast rd22 hC23)⟩
set_option maxRecDepth 100000 in
set_option maxHeartbeats 4000000 in
theorem c_X6_rowR (E : En) (S : Sg) (G : Gh) (this : Int) (hS : S this = 131) (tx : Int) (tx_e : tx = G 131 this 9) (tx_s : S tx = 136) (TT : Tp) (nn : Int) (sr : Rg) (rd : RdC TT nn sr G this tx) : Calls E mX6_row [(2, this)] S G 0 0 0 (fun r S' G' => S = S' ∧ G = G' ∧ ∃ z : Int, r = some (0, z) ∧ 0 ≤ z ∧ z ≤ 3 ∧ z = pRw sr ∧ RdC TT nn (sr) G' this tx) := by
  refine calls_by [(0, (2, this))] rfl rfl (Nat.le_of_ble_eq_true rfl) (fun X hX => ?_)
  have hP := hPX6_row
  have k1 := pRw_or sr
  refine r_ex hX hP 1 (pc' := 1) (st' := [(2, this)]) (lo' := [(0, (2, this))]) rfl ?_
  refine r_getI hX hP rfl fl_X6_41_131 hS (fun df2 df2e df2a df2b => ?_)
  have k3 := rq_dp rd
  have k3 := df2e.trans k3
  refine r_if_le hX hP rfl (tgt := 31) rfl (by first | decide | omega) (by first | decide | omega) (fun c4 => ?_) (fun c4 => ?_)
  · skip
    refine r_ex hX hP 3 (pc' := 34) (st' := [(0, 0)]) (lo' := [(0, (2, this)), (1, (0, 0))]) rfl ?_
    refine r_if_eq hX hP rfl (tgt := 49) rfl (by first | decide | omega) (by first | decide | omega) (fun c5 => ?_) (fun c5 => ?_)
    · skip
      refine r_ex hX hP 1 (pc' := 50) (st' := [(0, 3)]) (lo' := [(0, (2, this)), (1, (0, 0))]) rfl ?_
      exact r_retI hX hP rfl rfl (by first | decide | omega) (by first | decide | omega) ⟨rfl, rfl, 3, rfl, (by first | decide | omega), (by first | decide | omega), (by first | decide | omega), rd⟩
    · skip
      exfalso; omega
  · skip
    refine r_ex hX hP 1 (pc' := 8) (st' := [(2, this)]) (lo' := [(0, (2, this))]) rfl ?_
    refine r_getR hX hP rfl fl_X6_22_131 hS (fun of6 of6e of6s => ?_)
    refine r_ex hX hP 1 (pc' := 12) (st' := [(0, 0), (2, of6)]) (lo' := [(0, (2, this))]) rfl ?_
    refine r_iald hX hP rfl al_106 of6s (by first | decide | omega) (by first | decide | omega) (fun x7 x7e x7a x7b => ?_)
    have k8 := rd_opx rd of6e x7e (by first | decide | omega) (by first | decide | omega) (by first | decide | omega)
    have k8 := (show x7 = sr 10 from k8)
    refine r_ex hX hP 1 (pc' := 14) (st' := [(0, (-1)), (0, x7)]) (lo' := [(0, (2, this))]) rfl ?_
    refine r_ic_ne hX hP rfl (tgt := 31) rfl (by first | decide | omega) (by first | decide | omega) (by first | decide | omega) (by first | decide | omega) (fun c9 => ?_) (fun c9 => ?_)
    · skip
      refine r_ex hX hP 3 (pc' := 34) (st' := [(0, 0)]) (lo' := [(0, (2, this)), (1, (0, 0))]) rfl ?_
      refine r_if_eq hX hP rfl (tgt := 49) rfl (by first | decide | omega) (by first | decide | omega) (fun c10 => ?_) (fun c10 => ?_)
      · skip
        refine r_ex hX hP 1 (pc' := 50) (st' := [(0, 3)]) (lo' := [(0, (2, this)), (1, (0, 0))]) rfl ?_
        exact r_retI hX hP rfl rfl (by first | decide | omega) (by first | decide | omega) ⟨rfl, rfl, 3, rfl, (by first | decide | omega), (by first | decide | omega), (by first | decide | omega), rd⟩
      · skip
        exfalso; omega
    · skip
      refine r_ex hX hP 1 (pc' := 18) (st' := [(2, this)]) (lo' := [(0, (2, this))]) rfl ?_
      refine r_getKN hX hP rfl fl_X6_54_131 hS (x := tx) tx_e ?_
      refine r_getI hX hP rfl fl_X6_173_136 tx_s (fun cf11 cf11e cf11a cf11b => ?_)
      have k12 := rq_cc rd
      have k12 := cf11e.trans k12
      refine r_if_le hX hP rfl (tgt := 31) rfl (by first | decide | omega) (by first | decide | omega) (fun c13 => ?_) (fun c13 => ?_)
      · skip
        refine r_ex hX hP 3 (pc' := 34) (st' := [(0, 0)]) (lo' := [(0, (2, this)), (1, (0, 0))]) rfl ?_
        refine r_if_eq hX hP rfl (tgt := 49) rfl (by first | decide | omega) (by first | decide | omega) (fun c14 => ?_) (fun c14 => ?_)
        · skip
          refine r_ex hX hP 1 (pc' := 50) (st' := [(0, 3)]) (lo' := [(0, (2, this)), (1, (0, 0))]) rfl ?_
          exact r_retI hX hP rfl rfl (by first | decide | omega) (by first | decide | omega) ⟨rfl, rfl, 3, rfl, (by first | decide | omega), (by first | decide | omega), (by first | decide | omega), rd⟩
        · skip
          exfalso; omega
      · skip
        refine r_ex hX hP 4 (pc' := 34) (st' := [(0, 1)]) (lo' := [(0, (2, this)), (1, (0, 1))]) rfl ?_
        refine r_if_eq hX hP rfl (tgt := 49) rfl (by first | decide | omega) (by first | decide | omega) (fun c15 => ?_) (fun c15 => ?_)
        · skip
          exfalso; omega
        · skip
          refine r_ex hX hP 1 (pc' := 38) (st' := [(2, this)]) (lo' := [(0, (2, this)), (1, (0, 1))]) rfl ?_
          refine r_getKN hX hP rfl fl_X6_54_131 hS (x := tx) tx_e ?_
          refine r_getKI hX hP rfl fl_X6_173_136 tx_s (x := cf11) cf11e ?_
          refine r_ex hX hP 3 (pc' := 50) (st' := [(0, (cf11 - 1))]) (lo' := [(0, (2, this)), (1, (0, 1))]) rfl ?_
          exact r_retI hX hP rfl rfl (by first | decide | omega) (by first | decide | omega) ⟨rfl, rfl, (cf11 - 1), rfl, (by first | decide | omega), (by first | decide | omega), (by first | decide | omega), rd⟩
set_option maxRecDepth 100000 in
set_option maxHeartbeats 4000000 in
theorem c_X6_isMisplacedR (E : En) (S : Sg) (G : Gh) (this : Int) (what : Int) (hS : S this = 131) (tx : Int) (tx_e : tx = G 131 this 9) (tx_s : S tx = 136) (what_a : (-2147483648) ≤ what) (what_b : what ≤ 2147483647) (TT : Tp) (nn : Int) (sr : Rg) (rd : RdC TT nn sr G this tx) : Calls E mX6_isMisplaced [(2, this), (0, what)] S G 1 0 0 (fun r S' G' => S = S' ∧ G = G' ∧ ∃ z : Int, r = some (0, z) ∧ 0 ≤ z ∧ z ≤ 1 ∧ z = pMi what sr ∧ RdC TT nn (sr) G' this tx) := by
  refine calls_by [(0, (2, this)), (1, (0, what))] rfl rfl (Nat.le_of_ble_eq_true rfl) (fun X hX => ?_)
  have hP := hPX6_isMisplaced
  refine r_ex hX hP 1 (pc' := 1) (st' := [(2, this)]) (lo' := [(0, (2, this)), (1, (0, what))]) rfl ?_
  refine r_callV gd hX hP rfl cv_X6_168_131 hS (d' := 0) (mc' := 0) (ms' := 0) (as' := []) (st := []) (by first | decide | omega) (by first | decide | omega) (by first | decide | omega) rfl rfl (Nat.le_of_ble_eq_true rfl) (c_X6_rowR E S G this  hS tx tx_e tx_s TT nn sr rd) ?_
  rintro _ _ _ ⟨rfl, rfl, z1, rfl, z1a, z1b, f2, f3⟩
  refine r_ex hX hP 3 (pc' := 8) (st' := [(0, 7), (0, what)]) (lo' := [(0, (2, this)), (1, (0, what)), (2, (0, z1))]) rfl ?_
  refine r_ic_eq hX hP rfl (tgt := 17) rfl (by first | decide | omega) (by first | decide | omega) (by first | decide | omega) (by first | decide | omega) (fun c4 => ?_) (fun c4 => ?_)
  · skip
    refine r_ex hX hP 1 (pc' := 18) (st' := [(2, this)]) (lo' := [(0, (2, this)), (1, (0, what)), (2, (0, z1))]) rfl ?_
    refine r_getI hX hP rfl fl_X6_41_131 hS (fun df5 df5e df5a df5b => ?_)
    have k6 := rq_dp f3
    have k6 := df5e.trans k6
    refine r_if_le hX hP rfl (tgt := 28) rfl (by first | decide | omega) (by first | decide | omega) (fun c7 => ?_) (fun c7 => ?_)
    · skip
      refine r_ex hX hP 1 (pc' := 29) (st' := [(0, 0)]) (lo' := [(0, (2, this)), (1, (0, what)), (2, (0, z1))]) rfl ?_
      have hZ8 : 0 = pMi what sr := by unfold pMi; (repeat (first | rw [if_pos (by first | decide | omega)] | rw [if_neg (by first | decide | omega)]))
      exact r_retZ hX hP rfl rfl (by first | decide | omega) (by first | decide | omega) (by first | decide | omega) (by first | decide | omega) ⟨rfl, rfl, 0, rfl, (by first | decide | omega), (by first | decide | omega), (by first | decide | omega), f3⟩
    · skip
      refine r_ex hX hP 2 (pc' := 29) (st' := [(0, 1)]) (lo' := [(0, (2, this)), (1, (0, what)), (2, (0, z1))]) rfl ?_
      have hZ9 : 1 = pMi what sr := by unfold pMi; (repeat (first | rw [if_pos (by first | decide | omega)] | rw [if_neg (by first | decide | omega)]))
      exact r_retZ hX hP rfl rfl (by first | decide | omega) (by first | decide | omega) (by first | decide | omega) (by first | decide | omega) ⟨rfl, rfl, 1, rfl, (by first | decide | omega), (by first | decide | omega), (by first | decide | omega), f3⟩
  · skip
    refine r_ex hX hP 2 (pc' := 14) (st' := [(0, 8), (0, what)]) (lo' := [(0, (2, this)), (1, (0, what)), (2, (0, z1))]) rfl ?_
    refine r_ic_ne hX hP rfl (tgt := 30) rfl (by first | decide | omega) (by first | decide | omega) (by first | decide | omega) (by first | decide | omega) (fun c10 => ?_) (fun c10 => ?_)
    · skip
      refine r_ex hX hP 2 (pc' := 33) (st' := [(0, 9), (0, what)]) (lo' := [(0, (2, this)), (1, (0, what)), (2, (0, z1))]) rfl ?_
      refine r_ic_ne hX hP rfl (tgt := 68) rfl (by first | decide | omega) (by first | decide | omega) (by first | decide | omega) (by first | decide | omega) (fun c11 => ?_) (fun c11 => ?_)
      · skip
        refine r_ex hX hP 2 (pc' := 70) (st' := [(0, 1), (0, what)]) (lo' := [(0, (2, this)), (1, (0, what)), (2, (0, z1))]) rfl ?_
        refine r_ic_ne hX hP rfl (tgt := 99) rfl (by first | decide | omega) (by first | decide | omega) (by first | decide | omega) (by first | decide | omega) (fun c12 => ?_) (fun c12 => ?_)
        · skip
          refine r_ex hX hP 1 (pc' := 100) (st' := [(0, 0)]) (lo' := [(0, (2, this)), (1, (0, what)), (2, (0, z1))]) rfl ?_
          have hZ13 : 0 = pMi what sr := by unfold pMi; (repeat (first | rw [if_pos (by first | decide | omega)] | rw [if_neg (by first | decide | omega)]))
          exact r_retZ hX hP rfl rfl (by first | decide | omega) (by first | decide | omega) (by first | decide | omega) (by first | decide | omega) ⟨rfl, rfl, 0, rfl, (by first | decide | omega), (by first | decide | omega), (by first | decide | omega), f3⟩
        · skip
          refine r_ex hX hP 2 (pc' := 75) (st' := [(0, 3), (0, z1)]) (lo' := [(0, (2, this)), (1, (0, what)), (2, (0, z1))]) rfl ?_
          refine r_ic_ne hX hP rfl (tgt := 88) rfl (by first | decide | omega) (by first | decide | omega) (by first | decide | omega) (by first | decide | omega) (fun c14 => ?_) (fun c14 => ?_)
          · skip
            refine r_ex hX hP 1 (pc' := 89) (st' := [(2, this)]) (lo' := [(0, (2, this)), (1, (0, what)), (2, (0, z1))]) rfl ?_
            refine r_getI hX hP rfl fl_X6_77_131 hS (fun tf15 tf15e tf15a tf15b => ?_)
            have k16 := rq_to f3
            have k16 := tf15e.trans k16
            refine r_if_eq hX hP rfl (tgt := 99) rfl (by first | decide | omega) (by first | decide | omega) (fun c17 => ?_) (fun c17 => ?_)
            · skip
              refine r_ex hX hP 1 (pc' := 100) (st' := [(0, 0)]) (lo' := [(0, (2, this)), (1, (0, what)), (2, (0, z1))]) rfl ?_
              have hZ18 : 0 = pMi what sr := by unfold pMi; (repeat (first | rw [if_pos (by first | decide | omega)] | rw [if_neg (by first | decide | omega)]))
              exact r_retZ hX hP rfl rfl (by first | decide | omega) (by first | decide | omega) (by first | decide | omega) (by first | decide | omega) ⟨rfl, rfl, 0, rfl, (by first | decide | omega), (by first | decide | omega), (by first | decide | omega), f3⟩
            · skip
              refine r_ex hX hP 2 (pc' := 100) (st' := [(0, 1)]) (lo' := [(0, (2, this)), (1, (0, what)), (2, (0, z1))]) rfl ?_
              have hZ19 : 1 = pMi what sr := by unfold pMi; (repeat (first | rw [if_pos (by first | decide | omega)] | rw [if_neg (by first | decide | omega)]))
              exact r_retZ hX hP rfl rfl (by first | decide | omega) (by first | decide | omega) (by first | decide | omega) (by first | decide | omega) ⟨rfl, rfl, 1, rfl, (by first | decide | omega), (by first | decide | omega), (by first | decide | omega), f3⟩
          · skip
            refine r_ex hX hP 1 (pc' := 79) (st' := [(2, this)]) (lo' := [(0, (2, this)), (1, (0, what)), (2, (0, z1))]) rfl ?_
            refine r_getI hX hP rfl fl_X6_73_131 hS (fun tf20 tf20e tf20a tf20b => ?_)
            have k21 := rq_ti f3
            have k21 := tf20e.trans k21
            refine r_if_eq hX hP rfl (tgt := 99) rfl (by first | decide | omega) (by first | decide | omega) (fun c22 => ?_) (fun c22 => ?_)
            · skip
              refine r_ex hX hP 1 (pc' := 100) (st' := [(0, 0)]) (lo' := [(0, (2, this)), (1, (0, what)), (2, (0, z1))]) rfl ?_
              have hZ23 : 0 = pMi what sr := by unfold pMi; (repeat (first | rw [if_pos (by first | decide | omega)] | rw [if_neg (by first | decide | omega)]))
              exact r_retZ hX hP rfl rfl (by first | decide | omega) (by first | decide | omega) (by first | decide | omega) (by first | decide | omega) ⟨rfl, rfl, 0, rfl, (by first | decide | omega), (by first | decide | omega), (by first | decide | omega), f3⟩
            · skip
              refine r_ex hX hP 3 (pc' := 100) (st' := [(0, 1)]) (lo' := [(0, (2, this)), (1, (0, what)), (2, (0, z1))]) rfl ?_
              have hZ24 : 1 = pMi what sr := by unfold pMi; (repeat (first | rw [if_pos (by first | decide | omega)] | rw [if_neg (by first | decide | omega)]))
              exact r_retZ hX hP rfl rfl (by first | decide | omega) (by first | decide | omega) (by first | decide | omega) (by first | decide | omega) ⟨rfl, rfl, 1, rfl, (by first | decide | omega), (by first | decide | omega), (by first | decide | omega), f3⟩
      · skip
        refine r_ex hX hP 1 (pc' := 37) (st' := [(2, this)]) (lo' := [(0, (2, this)), (1, (0, what)), (2, (0, z1))]) rfl ?_
        refine r_getI hX hP rfl fl_X6_41_131 hS (fun df25 df25e df25a df25b => ?_)
        have k26 := rq_dp f3
        have k26 := df25e.trans k26
        refine r_ex hX hP 1 (pc' := 41) (st' := [(0, 1), (0, df25)]) (lo' := [(0, (2, this)), (1, (0, what)), (2, (0, z1))]) rfl ?_
        refine r_ic_ne hX hP rfl (tgt := 62) rfl (by first | decide | omega) (by first | decide | omega) (by first | decide | omega) (by first | decide | omega) (fun c27 => ?_) (fun c27 => ?_)
        · skip
          refine r_ex hX hP 2 (pc' := 67) (st' := [(0, 1)]) (lo' := [(0, (2, this)), (1, (0, what)), (2, (0, z1))]) rfl ?_
          have hZ28 : 1 = pMi what sr := by unfold pMi; (repeat (first | rw [if_pos (by first | decide | omega)] | rw [if_neg (by first | decide | omega)]))
          exact r_retZ hX hP rfl rfl (by first | decide | omega) (by first | decide | omega) (by first | decide | omega) (by first | decide | omega) ⟨rfl, rfl, 1, rfl, (by first | decide | omega), (by first | decide | omega), (by first | decide | omega), f3⟩
        · skip
          refine r_ex hX hP 2 (pc' := 46) (st' := [(0, 3), (0, z1)]) (lo' := [(0, (2, this)), (1, (0, what)), (2, (0, z1))]) rfl ?_
          refine r_ic_eq hX hP rfl (tgt := 62) rfl (by first | decide | omega) (by first | decide | omega) (by first | decide | omega) (by first | decide | omega) (fun c29 => ?_) (fun c29 => ?_)
          · skip
            refine r_ex hX hP 2 (pc' := 67) (st' := [(0, 1)]) (lo' := [(0, (2, this)), (1, (0, what)), (2, (0, z1))]) rfl ?_
            have hZ30 : 1 = pMi what sr := by unfold pMi; (repeat (first | rw [if_pos (by first | decide | omega)] | rw [if_neg (by first | decide | omega)]))
            exact r_retZ hX hP rfl rfl (by first | decide | omega) (by first | decide | omega) (by first | decide | omega) (by first | decide | omega) ⟨rfl, rfl, 1, rfl, (by first | decide | omega), (by first | decide | omega), (by first | decide | omega), f3⟩
          · skip
            refine r_ex hX hP 1 (pc' := 50) (st' := [(2, this)]) (lo' := [(0, (2, this)), (1, (0, what)), (2, (0, z1))]) rfl ?_
            refine r_getKN hX hP rfl fl_X6_54_131 hS (x := tx) tx_e ?_
            refine r_getR hX hP rfl fl_X6_171_136 tx_s (fun mf31 mf31e mf31s => ?_)
            refine r_ex hX hP 1 (pc' := 57) (st' := [(0, z1), (2, mf31)]) (lo' := [(0, (2, this)), (1, (0, what)), (2, (0, z1))]) rfl ?_
            refine r_iald hX hP rfl al_124 mf31s (by first | decide | omega) (by first | decide | omega) (fun x32 x32e x32a x32b => ?_)
            have k33 := rd_mox f3 mf31e x32e (by first | decide | omega) (by first | decide | omega)
            have k34 := congrArg (n3 sr 40) (show z1 = pRw sr from by omega)
            refine r_ex hX hP 1 (pc' := 59) (st' := [(0, (-1)), (0, x32)]) (lo' := [(0, (2, this)), (1, (0, what)), (2, (0, z1))]) rfl ?_
            refine r_ic_eq hX hP rfl (tgt := 66) rfl (by first | decide | omega) (by first | decide | omega) (by first | decide | omega) (by first | decide | omega) (fun c35 => ?_) (fun c35 => ?_)
            · skip
              refine r_ex hX hP 1 (pc' := 67) (st' := [(0, 0)]) (lo' := [(0, (2, this)), (1, (0, what)), (2, (0, z1))]) rfl ?_
              have hZ36 : 0 = pMi what sr := by unfold pMi; (repeat (first | rw [if_pos (by first | decide | omega)] | rw [if_neg (by first | decide | omega)]))
              exact r_retZ hX hP rfl rfl (by first | decide | omega) (by first | decide | omega) (by first | decide | omega) (by first | decide | omega) ⟨rfl, rfl, 0, rfl, (by first | decide | omega), (by first | decide | omega), (by first | decide | omega), f3⟩
            · skip
              refine r_ex hX hP 2 (pc' := 67) (st' := [(0, 1)]) (lo' := [(0, (2, this)), (1, (0, what)), (2, (0, z1))]) rfl ?_
              have hZ37 : 1 = pMi what sr := by unfold pMi; (repeat (first | rw [if_pos (by first | decide | omega)] | rw [if_neg (by first | decide | omega)]))
              exact r_retZ hX hP rfl rfl (by first | decide | omega) (by first | decide | omega) (by first | decide | omega) (by first | decide | omega) ⟨rfl, rfl, 1, rfl, (by first | decide | omega), (by first | decide | omega), (by first | decide | omega), f3⟩
    · skip
      refine r_ex hX hP 1 (pc' := 18) (st' := [(2, this)]) (lo' := [(0, (2, this)), (1, (0, what)), (2, (0, z1))]) rfl ?_
      refine r_getI hX hP rfl fl_X6_41_131 hS (fun df38 df38e df38a df38b => ?_)
      have k39 := rq_dp f3
      have k39 := df38e.trans k39
      refine r_if_le hX hP rfl (tgt := 28) rfl (by first | decide | omega) (by first | decide | omega) (fun c40 => ?_) (fun c40 => ?_)
      · skip
        refine r_ex hX hP 1 (pc' := 29) (st' := [(0, 0)]) (lo' := [(0, (2, this)), (1, (0, what)), (2, (0, z1))]) rfl ?_
        have hZ41 : 0 = pMi what sr := by unfold pMi; (repeat (first | rw [if_pos (by first | decide | omega)] | rw [if_neg (by first | decide | omega)]))
        exact r_retZ hX hP rfl rfl (by first | decide | omega) (by first | decide | omega) (by first | decide | omega) (by first | decide | omega) ⟨rfl, rfl, 0, rfl, (by first | decide | omega), (by first | decide | omega), (by first | decide | omega), f3⟩
      · skip
        refine r_ex hX hP 2 (pc' := 29) (st' := [(0, 1)]) (lo' := [(0, (2, this)), (1, (0, what)), (2, (0, z1))]) rfl ?_
        have hZ42 : 1 = pMi what sr := by unfold pMi; (repeat (first | rw [if_pos (by first | decide | omega)] | rw [if_neg (by first | decide | omega)]))
        exact r_retZ hX hP rfl rfl (by first | decide | omega) (by first | decide | omega) (by first | decide | omega) (by first | decide | omega) ⟨rfl, rfl, 1, rfl, (by first | decide | omega), (by first | decide | omega), (by first | decide | omega), f3⟩
set_option maxRecDepth 100000 in
set_option maxHeartbeats 4000000 in
theorem c_X6_wordFaultR (E : En) (S : Sg) (G : Gh) (this : Int) (what : Int) (hS : S this = 131) (tx : Int) (tx_e : tx = G 131 this 9) (tx_s : S tx = 136) (td : Int) (td_e : td = G 131 this 10) (dp : Int) (dp_e : dp = G 131 this 11) (what_a : (-2147483648) ≤ what) (what_b : what ≤ 2147483647) (TT : Tp) (nn : Int) (sr : Rg) (rd : RdC TT nn sr G this tx) : Calls E mX6_wordFault [(2, this), (0, what)] S G 2 0 0 (fun r S' G' => S = S' ∧ G = G' ∧ ∃ z : Int, r = some (0, z) ∧ 0 ≤ z ∧ z ≤ 6 ∧ z = pWf what sr ∧ (z ≠ 0 ∨ (what ≠ -1 ∧ td ≤ 29 ∧ dp ≤ 2)) ∧ RdC TT nn (sr) G' this tx) := by
  refine calls_by [(0, (2, this)), (1, (0, what))] rfl rfl (Nat.le_of_ble_eq_true rfl) (fun X hX => ?_)
  have hP := hPX6_wordFault
  refine r_peekI hX (tl_131 10 rfl (by decide)) hS (fun td_o td_oe td_oa td_ob => ?_)
  obtain rfl : td = td_o := td_e.trans td_oe.symm
  refine r_peekI hX (tl_131 11 rfl (by decide)) hS (fun dp_o dp_oe dp_oa dp_ob => ?_)
  obtain rfl : dp = dp_o := dp_e.trans dp_oe.symm
  have k1 := td_e.trans (rq_told rd)
  have k2 := dp_e.trans (rq_dp rd)
  refine r_ex hX hP 2 (pc' := 2) (st' := [(0, (-1)), (0, what)]) (lo' := [(0, (2, this)), (1, (0, what))]) rfl ?_
  refine r_ic_ne hX hP rfl (tgt := 7) rfl (by first | decide | omega) (by first | decide | omega) (by first | decide | omega) (by first | decide | omega) (fun c3 => ?_) (fun c3 => ?_)
  · skip
    refine r_ex hX hP 1 (pc' := 8) (st' := [(2, this)]) (lo' := [(0, (2, this)), (1, (0, what))]) rfl ?_
    refine r_getKI hX hP rfl fl_X6_70_131 hS (x := td) td_e ?_
    refine r_ex hX hP 1 (pc' := 13) (st' := [(0, 30), (0, td)]) (lo' := [(0, (2, this)), (1, (0, what))]) rfl ?_
    refine r_ic_ge hX hP rfl (tgt := 24) rfl (by first | decide | omega) (by first | decide | omega) (by first | decide | omega) (by first | decide | omega) (fun c4 => ?_) (fun c4 => ?_)
    · skip
      refine r_ex hX hP 1 (pc' := 25) (st' := [(0, 3)]) (lo' := [(0, (2, this)), (1, (0, what))]) rfl ?_
      have hZ5 : 3 = pWf what sr := by unfold pWf; (repeat (first | rw [if_pos (by first | decide | omega)] | rw [if_neg (by first | decide | omega)]))
      exact r_retI hX hP rfl rfl (by first | decide | omega) (by first | decide | omega) ⟨rfl, rfl, 3, rfl, (by first | decide | omega), (by first | decide | omega), (by first | decide | omega), (by first | decide | omega), rd⟩
    · skip
      refine r_ex hX hP 1 (pc' := 17) (st' := [(2, this)]) (lo' := [(0, (2, this)), (1, (0, what))]) rfl ?_
      refine r_getKI hX hP rfl fl_X6_41_131 hS (x := dp) dp_e ?_
      refine r_ex hX hP 1 (pc' := 21) (st' := [(0, 3), (0, dp)]) (lo' := [(0, (2, this)), (1, (0, what))]) rfl ?_
      refine r_ic_lt hX hP rfl (tgt := 26) rfl (by first | decide | omega) (by first | decide | omega) (by first | decide | omega) (by first | decide | omega) (fun c6 => ?_) (fun c6 => ?_)
      · skip
        refine r_ex hX hP 2 (pc' := 29) (st' := [(0, 8), (0, what)]) (lo' := [(0, (2, this)), (1, (0, what))]) rfl ?_
        refine r_ic_ne hX hP rfl (tgt := 45) rfl (by first | decide | omega) (by first | decide | omega) (by first | decide | omega) (by first | decide | omega) (fun c7 => ?_) (fun c7 => ?_)
        · skip
          refine r_ex hX hP 2 (pc' := 47) (st' := [(0, what), (2, this)]) (lo' := [(0, (2, this)), (1, (0, what))]) rfl ?_
          refine r_callV gd hX hP rfl cv_X6_165_131 hS (d' := 1) (mc' := 0) (ms' := 0) (as' := [(0, what)]) (st := []) (by first | decide | omega) (by first | decide | omega) (by first | decide | omega) rfl rfl (Nat.le_of_ble_eq_true rfl) (c_X6_isMisplacedR E S G this what hS tx tx_e tx_s (by first | decide | omega) (by first | decide | omega) TT nn sr rd) ?_
          rintro _ _ _ ⟨rfl, rfl, z8, rfl, z8a, z8b, f9, f10⟩
          refine r_if_eq hX hP rfl (tgt := 58) rfl (by first | decide | omega) (by first | decide | omega) (fun c11 => ?_) (fun c11 => ?_)
          · skip
            refine r_ex hX hP 1 (pc' := 59) (st' := [(0, 0)]) (lo' := [(0, (2, this)), (1, (0, what))]) rfl ?_
            have hZ12 : 0 = pWf what sr := by unfold pWf; (repeat (first | rw [if_pos (by first | decide | omega)] | rw [if_neg (by first | decide | omega)]))
            exact r_retI hX hP rfl rfl (by first | decide | omega) (by first | decide | omega) ⟨rfl, rfl, 0, rfl, (by first | decide | omega), (by first | decide | omega), (by first | decide | omega), (by first | decide | omega), f10⟩
          · skip
            refine r_ex hX hP 2 (pc' := 59) (st' := [(0, 6)]) (lo' := [(0, (2, this)), (1, (0, what))]) rfl ?_
            have hZ13 : 6 = pWf what sr := by unfold pWf; (repeat (first | rw [if_pos (by first | decide | omega)] | rw [if_neg (by first | decide | omega)]))
            exact r_retI hX hP rfl rfl (by first | decide | omega) (by first | decide | omega) ⟨rfl, rfl, 6, rfl, (by first | decide | omega), (by first | decide | omega), (by first | decide | omega), (by first | decide | omega), f10⟩
        · skip
          refine r_ex hX hP 1 (pc' := 33) (st' := [(2, this)]) (lo' := [(0, (2, this)), (1, (0, what))]) rfl ?_
          refine r_getKN hX hP rfl fl_X6_54_131 hS (x := tx) tx_e ?_
          refine r_getI hX hP rfl fl_X6_163_136 tx_s (fun ff14 ff14e ff14a ff14b => ?_)
          have k15 := rq_fb rd
          have k15 := ff14e.trans k15
          refine r_ex hX hP 1 (pc' := 40) (st' := [(0, (-1)), (0, ff14)]) (lo' := [(0, (2, this)), (1, (0, what))]) rfl ?_
          refine r_ic_eq hX hP rfl (tgt := 45) rfl (by first | decide | omega) (by first | decide | omega) (by first | decide | omega) (by first | decide | omega) (fun c16 => ?_) (fun c16 => ?_)
          · skip
            refine r_ex hX hP 2 (pc' := 47) (st' := [(0, what), (2, this)]) (lo' := [(0, (2, this)), (1, (0, what))]) rfl ?_
            refine r_callV gd hX hP rfl cv_X6_165_131 hS (d' := 1) (mc' := 0) (ms' := 0) (as' := [(0, what)]) (st := []) (by first | decide | omega) (by first | decide | omega) (by first | decide | omega) rfl rfl (Nat.le_of_ble_eq_true rfl) (c_X6_isMisplacedR E S G this what hS tx tx_e tx_s (by first | decide | omega) (by first | decide | omega) TT nn sr rd) ?_
            rintro _ _ _ ⟨rfl, rfl, z17, rfl, z17a, z17b, f18, f19⟩
            refine r_if_eq hX hP rfl (tgt := 58) rfl (by first | decide | omega) (by first | decide | omega) (fun c20 => ?_) (fun c20 => ?_)
            · skip
              refine r_ex hX hP 1 (pc' := 59) (st' := [(0, 0)]) (lo' := [(0, (2, this)), (1, (0, what))]) rfl ?_
              have hZ21 : 0 = pWf what sr := by unfold pWf; (repeat (first | rw [if_pos (by first | decide | omega)] | rw [if_neg (by first | decide | omega)]))
              exact r_retI hX hP rfl rfl (by first | decide | omega) (by first | decide | omega) ⟨rfl, rfl, 0, rfl, (by first | decide | omega), (by first | decide | omega), (by first | decide | omega), (by first | decide | omega), f19⟩
            · skip
              refine r_ex hX hP 2 (pc' := 59) (st' := [(0, 6)]) (lo' := [(0, (2, this)), (1, (0, what))]) rfl ?_
              have hZ22 : 6 = pWf what sr := by unfold pWf; (repeat (first | rw [if_pos (by first | decide | omega)] | rw [if_neg (by first | decide | omega)]))
              exact r_retI hX hP rfl rfl (by first | decide | omega) (by first | decide | omega) ⟨rfl, rfl, 6, rfl, (by first | decide | omega), (by first | decide | omega), (by first | decide | omega), (by first | decide | omega), f19⟩
          · skip
            refine r_ex hX hP 1 (pc' := 44) (st' := [(0, 5)]) (lo' := [(0, (2, this)), (1, (0, what))]) rfl ?_
            have hZ23 : 5 = pWf what sr := by unfold pWf; (repeat (first | rw [if_pos (by first | decide | omega)] | rw [if_neg (by first | decide | omega)]))
            exact r_retI hX hP rfl rfl (by first | decide | omega) (by first | decide | omega) ⟨rfl, rfl, 5, rfl, (by first | decide | omega), (by first | decide | omega), (by first | decide | omega), (by first | decide | omega), rd⟩
      · skip
        refine r_ex hX hP 1 (pc' := 25) (st' := [(0, 3)]) (lo' := [(0, (2, this)), (1, (0, what))]) rfl ?_
        have hZ24 : 3 = pWf what sr := by unfold pWf; (repeat (first | rw [if_pos (by first | decide | omega)] | rw [if_neg (by first | decide | omega)]))
        exact r_retI hX hP rfl rfl (by first | decide | omega) (by first | decide | omega) ⟨rfl, rfl, 3, rfl, (by first | decide | omega), (by first | decide | omega), (by first | decide | omega), (by first | decide | omega), rd⟩
  · skip
    refine r_ex hX hP 1 (pc' := 6) (st' := [(0, 2)]) (lo' := [(0, (2, this)), (1, (0, what))]) rfl ?_
    have hZ25 : 2 = pWf what sr := by unfold pWf; (repeat (first | rw [if_pos (by first | decide | omega)] | rw [if_neg (by first | decide | omega)]))
    exact r_retI hX hP rfl rfl (by first | decide | omega) (by first | decide | omega) ⟨rfl, rfl, 2, rfl, (by first | decide | omega), (by first | decide | omega), (by first | decide | omega), (by first | decide | omega), rd⟩
set_option maxRecDepth 100000 in
set_option maxHeartbeats 4000000 in
theorem c_X6_clauseWordR (E : En) (S : Sg) (G : Gh) (this : Int) (hS : S this = 131) (tx : Int) (tx_e : tx = G 131 this 9) (tx_s : S tx = 136) (TT : Tp) (nn : Int) (sr : Rg) (rd : RdC TT nn sr G this tx) : Calls E mX6_clauseWord [(2, this)] S G 5 0 0 (fun r S' G' => S = S' ∧ G = G' ∧ ∃ z : Int, r = some (0, z) ∧ (-1) ≤ z ∧ z ≤ 9 ∧ z = pCw TT nn (sr 0) ∧ RdC TT nn (sr) G' this tx) := by
  refine calls_by [(0, (2, this))] rfl rfl (Nat.le_of_ble_eq_true rfl) (fun X hX => ?_)
  have hP := hPX6_clauseWord
  refine r_ex hX hP 1 (pc' := 1) (st' := [(2, this)]) (lo' := [(0, (2, this))]) rfl ?_
  refine r_ldcS hX hP rfl (k := 1) (by decide) rfl rfl ?_
  refine r_peekI hX (tl_131 5 rfl (by decide)) hS (fun atp1 atp1e atp1a atp1b => ?_)
  have k2 := rq_at rd
  have k2 := atp1e.trans k2
  refine r_peekI hX (tl_131 7 rfl (by decide)) hS (fun stp3 stp3e stp3a stp3b => ?_)
  have k4 := rq_start rd
  have k4 := stp3e.trans k4
  refine r_callV gd hX hP rfl cv_X6_98_131 hS (d' := 4) (mc' := 0) (ms' := 0) (as' := [(2, (sK E 1))]) (st := []) (by first | decide | omega) (by first | decide | omega) (by first | decide | omega) rfl rfl (Nat.le_of_ble_eq_true rfl) (c_X6_isR E S G this 1 hS (by decide) tx tx_e tx_s atp1 atp1e stp3 stp3e TT nn sr rd) ?_
  rintro _ _ _ ⟨rfl, rfl, z5, rfl, z5a, z5b, f6, f7⟩
  refine r_if_eq hX hP rfl (tgt := 11) rfl (by first | decide | omega) (by first | decide | omega) (fun c8 => ?_) (fun c8 => ?_)
  · skip
    refine r_ex hX hP 1 (pc' := 12) (st' := [(2, this)]) (lo' := [(0, (2, this))]) rfl ?_
    refine r_ldcS hX hP rfl (k := 2) (by decide) rfl rfl ?_
    refine r_callV gd hX hP rfl cv_X6_98_131 hS (d' := 4) (mc' := 0) (ms' := 0) (as' := [(2, (sK E 2))]) (st := []) (by first | decide | omega) (by first | decide | omega) (by first | decide | omega) rfl rfl (Nat.le_of_ble_eq_true rfl) (c_X6_isR E S G this 2 hS (by decide) tx tx_e tx_s atp1 atp1e stp3 stp3e TT nn sr f7) ?_
    rintro _ _ _ ⟨rfl, rfl, z9, rfl, z9a, z9b, f10, f11⟩
    refine r_if_eq hX hP rfl (tgt := 22) rfl (by first | decide | omega) (by first | decide | omega) (fun c12 => ?_) (fun c12 => ?_)
    · skip
      refine r_ex hX hP 1 (pc' := 23) (st' := [(2, this)]) (lo' := [(0, (2, this))]) rfl ?_
      refine r_ldcS hX hP rfl (k := 3) (by decide) rfl rfl ?_
      refine r_callV gd hX hP rfl cv_X6_98_131 hS (d' := 4) (mc' := 0) (ms' := 0) (as' := [(2, (sK E 3))]) (st := []) (by first | decide | omega) (by first | decide | omega) (by first | decide | omega) rfl rfl (Nat.le_of_ble_eq_true rfl) (c_X6_isR E S G this 3 hS (by decide) tx tx_e tx_s atp1 atp1e stp3 stp3e TT nn sr f11) ?_
      rintro _ _ _ ⟨rfl, rfl, z13, rfl, z13a, z13b, f14, f15⟩
      refine r_if_eq hX hP rfl (tgt := 33) rfl (by first | decide | omega) (by first | decide | omega) (fun c16 => ?_) (fun c16 => ?_)
      · skip
        refine r_ex hX hP 1 (pc' := 34) (st' := [(2, this)]) (lo' := [(0, (2, this))]) rfl ?_
        refine r_ldcS hX hP rfl (k := 4) (by decide) rfl rfl ?_
        refine r_callV gd hX hP rfl cv_X6_98_131 hS (d' := 4) (mc' := 0) (ms' := 0) (as' := [(2, (sK E 4))]) (st := []) (by first | decide | omega) (by first | decide | omega) (by first | decide | omega) rfl rfl (Nat.le_of_ble_eq_true rfl) (c_X6_isR E S G this 4 hS (by decide) tx tx_e tx_s atp1 atp1e stp3 stp3e TT nn sr f15) ?_
        rintro _ _ _ ⟨rfl, rfl, z17, rfl, z17a, z17b, f18, f19⟩
        refine r_if_eq hX hP rfl (tgt := 44) rfl (by first | decide | omega) (by first | decide | omega) (fun c20 => ?_) (fun c20 => ?_)
        · skip
          refine r_ex hX hP 1 (pc' := 45) (st' := [(2, this)]) (lo' := [(0, (2, this))]) rfl ?_
          refine r_ldcS hX hP rfl (k := 5) (by decide) rfl rfl ?_
          refine r_callV gd hX hP rfl cv_X6_98_131 hS (d' := 4) (mc' := 0) (ms' := 0) (as' := [(2, (sK E 5))]) (st := []) (by first | decide | omega) (by first | decide | omega) (by first | decide | omega) rfl rfl (Nat.le_of_ble_eq_true rfl) (c_X6_isR E S G this 5 hS (by decide) tx tx_e tx_s atp1 atp1e stp3 stp3e TT nn sr f19) ?_
          rintro _ _ _ ⟨rfl, rfl, z21, rfl, z21a, z21b, f22, f23⟩
          refine r_if_eq hX hP rfl (tgt := 55) rfl (by first | decide | omega) (by first | decide | omega) (fun c24 => ?_) (fun c24 => ?_)
          · skip
            refine r_ex hX hP 1 (pc' := 56) (st' := [(2, this)]) (lo' := [(0, (2, this))]) rfl ?_
            refine r_ldcS hX hP rfl (k := 6) (by decide) rfl rfl ?_
            refine r_callV gd hX hP rfl cv_X6_98_131 hS (d' := 4) (mc' := 0) (ms' := 0) (as' := [(2, (sK E 6))]) (st := []) (by first | decide | omega) (by first | decide | omega) (by first | decide | omega) rfl rfl (Nat.le_of_ble_eq_true rfl) (c_X6_isR E S G this 6 hS (by decide) tx tx_e tx_s atp1 atp1e stp3 stp3e TT nn sr f23) ?_
            rintro _ _ _ ⟨rfl, rfl, z25, rfl, z25a, z25b, f26, f27⟩
            refine r_if_eq hX hP rfl (tgt := 66) rfl (by first | decide | omega) (by first | decide | omega) (fun c28 => ?_) (fun c28 => ?_)
            · skip
              refine r_ex hX hP 1 (pc' := 67) (st' := [(2, this)]) (lo' := [(0, (2, this))]) rfl ?_
              refine r_ldcS hX hP rfl (k := 7) (by decide) rfl rfl ?_
              refine r_callV gd hX hP rfl cv_X6_98_131 hS (d' := 4) (mc' := 0) (ms' := 0) (as' := [(2, (sK E 7))]) (st := []) (by first | decide | omega) (by first | decide | omega) (by first | decide | omega) rfl rfl (Nat.le_of_ble_eq_true rfl) (c_X6_isR E S G this 7 hS (by decide) tx tx_e tx_s atp1 atp1e stp3 stp3e TT nn sr f27) ?_
              rintro _ _ _ ⟨rfl, rfl, z29, rfl, z29a, z29b, f30, f31⟩
              refine r_if_eq hX hP rfl (tgt := 78) rfl (by first | decide | omega) (by first | decide | omega) (fun c32 => ?_) (fun c32 => ?_)
              · skip
                refine r_ex hX hP 1 (pc' := 79) (st' := [(2, this)]) (lo' := [(0, (2, this))]) rfl ?_
                refine r_ldcS hX hP rfl (k := 8) (by decide) rfl rfl ?_
                refine r_callV gd hX hP rfl cv_X6_98_131 hS (d' := 4) (mc' := 0) (ms' := 0) (as' := [(2, (sK E 8))]) (st := []) (by first | decide | omega) (by first | decide | omega) (by first | decide | omega) rfl rfl (Nat.le_of_ble_eq_true rfl) (c_X6_isR E S G this 8 hS (by decide) tx tx_e tx_s atp1 atp1e stp3 stp3e TT nn sr f31) ?_
                rintro _ _ _ ⟨rfl, rfl, z33, rfl, z33a, z33b, f34, f35⟩
                refine r_if_eq hX hP rfl (tgt := 90) rfl (by first | decide | omega) (by first | decide | omega) (fun c36 => ?_) (fun c36 => ?_)
                · skip
                  refine r_ex hX hP 1 (pc' := 91) (st' := [(2, this)]) (lo' := [(0, (2, this))]) rfl ?_
                  refine r_ldcS hX hP rfl (k := 9) (by decide) rfl rfl ?_
                  refine r_callV gd hX hP rfl cv_X6_98_131 hS (d' := 4) (mc' := 0) (ms' := 0) (as' := [(2, (sK E 9))]) (st := []) (by first | decide | omega) (by first | decide | omega) (by first | decide | omega) rfl rfl (Nat.le_of_ble_eq_true rfl) (c_X6_isR E S G this 9 hS (by decide) tx tx_e tx_s atp1 atp1e stp3 stp3e TT nn sr f35) ?_
                  rintro _ _ _ ⟨rfl, rfl, z37, rfl, z37a, z37b, f38, f39⟩
                  refine r_if_eq hX hP rfl (tgt := 102) rfl (by first | decide | omega) (by first | decide | omega) (fun c40 => ?_) (fun c40 => ?_)
                  · skip
                    refine r_ex hX hP 1 (pc' := 103) (st' := [(2, this)]) (lo' := [(0, (2, this))]) rfl ?_
                    refine r_ldcS hX hP rfl (k := 10) (by decide) rfl rfl ?_
                    refine r_callV gd hX hP rfl cv_X6_98_131 hS (d' := 4) (mc' := 0) (ms' := 0) (as' := [(2, (sK E 10))]) (st := []) (by first | decide | omega) (by first | decide | omega) (by first | decide | omega) rfl rfl (Nat.le_of_ble_eq_true rfl) (c_X6_isR E S G this 10 hS (by decide) tx tx_e tx_s atp1 atp1e stp3 stp3e TT nn sr f39) ?_
                    rintro _ _ _ ⟨rfl, rfl, z41, rfl, z41a, z41b, f42, f43⟩
                    refine r_if_eq hX hP rfl (tgt := 116) rfl (by first | decide | omega) (by first | decide | omega) (fun c44 => ?_) (fun c44 => ?_)
                    · skip
                      refine r_ex hX hP 1 (pc' := 117) (st' := [(0, (-1))]) (lo' := [(0, (2, this))]) rfl ?_
                      have hZ45 : (-1) = pCw TT nn (sr 0) := by unfold pCw; (repeat (first | rw [if_pos (by first | decide | omega)] | rw [if_neg (by first | decide | omega)]))
                      exact r_retI hX hP rfl rfl (by first | decide | omega) (by first | decide | omega) ⟨rfl, rfl, (-1), rfl, (by first | decide | omega), (by first | decide | omega), (by first | decide | omega), f43⟩
                    · skip
                      refine r_ex hX hP 2 (pc' := 117) (st' := [(0, 9)]) (lo' := [(0, (2, this))]) rfl ?_
                      have hZ46 : 9 = pCw TT nn (sr 0) := by unfold pCw; (repeat (first | rw [if_pos (by first | decide | omega)] | rw [if_neg (by first | decide | omega)]))
                      exact r_retI hX hP rfl rfl (by first | decide | omega) (by first | decide | omega) ⟨rfl, rfl, 9, rfl, (by first | decide | omega), (by first | decide | omega), (by first | decide | omega), f43⟩
                  · skip
                    refine r_ex hX hP 1 (pc' := 101) (st' := [(0, 8)]) (lo' := [(0, (2, this))]) rfl ?_
                    have hZ47 : 8 = pCw TT nn (sr 0) := by unfold pCw; (repeat (first | rw [if_pos (by first | decide | omega)] | rw [if_neg (by first | decide | omega)]))
                    exact r_retI hX hP rfl rfl (by first | decide | omega) (by first | decide | omega) ⟨rfl, rfl, 8, rfl, (by first | decide | omega), (by first | decide | omega), (by first | decide | omega), f39⟩
                · skip
                  refine r_ex hX hP 1 (pc' := 89) (st' := [(0, 7)]) (lo' := [(0, (2, this))]) rfl ?_
                  have hZ48 : 7 = pCw TT nn (sr 0) := by unfold pCw; (repeat (first | rw [if_pos (by first | decide | omega)] | rw [if_neg (by first | decide | omega)]))
                  exact r_retI hX hP rfl rfl (by first | decide | omega) (by first | decide | omega) ⟨rfl, rfl, 7, rfl, (by first | decide | omega), (by first | decide | omega), (by first | decide | omega), f35⟩
              · skip
                refine r_ex hX hP 1 (pc' := 77) (st' := [(0, 6)]) (lo' := [(0, (2, this))]) rfl ?_
                have hZ49 : 6 = pCw TT nn (sr 0) := by unfold pCw; (repeat (first | rw [if_pos (by first | decide | omega)] | rw [if_neg (by first | decide | omega)]))
                exact r_retI hX hP rfl rfl (by first | decide | omega) (by first | decide | omega) ⟨rfl, rfl, 6, rfl, (by first | decide | omega), (by first | decide | omega), (by first | decide | omega), f31⟩
            · skip
              refine r_ex hX hP 1 (pc' := 65) (st' := [(0, 5)]) (lo' := [(0, (2, this))]) rfl ?_
              have hZ50 : 5 = pCw TT nn (sr 0) := by unfold pCw; (repeat (first | rw [if_pos (by first | decide | omega)] | rw [if_neg (by first | decide | omega)]))
              exact r_retI hX hP rfl rfl (by first | decide | omega) (by first | decide | omega) ⟨rfl, rfl, 5, rfl, (by first | decide | omega), (by first | decide | omega), (by first | decide | omega), f27⟩
          · skip
            refine r_ex hX hP 1 (pc' := 54) (st' := [(0, 4)]) (lo' := [(0, (2, this))]) rfl ?_
            have hZ51 : 4 = pCw TT nn (sr 0) := by unfold pCw; (repeat (first | rw [if_pos (by first | decide | omega)] | rw [if_neg (by first | decide | omega)]))
            exact r_retI hX hP rfl rfl (by first | decide | omega) (by first | decide | omega) ⟨rfl, rfl, 4, rfl, (by first | decide | omega), (by first | decide | omega), (by first | decide | omega), f23⟩
        · skip
          refine r_ex hX hP 1 (pc' := 43) (st' := [(0, 3)]) (lo' := [(0, (2, this))]) rfl ?_
          have hZ52 : 3 = pCw TT nn (sr 0) := by unfold pCw; (repeat (first | rw [if_pos (by first | decide | omega)] | rw [if_neg (by first | decide | omega)]))
          exact r_retI hX hP rfl rfl (by first | decide | omega) (by first | decide | omega) ⟨rfl, rfl, 3, rfl, (by first | decide | omega), (by first | decide | omega), (by first | decide | omega), f19⟩
      · skip
        refine r_ex hX hP 1 (pc' := 32) (st' := [(0, 2)]) (lo' := [(0, (2, this))]) rfl ?_
        have hZ53 : 2 = pCw TT nn (sr 0) := by unfold pCw; (repeat (first | rw [if_pos (by first | decide | omega)] | rw [if_neg (by first | decide | omega)]))
        exact r_retI hX hP rfl rfl (by first | decide | omega) (by first | decide | omega) ⟨rfl, rfl, 2, rfl, (by first | decide | omega), (by first | decide | omega), (by first | decide | omega), f15⟩
    · skip
      refine r_ex hX hP 1 (pc' := 21) (st' := [(0, 1)]) (lo' := [(0, (2, this))]) rfl ?_
      have hZ54 : 1 = pCw TT nn (sr 0) := by unfold pCw; (repeat (first | rw [if_pos (by first | decide | omega)] | rw [if_neg (by first | decide | omega)]))
      exact r_retI hX hP rfl rfl (by first | decide | omega) (by first | decide | omega) ⟨rfl, rfl, 1, rfl, (by first | decide | omega), (by first | decide | omega), (by first | decide | omega), f11⟩
  · skip
    refine r_ex hX hP 1 (pc' := 10) (st' := [(0, 0)]) (lo' := [(0, (2, this))]) rfl ?_
    have hZ55 : 0 = pCw TT nn (sr 0) := by unfold pCw; (repeat (first | rw [if_pos (by first | decide | omega)] | rw [if_neg (by first | decide | omega)]))
    exact r_retI hX hP rfl rfl (by first | decide | omega) (by first | decide | omega) ⟨rfl, rfl, 0, rfl, (by first | decide | omega), (by first | decide | omega), (by first | decide | omega), f7⟩
