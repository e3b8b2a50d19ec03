set_option maxRecDepth 100000 in
set_option maxHeartbeats 4000000 in
theorem c_J1_charAtX (E : En) (S : Sg) (G : Gh) (value : Nat) (index : Int) (value_h : value < 20) (index_a : 0 ≤ index) (index_b : index ≤ 7) (pre0 : index + 1 ≤ ((ksL.getD value 0 : Nat) : Int)) : Calls E mJ1_charAt_3b067 [(2, (sV E value)), (0, index)] S G 2 0 0 (fun r S' G' => S = S' ∧ G = G' ∧ ∃ z : Int, r = some (0, z) ∧ 0 ≤ z ∧ z ≤ 255 ∧ z = wC value index) := by
  refine calls_by [(0, (2, (sV E value))), (1, (0, index))] rfl rfl (Nat.le_of_ble_eq_true rfl) (fun X hX => ?_)
  have hP := hPJ1_charAt_3b067
  have value_l := ksl8 value value_h
  refine r_ex hX hP 2 (pc' := 2) (st' := [(2, (sV E value)), (0, index)]) (lo' := [(0, (2, (sV E value))), (1, (0, index))]) rfl ?_
  refine r_salen hX hP rfl value_h ?_
  refine r_callS gd hX hP rfl cs_J1_9 (d' := 1) (mc' := 0) (ms' := 0) (as' := [(0, index), (0, ((ksL.getD value 0 : Nat) : Int))]) (st := []) (by first | decide | omega) (by first | decide | omega) (by first | decide | omega) rfl rfl (Nat.le_of_ble_eq_true rfl) (c_J0_checkIndex_df160 E S G index ((ksL.getD value 0 : Nat) : Int) (by first | decide | omega) (by first | decide | omega) (by first | decide | omega) (by first | decide | omega) (by first | decide | omega)) ?_
  rintro _ _ _ ⟨rfl, rfl, rfl, -⟩
  refine r_ex hX hP 2 (pc' := 8) (st' := [(0, index), (2, (sV E value))]) (lo' := [(0, (2, (sV E value))), (1, (0, index))]) rfl ?_
  refine r_sbaldE hX hP rfl value_h (by first | decide | omega) (by first | decide | omega) (fun x1 x1e x1a x1b => ?_)
  refine r_ex hX hP 1 (pc' := 12) (st' := [(0, 255), (0, x1)]) (lo' := [(0, (2, (sV E value))), (1, (0, index))]) rfl ?_
  refine r_iand hX hP rfl (fun b2 b2a b2b b2e => ?_)
  have b2d := iand_bd b2a b2b b2e (by first | decide | omega) (by first | decide | omega)
  have b2x := iand255 b2a b2b b2e
  refine r_i2c hX hP rfl (by first | decide | omega) (by first | decide | omega) ?_
  exact r_retC hX hP rfl rfl (by first | decide | omega) (by first | decide | omega) (by first | decide | omega) (by first | decide | omega) ⟨rfl, rfl, b2, rfl, (by first | decide | omega), (by first | decide | omega), (by first | decide | omega)⟩
set_option maxRecDepth 100000 in
set_option maxHeartbeats 4000000 in
theorem c_J0_charAtX (E : En) (S : Sg) (G : Gh) (this : Nat) (index : Int) (this_h : this < 20) (index_a : 0 ≤ index) (index_b : index ≤ 7) (pre0 : index + 1 ≤ ((ksL.getD this 0 : Nat) : Int)) : Calls E mJ0_charAt_5068e [(2, (sK E this)), (0, index)] S G 3 0 0 (fun r S' G' => S = S' ∧ G = G' ∧ ∃ z : Int, r = some (0, z) ∧ 0 ≤ z ∧ z ≤ 255 ∧ z = wC this index) := by
  refine calls_by [(0, (2, (sK E this))), (1, (0, index))] rfl rfl (Nat.le_of_ble_eq_true rfl) (fun X hX => ?_)
  have hP := hPJ0_charAt_5068e
  have this_l := ksl8 this this_h
  refine r_ex hX hP 1 (pc' := 1) (st' := [(2, (sK E this))]) (lo' := [(0, (2, (sK E this))), (1, (0, index))]) rfl ?_
  refine r_callT gd hX hP rfl ct_J0_492 this_h (d' := 0) (mc' := 0) (ms' := 0) (as' := []) (st := []) (by first | decide | omega) (by first | decide | omega) (by first | decide | omega) rfl rfl (Nat.le_of_ble_eq_true rfl) (c_J0_isLatin1_aae02 E S G this  this_h) ?_
  rintro _ _ _ ⟨rfl, rfl, z1, rfl, rfl⟩
  refine r_if_eq hX hP rfl (tgt := 16) rfl (by first | decide | omega) (by first | decide | omega) (fun c2 => ?_) (fun c2 => ?_)
  · skip
    exfalso; omega
  · skip
    refine r_ex hX hP 1 (pc' := 8) (st' := [(2, (sK E this))]) (lo' := [(0, (2, (sK E this))), (1, (0, index))]) rfl ?_
    refine r_sget hX hP rfl this_h (tbg sg11 57 rfl rfl) ?_
    refine r_ex hX hP 1 (pc' := 12) (st' := [(0, index), (2, (sV E this))]) (lo' := [(0, (2, (sK E this))), (1, (0, index))]) rfl ?_
    refine r_callS gd hX hP rfl cs_J0_495 (d' := 2) (mc' := 0) (ms' := 0) (as' := [(2, (sV E this)), (0, index)]) (st := []) (by first | decide | omega) (by first | decide | omega) (by first | decide | omega) rfl rfl (Nat.le_of_ble_eq_true rfl) (c_J1_charAtX E S G this index this_h (by first | decide | omega) (by first | decide | omega) (by first | decide | omega)) ?_
    rintro _ _ _ ⟨rfl, rfl, z3, rfl, z3a, z3b, f4⟩
    exact r_retC hX hP rfl rfl (by first | decide | omega) (by first | decide | omega) (by first | decide | omega) (by first | decide | omega) ⟨rfl, rfl, z3, rfl, (by first | decide | omega), (by first | decide | omega), (by first | decide | omega)⟩
set_option maxRecDepth 100000 in
set_option maxHeartbeats 4000000 in
theorem c_X6_isLetterR (E : En) (S : Sg) (G : Gh) (this : Int) (i : Int) (hS : S this = 131) (tpa : Int) (tpa_e : tpa = G 131 this 3) (tpa_s : S tpa = 105) (i_a : 0 ≤ i) (i_b : i ≤ 399) (TT : Tp) (tpT : ∀ i : Int, G 105 tpa i = TT i) : Calls E mX6_isLetter [(2, this), (0, i)] S G 0 0 0 (fun r S' G' => S = S' ∧ G = G' ∧ ∃ z : Int, r = some (0, z) ∧ ((z = 1 ∧ 97 ≤ TT i ∧ TT i ≤ 122) ∨ (z = 0 ∧ (TT i < 97 ∨ 122 < TT i)))) := by
  refine calls_by [(0, (2, this)), (1, (0, i))] rfl rfl (Nat.le_of_ble_eq_true rfl) (fun X hX => ?_)
  have hP := hPX6_isLetter
  refine r_ex hX hP 1 (pc' := 1) (st' := [(2, this)]) (lo' := [(0, (2, this)), (1, (0, i))]) rfl ?_
  refine r_getKR hX hP rfl fl_X6_18_131 hS (x := tpa) tpa_e ?_
  refine r_ex hX hP 1 (pc' := 5) (st' := [(0, i), (2, tpa)]) (lo' := [(0, (2, this)), (1, (0, i))]) rfl ?_
  refine r_iald hX hP rfl al_105 tpa_s (by first | decide | omega) (by first | decide | omega) (fun x1 x1e x1a x1b => ?_)
  have k2 := x1e.trans (tpT i)
  refine r_ex hX hP 1 (pc' := 8) (st' := [(0, 97), (0, x1)]) (lo' := [(0, (2, this)), (1, (0, i))]) rfl ?_
  refine r_ic_lt hX hP rfl (tgt := 26) rfl (by first | decide | omega) (by first | decide | omega) (by first | decide | omega) (by first | decide | omega) (fun c3 => ?_) (fun c3 => ?_)
  · skip
    refine r_ex hX hP 1 (pc' := 27) (st' := [(0, 0)]) (lo' := [(0, (2, this)), (1, (0, i))]) rfl ?_
    exact r_retZ hX hP rfl rfl (by first | decide | omega) (by first | decide | omega) (by first | decide | omega) (by first | decide | omega) ⟨rfl, rfl, 0, rfl, (by first | decide | omega)⟩
  · skip
    refine r_ex hX hP 1 (pc' := 12) (st' := [(2, this)]) (lo' := [(0, (2, this)), (1, (0, i))]) rfl ?_
    refine r_getKR hX hP rfl fl_X6_18_131 hS (x := tpa) tpa_e ?_
    refine r_ex hX hP 1 (pc' := 16) (st' := [(0, i), (2, tpa)]) (lo' := [(0, (2, this)), (1, (0, i))]) rfl ?_
    refine r_ialdK hX hP rfl al_105 tpa_s (by first | decide | omega) (by first | decide | omega) (x := x1) x1e ?_
    refine r_ex hX hP 1 (pc' := 19) (st' := [(0, 122), (0, x1)]) (lo' := [(0, (2, this)), (1, (0, i))]) rfl ?_
    refine r_ic_gt hX hP rfl (tgt := 26) rfl (by first | decide | omega) (by first | decide | omega) (by first | decide | omega) (by first | decide | omega) (fun c4 => ?_) (fun c4 => ?_)
    · skip
      refine r_ex hX hP 1 (pc' := 27) (st' := [(0, 0)]) (lo' := [(0, (2, this)), (1, (0, i))]) rfl ?_
      exact r_retZ hX hP rfl rfl (by first | decide | omega) (by first | decide | omega) (by first | decide | omega) (by first | decide | omega) ⟨rfl, rfl, 0, rfl, (by first | decide | omega)⟩
    · skip
      refine r_ex hX hP 2 (pc' := 27) (st' := [(0, 1)]) (lo' := [(0, (2, this)), (1, (0, i))]) rfl ?_
      exact r_retZ hX hP rfl rfl (by first | decide | omega) (by first | decide | omega) (by first | decide | omega) (by first | decide | omega) ⟨rfl, rfl, 1, rfl, (by first | decide | omega)⟩
set_option maxRecDepth 100000 in
set_option maxHeartbeats 4000000 in
theorem c_X6_isDigitR (E : En) (S : Sg) (G : Gh) (this : Int) (i : Int) (hS : S this = 131) (tpa : Int) (tpa_e : tpa = G 131 this 3) (tpa_s : S tpa = 105) (i_a : 0 ≤ i) (i_b : i ≤ 399) (TT : Tp) (tpT : ∀ i : Int, G 105 tpa i = TT i) : Calls E mX6_isDigit [(2, this), (0, i)] S G 0 0 0 (fun r S' G' => S = S' ∧ G = G' ∧ ∃ z : Int, r = some (0, z) ∧ ((z = 1 ∧ 48 ≤ TT i ∧ TT i ≤ 57) ∨ (z = 0 ∧ (TT i < 48 ∨ 57 < TT i)))) := by
  refine calls_by [(0, (2, this)), (1, (0, i))] rfl rfl (Nat.le_of_ble_eq_true rfl) (fun X hX => ?_)
  have hP := hPX6_isDigit
  refine r_ex hX hP 1 (pc' := 1) (st' := [(2, this)]) (lo' := [(0, (2, this)), (1, (0, i))]) rfl ?_
  refine r_getKR hX hP rfl fl_X6_18_131 hS (x := tpa) tpa_e ?_
  refine r_ex hX hP 1 (pc' := 5) (st' := [(0, i), (2, tpa)]) (lo' := [(0, (2, this)), (1, (0, i))]) rfl ?_
  refine r_iald hX hP rfl al_105 tpa_s (by first | decide | omega) (by first | decide | omega) (fun x1 x1e x1a x1b => ?_)
  have k2 := x1e.trans (tpT i)
  refine r_ex hX hP 1 (pc' := 8) (st' := [(0, 48), (0, x1)]) (lo' := [(0, (2, this)), (1, (0, i))]) rfl ?_
  refine r_ic_lt hX hP rfl (tgt := 26) rfl (by first | decide | omega) (by first | decide | omega) (by first | decide | omega) (by first | decide | omega) (fun c3 => ?_) (fun c3 => ?_)
  · skip
    refine r_ex hX hP 1 (pc' := 27) (st' := [(0, 0)]) (lo' := [(0, (2, this)), (1, (0, i))]) rfl ?_
    exact r_retZ hX hP rfl rfl (by first | decide | omega) (by first | decide | omega) (by first | decide | omega) (by first | decide | omega) ⟨rfl, rfl, 0, rfl, (by first | decide | omega)⟩
  · skip
    refine r_ex hX hP 1 (pc' := 12) (st' := [(2, this)]) (lo' := [(0, (2, this)), (1, (0, i))]) rfl ?_
    refine r_getKR hX hP rfl fl_X6_18_131 hS (x := tpa) tpa_e ?_
    refine r_ex hX hP 1 (pc' := 16) (st' := [(0, i), (2, tpa)]) (lo' := [(0, (2, this)), (1, (0, i))]) rfl ?_
    refine r_ialdK hX hP rfl al_105 tpa_s (by first | decide | omega) (by first | decide | omega) (x := x1) x1e ?_
    refine r_ex hX hP 1 (pc' := 19) (st' := [(0, 57), (0, x1)]) (lo' := [(0, (2, this)), (1, (0, i))]) rfl ?_
    refine r_ic_gt hX hP rfl (tgt := 26) rfl (by first | decide | omega) (by first | decide | omega) (by first | decide | omega) (by first | decide | omega) (fun c4 => ?_) (fun c4 => ?_)
    · skip
      refine r_ex hX hP 1 (pc' := 27) (st' := [(0, 0)]) (lo' := [(0, (2, this)), (1, (0, i))]) rfl ?_
      exact r_retZ hX hP rfl rfl (by first | decide | omega) (by first | decide | omega) (by first | decide | omega) (by first | decide | omega) ⟨rfl, rfl, 0, rfl, (by first | decide | omega)⟩
    · skip
      refine r_ex hX hP 2 (pc' := 27) (st' := [(0, 1)]) (lo' := [(0, (2, this)), (1, (0, i))]) rfl ?_
      exact r_retZ hX hP rfl rfl (by first | decide | omega) (by first | decide | omega) (by first | decide | omega) (by first | decide | omega) ⟨rfl, rfl, 1, rfl, (by first | decide | omega)⟩
set_option maxRecDepth 100000 in
set_option maxHeartbeats 4000000 in
theorem c_X6_advance0 (E : En) (S : Sg) (G : Gh) (this : Int) (hS : S this = 131) (tx : Int) (tx_e : tx = G 131 this 9) (tx_s : S tx = 136) (TT : Tp) (nn a0 : Int) (sr : Rg) (rd : RdC0 TT nn a0 sr G this tx) : Calls E mX6_advance [(2, this)] S G 1 0 0 (fun r S' G' => S = S' ∧ (∃ G1, hw [(131, 5), (131, 6), (131, 7), (131, 8)] G G1 = G') ∧ r = none ∧ RdC TT nn (ud sr 0 a0) G' this tx) := by
  refine calls_by [(0, (2, this))] rfl rfl (Nat.le_of_ble_eq_true rfl) (fun X hX => ?_)
  have hP := hPX6_advance
  have k1 := rz_n4 rd
  have k2 := rz_y0 rd
  have k3 := rz_y1 rd
  have x52 : ∀ (at_x52 : Int) (Gx52 : Gh), at_x52 = (hw [(131, 5)] G Gx52) 131 this 5 → 0 ≤ at_x52 → at_x52 ≤ 400 → scn cB TT nn a0 = at_x52 → at_x52 ≤ nn → X 0 0 52 [] [(0, (2, this))] S (hw [(131, 5)] G Gx52) := by
    intro at_x52 Gx52 at_x52_e yx52_0 yx52_1 yx52_2 yx52_3
    refine r_ex hX hP 2 (pc' := 54) (st' := [(2, this), (2, this)]) (lo' := [(0, (2, this))]) rfl ?_
    refine r_getKI hX hP rfl fl_X6_67_131 hS (x := at_x52) at_x52_e ?_
    refine r_putIK hX hP rfl fp_X6_83_131 hS (by first | decide | omega) (by first | decide | omega) (fun h4 => ?_)
    refine r_ex hX hP 1 (pc' := 61) (st' := [(2, this)]) (lo' := [(0, (2, this))]) rfl ?_
    refine r_getKI hX hP rfl fl_X6_67_131 hS (x := at_x52) at_x52_e ?_
    refine r_ex hX hP 1 (pc' := 65) (st' := [(2, this), (0, at_x52)]) (lo' := [(0, (2, this))]) rfl ?_
    refine r_getI hX hP rfl fl_X6_64_131 hS (fun ef5 ef5e ef5a ef5b => ?_)
    have k6 := rz_end rd
    have k6 := ef5e.trans k6
    refine r_ic_lt hX hP rfl (tgt := 79) rfl (by first | decide | omega) (by first | decide | omega) (by first | decide | omega) (by first | decide | omega) (fun c7 => ?_) (fun c7 => ?_)
    · skip
      refine r_ex hX hP 2 (pc' := 81) (st' := [(2, this), (2, this)]) (lo' := [(0, (2, this))]) rfl ?_
      refine r_getKI hX hP rfl fl_X6_67_131 hS (x := at_x52) at_x52_e ?_
      refine r_peekR hX (tl_131 3 rfl (by decide)) hS (fun tap8 tap8e tap8s => ?_)
      refine r_callV gd hX hP rfl cv_X6_86_131 hS (d' := 0) (mc' := 0) (ms' := 0) (as' := [(0, at_x52)]) (st := []) (by first | decide | omega) (by first | decide | omega) (by first | decide | omega) rfl rfl (Nat.le_of_ble_eq_true rfl) (c_X6_isLetterR E S (up (hw [(131, 5)] G Gx52) 131 this 7 at_x52) this at_x52 hS tap8 tap8e tap8s (by first | decide | omega) (by first | decide | omega) TT (rz_tpa rd tap8e : _)) ?_
      rintro _ _ _ ⟨rfl, rfl, z9, rfl, (⟨rfl, f10, f11⟩ | ⟨rfl, f12⟩)⟩
      · skip
        refine r_if_eq hX hP rfl (tgt := 130) rfl (by first | decide | omega) (by first | decide | omega) (fun c13 => ?_) (fun c13 => ?_)
        · skip
          exfalso; omega
        · skip
          refine r_ex hX hP 2 (pc' := 92) (st' := [(0, 1), (2, this)]) (lo' := [(0, (2, this))]) rfl ?_
          refine r_putIK hX hP rfl fp_X6_38_131 hS (by first | decide | omega) (by first | decide | omega) (fun h14 => ?_)
          have x301 : ∀ (at_x301 : Int) (Gx301 : Gh), at_x301 = (hw [(131, 5)] (up (up (hw [(131, 5)] G Gx52) 131 this 7 at_x52) 131 this 6 1) Gx301) 131 this 5 → 0 ≤ at_x301 → at_x301 ≤ 400 → scn cL TT nn at_x52 = at_x301 → X 0 0 301 [] [(0, (2, this))] S (hw [(131, 5)] (up (up (hw [(131, 5)] G Gx52) 131 this 7 at_x52) 131 this 6 1) Gx301) := by
            intro at_x301 Gx301 at_x301_e yx301_0 yx301_1 yx301_2
            have h15S : tkS TT nn a0 = at_x52 := (show scn cB TT nn a0 = at_x52 from by omega)
            obtain ⟨h15K, h15E⟩ := tk_wd (e := at_x301) h15S (by first | decide | omega) (by first | decide | omega) (by first | decide | omega) (by first | decide | omega)
            have rd16 : RdC TT nn (ud sr 0 a0) (hw [(131, 5)] (up (up (hw [(131, 5)] G Gx52) 131 this 7 at_x52) 131 this 6 1) Gx301) this tx := rd_mk (rz_tape rd : _) (rz_end rd : _) (rz_text rd : _) (h14.symm.trans (show 1 = tkK TT nn a0 from by omega)) (h4.symm.trans h15S.symm) (at_x301_e.symm.trans (show at_x301 = tkE TT nn a0 from by omega)) (fun hv => by have hv : tkK TT nn a0 = 2 := hv; exfalso; omega) (rz_flaw rd : _) (rz_place rd : _) (rz_told rd : _) (rz_cc rd : _) (rz_fb rd : _) (rz_ti rd : _) (rz_to rd : _) (rz_dp rd : _) (rz_size rd : _) (rz_o0 rd : _) (rz_o1 rd : _) (rz_o2 rd : _) (rz_a0 rd : _) (rz_a1 rd : _) (rz_a2 rd : _) (rz_b0 rd : _) (rz_b1 rd : _) (rz_b2 rd : _) (rz_m0 rd : _) (rz_m1 rd : _) (rz_m2 rd : _) (rz_ne1 rd : _) (rz_ne2 rd : _) (show 0 ≤ a0 from by omega) (show a0 ≤ nn from by omega) (rz_n4 rd : _)
            exact r_retV hX hP rfl rfl (by first | decide | omega) (by first | decide | omega) ⟨rfl, ⟨_, (hw_sub (hw_up (hw_up (hw_sub (hw_refl _ _) rfl) rfl) rfl) rfl).symm⟩, rfl, rd16⟩
          have loop95 : ∀ (nF : Nat) (at_h95 : Int) (Gh95 : Gh), at_h95 = (hw [(131, 5)] (up (up (hw [(131, 5)] G Gx52) 131 this 7 at_x52) 131 this 6 1) Gh95) 131 this 5 → 0 ≤ at_h95 → at_h95 ≤ 400 → scn cL TT nn at_h95 = scn cL TT nn at_x52 → at_h95 ≤ nn → at_x52 ≤ at_h95 → 400 - at_h95 < (nF : Int) → X 0 0 95 [] [(0, (2, this))] S (hw [(131, 5)] (up (up (hw [(131, 5)] G Gx52) 131 this 7 at_x52) 131 this 6 1) Gh95) := by
            intro nF
            induction nF with
            | zero => intro at_h95 Gh95 at_h95_e yh95_0 yh95_1 yh95_2 yh95_3 yh95_4 ym95; exfalso; omega
            | succ nF ih95 =>
              intro at_h95 Gh95 at_h95_e yh95_0 yh95_1 yh95_2 yh95_3 yh95_4 ym95
              have k17 := scn_orL (T := TT) (n := nn) (p := at_h95)
              refine r_ex hX hP 1 (pc' := 96) (st' := [(2, this)]) (lo' := [(0, (2, this))]) rfl ?_
              refine r_getKI hX hP rfl fl_X6_67_131 hS (x := at_h95) at_h95_e ?_
              refine r_ex hX hP 1 (pc' := 100) (st' := [(2, this), (0, at_h95)]) (lo' := [(0, (2, this))]) rfl ?_
              refine r_getKI hX hP rfl fl_X6_64_131 hS (x := ef5) ef5e ?_
              refine r_ic_ge hX hP rfl (tgt := 301) rfl (by first | decide | omega) (by first | decide | omega) (by first | decide | omega) (by first | decide | omega) (fun c18 => ?_) (fun c18 => ?_)
              · skip
                refine r_eqG (X := X) (hw_sub (hw_refl [(131, 5)] _) rfl) ?_
                exact x301 at_h95 _ at_h95_e (by first | decide | omega) (by first | decide | omega) (by first | decide | omega)
              · skip
                refine r_ex hX hP 2 (pc' := 108) (st' := [(2, this), (2, this)]) (lo' := [(0, (2, this))]) rfl ?_
                refine r_getKI hX hP rfl fl_X6_67_131 hS (x := at_h95) at_h95_e ?_
                refine r_callV gd hX hP rfl cv_X6_86_131 hS (d' := 0) (mc' := 0) (ms' := 0) (as' := [(0, at_h95)]) (st := []) (by first | decide | omega) (by first | decide | omega) (by first | decide | omega) rfl rfl (Nat.le_of_ble_eq_true rfl) (c_X6_isLetterR E S (hw [(131, 5)] (up (up (hw [(131, 5)] G Gx52) 131 this 7 at_x52) 131 this 6 1) Gh95) this at_h95 hS tap8 tap8e tap8s (by first | decide | omega) (by first | decide | omega) TT (rz_tpa rd tap8e : _)) ?_
                rintro _ _ _ ⟨rfl, rfl, z19, rfl, (⟨rfl, f20, f21⟩ | ⟨rfl, f22⟩)⟩
                · skip
                  refine r_if_eq hX hP rfl (tgt := 301) rfl (by first | decide | omega) (by first | decide | omega) (fun c23 => ?_) (fun c23 => ?_)
                  · skip
                    exfalso; omega
                  · skip
                    refine r_ex hX hP 2 (pc' := 119) (st' := [(2, this), (2, this)]) (lo' := [(0, (2, this))]) rfl ?_
                    refine r_getKI hX hP rfl fl_X6_67_131 hS (x := at_h95) at_h95_e ?_
                    refine r_ex hX hP 2 (pc' := 124) (st' := [(0, (at_h95 + 1)), (2, this)]) (lo' := [(0, (2, this))]) rfl ?_
                    refine r_putIK hX hP rfl fp_X6_67_131 hS (by first | decide | omega) (by first | decide | omega) (fun h24 => ?_)
                    refine r_ex hX hP 1 (pc' := 95) (st' := []) (lo' := [(0, (2, this))]) rfl ?_
                    refine r_eqG (X := X) (hw_up (hw_base _ _ _) rfl) ?_
                    exact ih95 (at_h95 + 1) _ h24 (by first | decide | omega) (by first | decide | omega) (by first | decide | omega) (by first | decide | omega) (by first | decide | omega) (by first | decide | omega)
                · skip
                  refine r_if_eq hX hP rfl (tgt := 301) rfl (by first | decide | omega) (by first | decide | omega) (fun c25 => ?_) (fun c25 => ?_)
                  · skip
                    refine r_eqG (X := X) (hw_sub (hw_refl [(131, 5)] _) rfl) ?_
                    exact x301 at_h95 _ at_h95_e (by first | decide | omega) (by first | decide | omega) (by first | decide | omega)
                  · skip
                    exfalso; omega
          refine r_eqG (X := X) (hw_refl [(131, 5)] _) ?_
          exact loop95 ((400 - at_x52) + 1 : Int).toNat at_x52 _ at_x52_e (by first | decide | omega) (by first | decide | omega) (by first | decide | omega) (by first | decide | omega) (by first | decide | omega) (by first | decide | omega)
      · skip
        refine r_if_eq hX hP rfl (tgt := 130) rfl (by first | decide | omega) (by first | decide | omega) (fun c26 => ?_) (fun c26 => ?_)
        · skip
          refine r_ex hX hP 2 (pc' := 132) (st' := [(2, this), (2, this)]) (lo' := [(0, (2, this))]) rfl ?_
          refine r_getKI hX hP rfl fl_X6_67_131 hS (x := at_x52) at_x52_e ?_
          refine r_callV gd hX hP rfl cv_X6_89_131 hS (d' := 0) (mc' := 0) (ms' := 0) (as' := [(0, at_x52)]) (st := []) (by first | decide | omega) (by first | decide | omega) (by first | decide | omega) rfl rfl (Nat.le_of_ble_eq_true rfl) (c_X6_isDigitR E S (up (hw [(131, 5)] G Gx52) 131 this 7 at_x52) this at_x52 hS tap8 tap8e tap8s (by first | decide | omega) (by first | decide | omega) TT (rz_tpa rd tap8e : _)) ?_
          rintro _ _ _ ⟨rfl, rfl, z27, rfl, (⟨rfl, f28, f29⟩ | ⟨rfl, f30⟩)⟩
          · skip
            refine r_if_eq hX hP rfl (tgt := 232) rfl (by first | decide | omega) (by first | decide | omega) (fun c31 => ?_) (fun c31 => ?_)
            · skip
              exfalso; omega
            · skip
              refine r_ex hX hP 2 (pc' := 143) (st' := [(0, 2), (2, this)]) (lo' := [(0, (2, this))]) rfl ?_
              refine r_putIK hX hP rfl fp_X6_38_131 hS (by first | decide | omega) (by first | decide | omega) (fun h32 => ?_)
              have k33 := dv_zero (T := TT) (s := at_x52)
              refine r_ex hX hP 2 (pc' := 148) (st' := [(0, 0), (2, this)]) (lo' := [(0, (2, this))]) rfl ?_
              refine r_putIK hX hP rfl fp_X6_92_131 hS (by first | decide | omega) (by first | decide | omega) (fun h34 => ?_)
              have x301 : ∀ (at_x301 value_x301 token_x301 : Int) (Gx301 : Gh), at_x301 = (hw [(131, 5), (131, 6), (131, 8)] (up (up (up (hw [(131, 5)] G Gx52) 131 this 7 at_x52) 131 this 6 2) 131 this 8 0) Gx301) 131 this 5 → value_x301 = (hw [(131, 5), (131, 6), (131, 8)] (up (up (up (hw [(131, 5)] G Gx52) 131 this 7 at_x52) 131 this 6 2) 131 this 8 0) Gx301) 131 this 8 → token_x301 = (hw [(131, 5), (131, 6), (131, 8)] (up (up (up (hw [(131, 5)] G Gx52) 131 this 7 at_x52) 131 this 6 2) 131 this 8 0) Gx301) 131 this 6 → 0 ≤ at_x301 → at_x301 ≤ 400 → 0 ≤ value_x301 → value_x301 ≤ 9999999 → (-2147483648) ≤ token_x301 → token_x301 ≤ 2147483647 → scn cD TT nn at_x52 = at_x301 → value_x301 = dgv TT at_x52 at_x301 → (((at_x301) - (at_x52) ≤ 7 ∧ token_x301 = 2) ∨ (7 < (at_x301) - (at_x52) ∧ token_x301 = 3)) → X 0 0 301 [] [(0, (2, this))] S (hw [(131, 5), (131, 6), (131, 8)] (up (up (up (hw [(131, 5)] G Gx52) 131 this 7 at_x52) 131 this 6 2) 131 this 8 0) Gx301) := by
                intro at_x301 value_x301 token_x301 Gx301 at_x301_e value_x301_e token_x301_e yx301_0 yx301_1 yx301_2 yx301_3 yx301_4 yx301_5 yx301_6 yx301_7 yx301_8
                have h35S : tkS TT nn a0 = at_x52 := (show scn cB TT nn a0 = at_x52 from by omega)
                obtain ⟨h35K, h35E, h35V⟩ := tk_nm (e := at_x301) h35S (by first | decide | omega) (by first | decide | omega) (by first | decide | omega) (by first | decide | omega)
                have rd36 : RdC TT nn (ud sr 0 a0) (hw [(131, 5), (131, 6), (131, 8)] (up (up (up (hw [(131, 5)] G Gx52) 131 this 7 at_x52) 131 this 6 2) 131 this 8 0) Gx301) this tx := rd_mk (rz_tape rd : _) (rz_end rd : _) (rz_text rd : _) (token_x301_e.symm.trans (show token_x301 = tkK TT nn a0 from by omega)) (h4.symm.trans h35S.symm) (at_x301_e.symm.trans (show at_x301 = tkE TT nn a0 from by omega)) (fun _ => value_x301_e.symm.trans (show value_x301 = tkV TT nn a0 from by omega)) (rz_flaw rd : _) (rz_place rd : _) (rz_told rd : _) (rz_cc rd : _) (rz_fb rd : _) (rz_ti rd : _) (rz_to rd : _) (rz_dp rd : _) (rz_size rd : _) (rz_o0 rd : _) (rz_o1 rd : _) (rz_o2 rd : _) (rz_a0 rd : _) (rz_a1 rd : _) (rz_a2 rd : _) (rz_b0 rd : _) (rz_b1 rd : _) (rz_b2 rd : _) (rz_m0 rd : _) (rz_m1 rd : _) (rz_m2 rd : _) (rz_ne1 rd : _) (rz_ne2 rd : _) (show 0 ≤ a0 from by omega) (show a0 ≤ nn from by omega) (rz_n4 rd : _)
                exact r_retV hX hP rfl rfl (by first | decide | omega) (by first | decide | omega) ⟨rfl, ⟨_, (hw_sub (hw_up (hw_up (hw_up (hw_sub (hw_refl _ _) rfl) rfl) rfl) rfl) rfl).symm⟩, rfl, rd36⟩
              have loop151 : ∀ (nF : Nat) (at_h151 value_h151 token_h151 : Int) (Gh151 : Gh), at_h151 = (hw [(131, 5), (131, 6), (131, 8)] (up (up (up (hw [(131, 5)] G Gx52) 131 this 7 at_x52) 131 this 6 2) 131 this 8 0) Gh151) 131 this 5 → value_h151 = (hw [(131, 5), (131, 6), (131, 8)] (up (up (up (hw [(131, 5)] G Gx52) 131 this 7 at_x52) 131 this 6 2) 131 this 8 0) Gh151) 131 this 8 → token_h151 = (hw [(131, 5), (131, 6), (131, 8)] (up (up (up (hw [(131, 5)] G Gx52) 131 this 7 at_x52) 131 this 6 2) 131 this 8 0) Gh151) 131 this 6 → 0 ≤ at_h151 → at_h151 ≤ 400 → 0 ≤ value_h151 → value_h151 ≤ 9999999 → (-2147483648) ≤ token_h151 → token_h151 ≤ 2147483647 → scn cD TT nn at_h151 = scn cD TT nn at_x52 → at_h151 ≤ nn → at_x52 ≤ at_h151 → value_h151 = dgv TT at_x52 at_h151 → (((at_h151) - (at_x52) ≤ 7 ∧ token_h151 = 2) ∨ (7 < (at_h151) - (at_x52) ∧ token_h151 = 3)) → 400 - at_h151 < (nF : Int) → X 0 0 151 [] [(0, (2, this))] S (hw [(131, 5), (131, 6), (131, 8)] (up (up (up (hw [(131, 5)] G Gx52) 131 this 7 at_x52) 131 this 6 2) 131 this 8 0) Gh151) := by
                intro nF
                induction nF with
                | zero => intro at_h151 value_h151 token_h151 Gh151 at_h151_e value_h151_e token_h151_e yh151_0 yh151_1 yh151_2 yh151_3 yh151_4 yh151_5 yh151_6 yh151_7 yh151_8 yh151_9 yh151_10 ym151; exfalso; omega
                | succ nF ih151 =>
                  intro at_h151 value_h151 token_h151 Gh151 at_h151_e value_h151_e token_h151_e yh151_0 yh151_1 yh151_2 yh151_3 yh151_4 yh151_5 yh151_6 yh151_7 yh151_8 yh151_9 yh151_10 ym151
                  have k37 := scn_orD (T := TT) (n := nn) (p := at_h151)
                  have k38 := scn_ge cD TT nn at_h151
                  have k39 := dv_bdo (T := TT) (n := nn) (s := at_x52) (e := at_h151) (by first | decide | omega) (by first | decide | omega)
                  have k40 := dv_or (T := TT) (s := at_x52) (e := at_h151) (by first | decide | omega)
                  refine r_ex hX hP 1 (pc' := 152) (st' := [(2, this)]) (lo' := [(0, (2, this))]) rfl ?_
                  refine r_getKI hX hP rfl fl_X6_67_131 hS (x := at_h151) at_h151_e ?_
                  refine r_ex hX hP 1 (pc' := 156) (st' := [(2, this), (0, at_h151)]) (lo' := [(0, (2, this))]) rfl ?_
                  refine r_getKI hX hP rfl fl_X6_64_131 hS (x := ef5) ef5e ?_
                  refine r_ic_ge hX hP rfl (tgt := 301) rfl (by first | decide | omega) (by first | decide | omega) (by first | decide | omega) (by first | decide | omega) (fun c41 => ?_) (fun c41 => ?_)
                  · skip
                    refine r_eqG (X := X) (hw_sub (hw_refl [(131, 5), (131, 6), (131, 8)] _) rfl) ?_
                    exact x301 at_h151 value_h151 token_h151 _ at_h151_e value_h151_e token_h151_e (by first | decide | omega) (by first | decide | omega) (by first | decide | omega) (by first | decide | omega) (by first | decide | omega) (by first | decide | omega) (by first | decide | omega) (by first | decide | omega) (by first | decide | omega)
                  · skip
                    refine r_ex hX hP 2 (pc' := 164) (st' := [(2, this), (2, this)]) (lo' := [(0, (2, this))]) rfl ?_
                    refine r_getKI hX hP rfl fl_X6_67_131 hS (x := at_h151) at_h151_e ?_
                    refine r_callV gd hX hP rfl cv_X6_89_131 hS (d' := 0) (mc' := 0) (ms' := 0) (as' := [(0, at_h151)]) (st := []) (by first | decide | omega) (by first | decide | omega) (by first | decide | omega) rfl rfl (Nat.le_of_ble_eq_true rfl) (c_X6_isDigitR E S (hw [(131, 5), (131, 6), (131, 8)] (up (up (up (hw [(131, 5)] G Gx52) 131 this 7 at_x52) 131 this 6 2) 131 this 8 0) Gh151) this at_h151 hS tap8 tap8e tap8s (by first | decide | omega) (by first | decide | omega) TT (rz_tpa rd tap8e : _)) ?_
                    rintro _ _ _ ⟨rfl, rfl, z42, rfl, (⟨rfl, f43, f44⟩ | ⟨rfl, f45⟩)⟩
                    · skip
                      refine r_if_eq hX hP rfl (tgt := 301) rfl (by first | decide | omega) (by first | decide | omega) (fun c46 => ?_) (fun c46 => ?_)
                      · skip
                        exfalso; omega
                      · skip
                        refine r_ex hX hP 1 (pc' := 174) (st' := [(2, this)]) (lo' := [(0, (2, this))]) rfl ?_
                        refine r_getKI hX hP rfl fl_X6_67_131 hS (x := at_h151) at_h151_e ?_
                        refine r_ex hX hP 1 (pc' := 178) (st' := [(2, this), (0, at_h151)]) (lo' := [(0, (2, this))]) rfl ?_
                        refine r_getKI hX hP rfl fl_X6_83_131 hS (x := at_x52) h4 ?_
                        refine r_ex hX hP 2 (pc' := 184) (st' := [(0, 7), (0, (at_h151 - at_x52))]) (lo' := [(0, (2, this))]) rfl ?_
                        refine r_ic_ge hX hP rfl (tgt := 214) rfl (by first | decide | omega) (by first | decide | omega) (by first | decide | omega) (by first | decide | omega) (fun c47 => ?_) (fun c47 => ?_)
                        · skip
                          refine r_ex hX hP 2 (pc' := 216) (st' := [(0, 3), (2, this)]) (lo' := [(0, (2, this))]) rfl ?_
                          refine r_putIK hX hP rfl fp_X6_38_131 hS (by first | decide | omega) (by first | decide | omega) (fun h48 => ?_)
                          refine r_ex hX hP 2 (pc' := 221) (st' := [(2, this), (2, this)]) (lo' := [(0, (2, this))]) rfl ?_
                          refine r_getKI hX hP rfl fl_X6_67_131 hS (x := at_h151) at_h151_e ?_
                          refine r_ex hX hP 2 (pc' := 226) (st' := [(0, (at_h151 + 1)), (2, this)]) (lo' := [(0, (2, this))]) rfl ?_
                          refine r_putIK hX hP rfl fp_X6_67_131 hS (by first | decide | omega) (by first | decide | omega) (fun h49 => ?_)
                          refine r_ex hX hP 1 (pc' := 151) (st' := []) (lo' := [(0, (2, this))]) rfl ?_
                          refine r_eqG (X := X) (hw_up (hw_up (hw_base _ _ _) rfl) rfl) ?_
                          exact ih151 (at_h151 + 1) value_h151 3 _ h49 value_h151_e h48 (by first | decide | omega) (by first | decide | omega) (by first | decide | omega) (by first | decide | omega) (by first | decide | omega) (by first | decide | omega) (by first | decide | omega) (by first | decide | omega) (by first | decide | omega) (by first | decide | omega) (by first | decide | omega) (by first | decide | omega)
                        · skip
                          refine r_ex hX hP 2 (pc' := 189) (st' := [(2, this), (2, this)]) (lo' := [(0, (2, this))]) rfl ?_
                          refine r_getKI hX hP rfl fl_X6_92_131 hS (x := value_h151) value_h151_e ?_
                          refine r_ex hX hP 3 (pc' := 196) (st' := [(2, this), (0, (value_h151 * 10)), (2, this)]) (lo' := [(0, (2, this))]) rfl ?_
                          refine r_getKR hX hP rfl fl_X6_18_131 hS (x := tap8) tap8e ?_
                          refine r_ex hX hP 1 (pc' := 200) (st' := [(2, this), (2, tap8), (0, (value_h151 * 10)), (2, this)]) (lo' := [(0, (2, this))]) rfl ?_
                          refine r_getKI hX hP rfl fl_X6_67_131 hS (x := at_h151) at_h151_e ?_
                          refine r_iald hX hP rfl al_105 tap8s (by first | decide | omega) (by first | decide | omega) (fun x50 x50e x50a x50b => ?_)
                          have k51 := rz_tpx rd tap8e x50e
                          refine r_ex hX hP 3 (pc' := 208) (st' := [(0, (((value_h151 * 10) + x50) - 48)), (2, this)]) (lo' := [(0, (2, this))]) rfl ?_
                          refine r_putIK hX hP rfl fp_X6_92_131 hS (by first | decide | omega) (by first | decide | omega) (fun h52 => ?_)
                          refine r_ex hX hP 3 (pc' := 221) (st' := [(2, this), (2, this)]) (lo' := [(0, (2, this))]) rfl ?_
                          refine r_getKI hX hP rfl fl_X6_67_131 hS (x := at_h151) at_h151_e ?_
                          refine r_ex hX hP 2 (pc' := 226) (st' := [(0, (at_h151 + 1)), (2, this)]) (lo' := [(0, (2, this))]) rfl ?_
                          refine r_putIK hX hP rfl fp_X6_67_131 hS (by first | decide | omega) (by first | decide | omega) (fun h53 => ?_)
                          refine r_ex hX hP 1 (pc' := 151) (st' := []) (lo' := [(0, (2, this))]) rfl ?_
                          refine r_eqG (X := X) (hw_up (hw_up (hw_base _ _ _) rfl) rfl) ?_
                          exact ih151 (at_h151 + 1) (((value_h151 * 10) + x50) - 48) token_h151 _ h53 h52 token_h151_e (by first | decide | omega) (by first | decide | omega) (by first | decide | omega) (by first | decide | omega) (by first | decide | omega) (by first | decide | omega) (by first | decide | omega) (by first | decide | omega) (by first | decide | omega) (by first | decide | omega) (by first | decide | omega) (by first | decide | omega)
                    · skip
                      refine r_if_eq hX hP rfl (tgt := 301) rfl (by first | decide | omega) (by first | decide | omega) (fun c54 => ?_) (fun c54 => ?_)
                      · skip
                        refine r_eqG (X := X) (hw_sub (hw_refl [(131, 5), (131, 6), (131, 8)] _) rfl) ?_
                        exact x301 at_h151 value_h151 token_h151 _ at_h151_e value_h151_e token_h151_e (by first | decide | omega) (by first | decide | omega) (by first | decide | omega) (by first | decide | omega) (by first | decide | omega) (by first | decide | omega) (by first | decide | omega) (by first | decide | omega) (by first | decide | omega)
                      · skip
                        exfalso; omega
              refine r_eqG (X := X) (hw_refl [(131, 5), (131, 6), (131, 8)] _) ?_
              exact loop151 ((400 - at_x52) + 1 : Int).toNat at_x52 0 2 _ at_x52_e h34 h32 (by first | decide | omega) (by first | decide | omega) (by first | decide | omega) (by first | decide | omega) (by first | decide | omega) (by first | decide | omega) (by first | decide | omega) (by first | decide | omega) (by first | decide | omega) (by first | decide | omega) (by first | decide | omega) (by first | decide | omega)
          · skip
            refine r_if_eq hX hP rfl (tgt := 232) rfl (by first | decide | omega) (by first | decide | omega) (fun c55 => ?_) (fun c55 => ?_)
            · skip
              refine r_ex hX hP 1 (pc' := 233) (st' := [(2, this)]) (lo' := [(0, (2, this))]) rfl ?_
              refine r_getKR hX hP rfl fl_X6_18_131 hS (x := tap8) tap8e ?_
              refine r_ex hX hP 1 (pc' := 237) (st' := [(2, this), (2, tap8)]) (lo' := [(0, (2, this))]) rfl ?_
              refine r_getKI hX hP rfl fl_X6_67_131 hS (x := at_x52) at_x52_e ?_
              refine r_iald hX hP rfl al_105 tap8s (by first | decide | omega) (by first | decide | omega) (fun x56 x56e x56a x56b => ?_)
              have k57 := rz_tpx rd tap8e x56e
              refine r_ex hX hP 3 (pc' := 245) (st' := [(0, 59), (0, x56)]) (lo' := [(0, (2, this)), (1, (0, x56))]) rfl ?_
              refine r_ic_eq hX hP rfl (tgt := 272) rfl (by first | decide | omega) (by first | decide | omega) (by first | decide | omega) (by first | decide | omega) (fun c58 => ?_) (fun c58 => ?_)
              · skip
                refine r_ex hX hP 5 (pc' := 280) (st' := [(0, 1), (2, this)]) (lo' := [(0, (2, this)), (1, (0, x56)), (2, (0, 1))]) rfl ?_
                refine r_if_eq hX hP rfl (tgt := 287) rfl (by first | decide | omega) (by first | decide | omega) (fun c59 => ?_) (fun c59 => ?_)
                · skip
                  exfalso; omega
                · skip
                  refine r_ex hX hP 2 (pc' := 288) (st' := [(0, x56), (2, this)]) (lo' := [(0, (2, this)), (1, (0, x56)), (2, (0, 1))]) rfl ?_
                  refine r_putIK hX hP rfl fp_X6_38_131 hS (by first | decide | omega) (by first | decide | omega) (fun h60 => ?_)
                  refine r_ex hX hP 2 (pc' := 293) (st' := [(2, this), (2, this)]) (lo' := [(0, (2, this)), (1, (0, x56)), (2, (0, 1))]) rfl ?_
                  refine r_getKI hX hP rfl fl_X6_67_131 hS (x := at_x52) at_x52_e ?_
                  refine r_ex hX hP 2 (pc' := 298) (st' := [(0, (at_x52 + 1)), (2, this)]) (lo' := [(0, (2, this)), (1, (0, x56)), (2, (0, 1))]) rfl ?_
                  refine r_putIK hX hP rfl fp_X6_67_131 hS (by first | decide | omega) (by first | decide | omega) (fun h61 => ?_)
                  have h62S : tkS TT nn a0 = at_x52 := (show scn cB TT nn a0 = at_x52 from by omega)
                  obtain ⟨h62K, h62E⟩ := tk_sgY h62S (by first | decide | omega) (by first | decide | omega) (by first | decide | omega) (by first | decide | omega)
                  have rd63 : RdC TT nn (ud sr 0 a0) (up (up (up (hw [(131, 5)] G Gx52) 131 this 7 at_x52) 131 this 6 x56) 131 this 5 (at_x52 + 1)) this tx := rd_mk (rz_tape rd : _) (rz_end rd : _) (rz_text rd : _) (h60.symm.trans (show x56 = tkK TT nn a0 from by omega)) (h4.symm.trans h62S.symm) (h61.symm.trans (show (at_x52 + 1) = tkE TT nn a0 from by omega)) (fun hv => by have hv : tkK TT nn a0 = 2 := hv; exfalso; omega) (rz_flaw rd : _) (rz_place rd : _) (rz_told rd : _) (rz_cc rd : _) (rz_fb rd : _) (rz_ti rd : _) (rz_to rd : _) (rz_dp rd : _) (rz_size rd : _) (rz_o0 rd : _) (rz_o1 rd : _) (rz_o2 rd : _) (rz_a0 rd : _) (rz_a1 rd : _) (rz_a2 rd : _) (rz_b0 rd : _) (rz_b1 rd : _) (rz_b2 rd : _) (rz_m0 rd : _) (rz_m1 rd : _) (rz_m2 rd : _) (rz_ne1 rd : _) (rz_ne2 rd : _) (show 0 ≤ a0 from by omega) (show a0 ≤ nn from by omega) (rz_n4 rd : _)
                  exact r_retV hX hP rfl rfl (by first | decide | omega) (by first | decide | omega) ⟨rfl, ⟨_, (hw_up (hw_up (hw_up (hw_sub (hw_refl _ _) rfl) rfl) rfl) rfl).symm⟩, rfl, rd63⟩
              · skip
                refine r_ex hX hP 2 (pc' := 251) (st' := [(0, 123), (0, x56)]) (lo' := [(0, (2, this)), (1, (0, x56))]) rfl ?_
                refine r_ic_eq hX hP rfl (tgt := 272) rfl (by first | decide | omega) (by first | decide | omega) (by first | decide | omega) (by first | decide | omega) (fun c64 => ?_) (fun c64 => ?_)
                · skip
                  refine r_ex hX hP 5 (pc' := 280) (st' := [(0, 1), (2, this)]) (lo' := [(0, (2, this)), (1, (0, x56)), (2, (0, 1))]) rfl ?_
                  refine r_if_eq hX hP rfl (tgt := 287) rfl (by first | decide | omega) (by first | decide | omega) (fun c65 => ?_) (fun c65 => ?_)
                  · skip
                    exfalso; omega
                  · skip
                    refine r_ex hX hP 2 (pc' := 288) (st' := [(0, x56), (2, this)]) (lo' := [(0, (2, this)), (1, (0, x56)), (2, (0, 1))]) rfl ?_
                    refine r_putIK hX hP rfl fp_X6_38_131 hS (by first | decide | omega) (by first | decide | omega) (fun h66 => ?_)
                    refine r_ex hX hP 2 (pc' := 293) (st' := [(2, this), (2, this)]) (lo' := [(0, (2, this)), (1, (0, x56)), (2, (0, 1))]) rfl ?_
                    refine r_getKI hX hP rfl fl_X6_67_131 hS (x := at_x52) at_x52_e ?_
                    refine r_ex hX hP 2 (pc' := 298) (st' := [(0, (at_x52 + 1)), (2, this)]) (lo' := [(0, (2, this)), (1, (0, x56)), (2, (0, 1))]) rfl ?_
                    refine r_putIK hX hP rfl fp_X6_67_131 hS (by first | decide | omega) (by first | decide | omega) (fun h67 => ?_)
                    have h68S : tkS TT nn a0 = at_x52 := (show scn cB TT nn a0 = at_x52 from by omega)
                    obtain ⟨h68K, h68E⟩ := tk_sgY h68S (by first | decide | omega) (by first | decide | omega) (by first | decide | omega) (by first | decide | omega)
                    have rd69 : RdC TT nn (ud sr 0 a0) (up (up (up (hw [(131, 5)] G Gx52) 131 this 7 at_x52) 131 this 6 x56) 131 this 5 (at_x52 + 1)) this tx := rd_mk (rz_tape rd : _) (rz_end rd : _) (rz_text rd : _) (h66.symm.trans (show x56 = tkK TT nn a0 from by omega)) (h4.symm.trans h68S.symm) (h67.symm.trans (show (at_x52 + 1) = tkE TT nn a0 from by omega)) (fun hv => by have hv : tkK TT nn a0 = 2 := hv; exfalso; omega) (rz_flaw rd : _) (rz_place rd : _) (rz_told rd : _) (rz_cc rd : _) (rz_fb rd : _) (rz_ti rd : _) (rz_to rd : _) (rz_dp rd : _) (rz_size rd : _) (rz_o0 rd : _) (rz_o1 rd : _) (rz_o2 rd : _) (rz_a0 rd : _) (rz_a1 rd : _) (rz_a2 rd : _) (rz_b0 rd : _) (rz_b1 rd : _) (rz_b2 rd : _) (rz_m0 rd : _) (rz_m1 rd : _) (rz_m2 rd : _) (rz_ne1 rd : _) (rz_ne2 rd : _) (show 0 ≤ a0 from by omega) (show a0 ≤ nn from by omega) (rz_n4 rd : _)
                    exact r_retV hX hP rfl rfl (by first | decide | omega) (by first | decide | omega) ⟨rfl, ⟨_, (hw_up (hw_up (hw_up (hw_sub (hw_refl _ _) rfl) rfl) rfl) rfl).symm⟩, rfl, rd69⟩
                · skip
                  refine r_ex hX hP 2 (pc' := 257) (st' := [(0, 125), (0, x56)]) (lo' := [(0, (2, this)), (1, (0, x56))]) rfl ?_
                  refine r_ic_eq hX hP rfl (tgt := 272) rfl (by first | decide | omega) (by first | decide | omega) (by first | decide | omega) (by first | decide | omega) (fun c70 => ?_) (fun c70 => ?_)
                  · skip
                    refine r_ex hX hP 5 (pc' := 280) (st' := [(0, 1), (2, this)]) (lo' := [(0, (2, this)), (1, (0, x56)), (2, (0, 1))]) rfl ?_
                    refine r_if_eq hX hP rfl (tgt := 287) rfl (by first | decide | omega) (by first | decide | omega) (fun c71 => ?_) (fun c71 => ?_)
                    · skip
                      exfalso; omega
                    · skip
                      refine r_ex hX hP 2 (pc' := 288) (st' := [(0, x56), (2, this)]) (lo' := [(0, (2, this)), (1, (0, x56)), (2, (0, 1))]) rfl ?_
                      refine r_putIK hX hP rfl fp_X6_38_131 hS (by first | decide | omega) (by first | decide | omega) (fun h72 => ?_)
                      refine r_ex hX hP 2 (pc' := 293) (st' := [(2, this), (2, this)]) (lo' := [(0, (2, this)), (1, (0, x56)), (2, (0, 1))]) rfl ?_
                      refine r_getKI hX hP rfl fl_X6_67_131 hS (x := at_x52) at_x52_e ?_
                      refine r_ex hX hP 2 (pc' := 298) (st' := [(0, (at_x52 + 1)), (2, this)]) (lo' := [(0, (2, this)), (1, (0, x56)), (2, (0, 1))]) rfl ?_
                      refine r_putIK hX hP rfl fp_X6_67_131 hS (by first | decide | omega) (by first | decide | omega) (fun h73 => ?_)
                      have h74S : tkS TT nn a0 = at_x52 := (show scn cB TT nn a0 = at_x52 from by omega)
                      obtain ⟨h74K, h74E⟩ := tk_sgY h74S (by first | decide | omega) (by first | decide | omega) (by first | decide | omega) (by first | decide | omega)
                      have rd75 : RdC TT nn (ud sr 0 a0) (up (up (up (hw [(131, 5)] G Gx52) 131 this 7 at_x52) 131 this 6 x56) 131 this 5 (at_x52 + 1)) this tx := rd_mk (rz_tape rd : _) (rz_end rd : _) (rz_text rd : _) (h72.symm.trans (show x56 = tkK TT nn a0 from by omega)) (h4.symm.trans h74S.symm) (h73.symm.trans (show (at_x52 + 1) = tkE TT nn a0 from by omega)) (fun hv => by have hv : tkK TT nn a0 = 2 := hv; exfalso; omega) (rz_flaw rd : _) (rz_place rd : _) (rz_told rd : _) (rz_cc rd : _) (rz_fb rd : _) (rz_ti rd : _) (rz_to rd : _) (rz_dp rd : _) (rz_size rd : _) (rz_o0 rd : _) (rz_o1 rd : _) (rz_o2 rd : _) (rz_a0 rd : _) (rz_a1 rd : _) (rz_a2 rd : _) (rz_b0 rd : _) (rz_b1 rd : _) (rz_b2 rd : _) (rz_m0 rd : _) (rz_m1 rd : _) (rz_m2 rd : _) (rz_ne1 rd : _) (rz_ne2 rd : _) (show 0 ≤ a0 from by omega) (show a0 ≤ nn from by omega) (rz_n4 rd : _)
                      exact r_retV hX hP rfl rfl (by first | decide | omega) (by first | decide | omega) ⟨rfl, ⟨_, (hw_up (hw_up (hw_up (hw_sub (hw_refl _ _) rfl) rfl) rfl) rfl).symm⟩, rfl, rd75⟩
                  · skip
                    refine r_ex hX hP 2 (pc' := 263) (st' := [(0, 60), (0, x56)]) (lo' := [(0, (2, this)), (1, (0, x56))]) rfl ?_
                    refine r_ic_eq hX hP rfl (tgt := 272) rfl (by first | decide | omega) (by first | decide | omega) (by first | decide | omega) (by first | decide | omega) (fun c76 => ?_) (fun c76 => ?_)
                    · skip
                      refine r_ex hX hP 5 (pc' := 280) (st' := [(0, 1), (2, this)]) (lo' := [(0, (2, this)), (1, (0, x56)), (2, (0, 1))]) rfl ?_
                      refine r_if_eq hX hP rfl (tgt := 287) rfl (by first | decide | omega) (by first | decide | omega) (fun c77 => ?_) (fun c77 => ?_)
                      · skip
                        exfalso; omega
                      · skip
                        refine r_ex hX hP 2 (pc' := 288) (st' := [(0, x56), (2, this)]) (lo' := [(0, (2, this)), (1, (0, x56)), (2, (0, 1))]) rfl ?_
                        refine r_putIK hX hP rfl fp_X6_38_131 hS (by first | decide | omega) (by first | decide | omega) (fun h78 => ?_)
                        refine r_ex hX hP 2 (pc' := 293) (st' := [(2, this), (2, this)]) (lo' := [(0, (2, this)), (1, (0, x56)), (2, (0, 1))]) rfl ?_
                        refine r_getKI hX hP rfl fl_X6_67_131 hS (x := at_x52) at_x52_e ?_
                        refine r_ex hX hP 2 (pc' := 298) (st' := [(0, (at_x52 + 1)), (2, this)]) (lo' := [(0, (2, this)), (1, (0, x56)), (2, (0, 1))]) rfl ?_
                        refine r_putIK hX hP rfl fp_X6_67_131 hS (by first | decide | omega) (by first | decide | omega) (fun h79 => ?_)
                        have h80S : tkS TT nn a0 = at_x52 := (show scn cB TT nn a0 = at_x52 from by omega)
                        obtain ⟨h80K, h80E⟩ := tk_sgY h80S (by first | decide | omega) (by first | decide | omega) (by first | decide | omega) (by first | decide | omega)
                        have rd81 : RdC TT nn (ud sr 0 a0) (up (up (up (hw [(131, 5)] G Gx52) 131 this 7 at_x52) 131 this 6 x56) 131 this 5 (at_x52 + 1)) this tx := rd_mk (rz_tape rd : _) (rz_end rd : _) (rz_text rd : _) (h78.symm.trans (show x56 = tkK TT nn a0 from by omega)) (h4.symm.trans h80S.symm) (h79.symm.trans (show (at_x52 + 1) = tkE TT nn a0 from by omega)) (fun hv => by have hv : tkK TT nn a0 = 2 := hv; exfalso; omega) (rz_flaw rd : _) (rz_place rd : _) (rz_told rd : _) (rz_cc rd : _) (rz_fb rd : _) (rz_ti rd : _) (rz_to rd : _) (rz_dp rd : _) (rz_size rd : _) (rz_o0 rd : _) (rz_o1 rd : _) (rz_o2 rd : _) (rz_a0 rd : _) (rz_a1 rd : _) (rz_a2 rd : _) (rz_b0 rd : _) (rz_b1 rd : _) (rz_b2 rd : _) (rz_m0 rd : _) (rz_m1 rd : _) (rz_m2 rd : _) (rz_ne1 rd : _) (rz_ne2 rd : _) (show 0 ≤ a0 from by omega) (show a0 ≤ nn from by omega) (rz_n4 rd : _)
                        exact r_retV hX hP rfl rfl (by first | decide | omega) (by first | decide | omega) ⟨rfl, ⟨_, (hw_up (hw_up (hw_up (hw_sub (hw_refl _ _) rfl) rfl) rfl) rfl).symm⟩, rfl, rd81⟩
                    · skip
                      refine r_ex hX hP 2 (pc' := 269) (st' := [(0, 62), (0, x56)]) (lo' := [(0, (2, this)), (1, (0, x56))]) rfl ?_
                      refine r_ic_ne hX hP rfl (tgt := 276) rfl (by first | decide | omega) (by first | decide | omega) (by first | decide | omega) (by first | decide | omega) (fun c82 => ?_) (fun c82 => ?_)
                      · skip
                        refine r_ex hX hP 4 (pc' := 280) (st' := [(0, 0), (2, this)]) (lo' := [(0, (2, this)), (1, (0, x56)), (2, (0, 0))]) rfl ?_
                        refine r_if_eq hX hP rfl (tgt := 287) rfl (by first | decide | omega) (by first | decide | omega) (fun c83 => ?_) (fun c83 => ?_)
                        · skip
                          refine r_ex hX hP 1 (pc' := 288) (st' := [(0, 3), (2, this)]) (lo' := [(0, (2, this)), (1, (0, x56)), (2, (0, 0))]) rfl ?_
                          refine r_putIK hX hP rfl fp_X6_38_131 hS (by first | decide | omega) (by first | decide | omega) (fun h84 => ?_)
                          refine r_ex hX hP 2 (pc' := 293) (st' := [(2, this), (2, this)]) (lo' := [(0, (2, this)), (1, (0, x56)), (2, (0, 0))]) rfl ?_
                          refine r_getKI hX hP rfl fl_X6_67_131 hS (x := at_x52) at_x52_e ?_
                          refine r_ex hX hP 2 (pc' := 298) (st' := [(0, (at_x52 + 1)), (2, this)]) (lo' := [(0, (2, this)), (1, (0, x56)), (2, (0, 0))]) rfl ?_
                          refine r_putIK hX hP rfl fp_X6_67_131 hS (by first | decide | omega) (by first | decide | omega) (fun h85 => ?_)
                          have h86S : tkS TT nn a0 = at_x52 := (show scn cB TT nn a0 = at_x52 from by omega)
                          obtain ⟨h86K, h86E⟩ := tk_sgN h86S (by first | decide | omega) (by first | decide | omega) (by first | decide | omega) (by first | decide | omega)
                          have rd87 : RdC TT nn (ud sr 0 a0) (up (up (up (hw [(131, 5)] G Gx52) 131 this 7 at_x52) 131 this 6 3) 131 this 5 (at_x52 + 1)) this tx := rd_mk (rz_tape rd : _) (rz_end rd : _) (rz_text rd : _) (h84.symm.trans (show 3 = tkK TT nn a0 from by omega)) (h4.symm.trans h86S.symm) (h85.symm.trans (show (at_x52 + 1) = tkE TT nn a0 from by omega)) (fun hv => by have hv : tkK TT nn a0 = 2 := hv; exfalso; omega) (rz_flaw rd : _) (rz_place rd : _) (rz_told rd : _) (rz_cc rd : _) (rz_fb rd : _) (rz_ti rd : _) (rz_to rd : _) (rz_dp rd : _) (rz_size rd : _) (rz_o0 rd : _) (rz_o1 rd : _) (rz_o2 rd : _) (rz_a0 rd : _) (rz_a1 rd : _) (rz_a2 rd : _) (rz_b0 rd : _) (rz_b1 rd : _) (rz_b2 rd : _) (rz_m0 rd : _) (rz_m1 rd : _) (rz_m2 rd : _) (rz_ne1 rd : _) (rz_ne2 rd : _) (show 0 ≤ a0 from by omega) (show a0 ≤ nn from by omega) (rz_n4 rd : _)
                          exact r_retV hX hP rfl rfl (by first | decide | omega) (by first | decide | omega) ⟨rfl, ⟨_, (hw_up (hw_up (hw_up (hw_sub (hw_refl _ _) rfl) rfl) rfl) rfl).symm⟩, rfl, rd87⟩
                        · skip
                          exfalso; omega
                      · skip
                        refine r_ex hX hP 5 (pc' := 280) (st' := [(0, 1), (2, this)]) (lo' := [(0, (2, this)), (1, (0, x56)), (2, (0, 1))]) rfl ?_
                        refine r_if_eq hX hP rfl (tgt := 287) rfl (by first | decide | omega) (by first | decide | omega) (fun c88 => ?_) (fun c88 => ?_)
                        · skip
                          exfalso; omega
                        · skip
                          refine r_ex hX hP 2 (pc' := 288) (st' := [(0, x56), (2, this)]) (lo' := [(0, (2, this)), (1, (0, x56)), (2, (0, 1))]) rfl ?_
                          refine r_putIK hX hP rfl fp_X6_38_131 hS (by first | decide | omega) (by first | decide | omega) (fun h89 => ?_)
                          refine r_ex hX hP 2 (pc' := 293) (st' := [(2, this), (2, this)]) (lo' := [(0, (2, this)), (1, (0, x56)), (2, (0, 1))]) rfl ?_
                          refine r_getKI hX hP rfl fl_X6_67_131 hS (x := at_x52) at_x52_e ?_
                          refine r_ex hX hP 2 (pc' := 298) (st' := [(0, (at_x52 + 1)), (2, this)]) (lo' := [(0, (2, this)), (1, (0, x56)), (2, (0, 1))]) rfl ?_
                          refine r_putIK hX hP rfl fp_X6_67_131 hS (by first | decide | omega) (by first | decide | omega) (fun h90 => ?_)
                          have h91S : tkS TT nn a0 = at_x52 := (show scn cB TT nn a0 = at_x52 from by omega)
                          obtain ⟨h91K, h91E⟩ := tk_sgY h91S (by first | decide | omega) (by first | decide | omega) (by first | decide | omega) (by first | decide | omega)
                          have rd92 : RdC TT nn (ud sr 0 a0) (up (up (up (hw [(131, 5)] G Gx52) 131 this 7 at_x52) 131 this 6 x56) 131 this 5 (at_x52 + 1)) this tx := rd_mk (rz_tape rd : _) (rz_end rd : _) (rz_text rd : _) (h89.symm.trans (show x56 = tkK TT nn a0 from by omega)) (h4.symm.trans h91S.symm) (h90.symm.trans (show (at_x52 + 1) = tkE TT nn a0 from by omega)) (fun hv => by have hv : tkK TT nn a0 = 2 := hv; exfalso; omega) (rz_flaw rd : _) (rz_place rd : _) (rz_told rd : _) (rz_cc rd : _) (rz_fb rd : _) (rz_ti rd : _) (rz_to rd : _) (rz_dp rd : _) (rz_size rd : _) (rz_o0 rd : _) (rz_o1 rd : _) (rz_o2 rd : _) (rz_a0 rd : _) (rz_a1 rd : _) (rz_a2 rd : _) (rz_b0 rd : _) (rz_b1 rd : _) (rz_b2 rd : _) (rz_m0 rd : _) (rz_m1 rd : _) (rz_m2 rd : _) (rz_ne1 rd : _) (rz_ne2 rd : _) (show 0 ≤ a0 from by omega) (show a0 ≤ nn from by omega) (rz_n4 rd : _)
                          exact r_retV hX hP rfl rfl (by first | decide | omega) (by first | decide | omega) ⟨rfl, ⟨_, (hw_up (hw_up (hw_up (hw_sub (hw_refl _ _) rfl) rfl) rfl) rfl).symm⟩, rfl, rd92⟩
            · skip
              exfalso; omega
        · skip
          exfalso; omega
    · skip
      refine r_ex hX hP 2 (pc' := 73) (st' := [(0, 0), (2, this)]) (lo' := [(0, (2, this))]) rfl ?_
      refine r_putIK hX hP rfl fp_X6_38_131 hS (by first | decide | omega) (by first | decide | omega) (fun h93 => ?_)
      refine r_ex hX hP 1 (pc' := 301) (st' := []) (lo' := [(0, (2, this))]) rfl ?_
      have h94S : tkS TT nn a0 = at_x52 := (show scn cB TT nn a0 = at_x52 from by omega)
      obtain ⟨h94K, h94E⟩ := tk_end h94S (by first | decide | omega)
      have rd95 : RdC TT nn (ud sr 0 a0) (up (up (hw [(131, 5)] G Gx52) 131 this 7 at_x52) 131 this 6 0) this tx := rd_mk (rz_tape rd : _) (rz_end rd : _) (rz_text rd : _) (h93.symm.trans (show 0 = tkK TT nn a0 from by omega)) (h4.symm.trans h94S.symm) (at_x52_e.symm.trans (show at_x52 = tkE TT nn a0 from by omega)) (fun hv => by have hv : tkK TT nn a0 = 2 := hv; exfalso; omega) (rz_flaw rd : _) (rz_place rd : _) (rz_told rd : _) (rz_cc rd : _) (rz_fb rd : _) (rz_ti rd : _) (rz_to rd : _) (rz_dp rd : _) (rz_size rd : _) (rz_o0 rd : _) (rz_o1 rd : _) (rz_o2 rd : _) (rz_a0 rd : _) (rz_a1 rd : _) (rz_a2 rd : _) (rz_b0 rd : _) (rz_b1 rd : _) (rz_b2 rd : _) (rz_m0 rd : _) (rz_m1 rd : _) (rz_m2 rd : _) (rz_ne1 rd : _) (rz_ne2 rd : _) (show 0 ≤ a0 from by omega) (show a0 ≤ nn from by omega) (rz_n4 rd : _)
      exact r_retV hX hP rfl rfl (by first | decide | omega) (by first | decide | omega) ⟨rfl, ⟨_, (hw_up (hw_up (hw_sub (hw_refl _ _) rfl) rfl) rfl).symm⟩, rfl, rd95⟩
  have loop0 : ∀ (nF : Nat) (at_h0 : Int) (Gh0 : Gh), at_h0 = (hw [(131, 5)] G Gh0) 131 this 5 → 0 ≤ at_h0 → at_h0 ≤ 400 → scn cB TT nn at_h0 = scn cB TT nn a0 → at_h0 ≤ nn → 400 - at_h0 < (nF : Int) → X 0 0 0 [] [(0, (2, this))] S (hw [(131, 5)] G Gh0) := by
    intro nF
    induction nF with
    | zero => intro at_h0 Gh0 at_h0_e yh0_0 yh0_1 yh0_2 yh0_3 ym0; exfalso; omega
    | succ nF ih0 =>
      intro at_h0 Gh0 at_h0_e yh0_0 yh0_1 yh0_2 yh0_3 ym0
      have k96 := scn_orB (T := TT) (n := nn) (p := at_h0)
      refine r_ex hX hP 1 (pc' := 1) (st' := [(2, this)]) (lo' := [(0, (2, this))]) rfl ?_
      refine r_getKI hX hP rfl fl_X6_67_131 hS (x := at_h0) at_h0_e ?_
      refine r_ex hX hP 1 (pc' := 5) (st' := [(2, this), (0, at_h0)]) (lo' := [(0, (2, this))]) rfl ?_
      refine r_getI hX hP rfl fl_X6_64_131 hS (fun ef97 ef97e ef97a ef97b => ?_)
      have k98 := rz_end rd
      have k98 := ef97e.trans k98
      refine r_ic_ge hX hP rfl (tgt := 52) rfl (by first | decide | omega) (by first | decide | omega) (by first | decide | omega) (by first | decide | omega) (fun c99 => ?_) (fun c99 => ?_)
      · skip
        refine r_eqG (X := X) (hw_sub (hw_refl [(131, 5)] _) rfl) ?_
        exact x52 at_h0 _ at_h0_e (by first | decide | omega) (by first | decide | omega) (by first | decide | omega) (by first | decide | omega)
      · skip
        refine r_ex hX hP 1 (pc' := 12) (st' := [(2, this)]) (lo' := [(0, (2, this))]) rfl ?_
        refine r_getR hX hP rfl fl_X6_18_131 hS (fun tf100 tf100e tf100s => ?_)
        refine r_ex hX hP 1 (pc' := 16) (st' := [(2, this), (2, tf100)]) (lo' := [(0, (2, this))]) rfl ?_
        refine r_getKI hX hP rfl fl_X6_67_131 hS (x := at_h0) at_h0_e ?_
        refine r_iald hX hP rfl al_105 tf100s (by first | decide | omega) (by first | decide | omega) (fun x101 x101e x101a x101b => ?_)
        have k102 := rz_tpx rd tf100e x101e
        refine r_ex hX hP 1 (pc' := 22) (st' := [(0, 32), (0, x101)]) (lo' := [(0, (2, this))]) rfl ?_
        refine r_ic_eq hX hP rfl (tgt := 39) rfl (by first | decide | omega) (by first | decide | omega) (by first | decide | omega) (by first | decide | omega) (fun c103 => ?_) (fun c103 => ?_)
        · skip
          refine r_ex hX hP 2 (pc' := 41) (st' := [(2, this), (2, this)]) (lo' := [(0, (2, this))]) rfl ?_
          refine r_getKI hX hP rfl fl_X6_67_131 hS (x := at_h0) at_h0_e ?_
          refine r_ex hX hP 2 (pc' := 46) (st' := [(0, (at_h0 + 1)), (2, this)]) (lo' := [(0, (2, this))]) rfl ?_
          refine r_putIK hX hP rfl fp_X6_67_131 hS (by first | decide | omega) (by first | decide | omega) (fun h104 => ?_)
          refine r_ex hX hP 1 (pc' := 0) (st' := []) (lo' := [(0, (2, this))]) rfl ?_
          refine r_eqG (X := X) (hw_up (hw_base _ _ _) rfl) ?_
          exact ih0 (at_h0 + 1) _ h104 (by first | decide | omega) (by first | decide | omega) (by first | decide | omega) (by first | decide | omega) (by first | decide | omega)
        · skip
          refine r_ex hX hP 1 (pc' := 26) (st' := [(2, this)]) (lo' := [(0, (2, this))]) rfl ?_
          refine r_getKR hX hP rfl fl_X6_18_131 hS (x := tf100) tf100e ?_
          refine r_ex hX hP 1 (pc' := 30) (st' := [(2, this), (2, tf100)]) (lo' := [(0, (2, this))]) rfl ?_
          refine r_getKI hX hP rfl fl_X6_67_131 hS (x := at_h0) at_h0_e ?_
          refine r_ialdK hX hP rfl al_105 tf100s (by first | decide | omega) (by first | decide | omega) (x := x101) x101e ?_
          refine r_ex hX hP 1 (pc' := 36) (st' := [(0, 10), (0, x101)]) (lo' := [(0, (2, this))]) rfl ?_
          refine r_ic_ne hX hP rfl (tgt := 52) rfl (by first | decide | omega) (by first | decide | omega) (by first | decide | omega) (by first | decide | omega) (fun c105 => ?_) (fun c105 => ?_)
          · skip
            refine r_eqG (X := X) (hw_sub (hw_refl [(131, 5)] _) rfl) ?_
            exact x52 at_h0 _ at_h0_e (by first | decide | omega) (by first | decide | omega) (by first | decide | omega) (by first | decide | omega)
          · skip
            refine r_ex hX hP 2 (pc' := 41) (st' := [(2, this), (2, this)]) (lo' := [(0, (2, this))]) rfl ?_
            refine r_getKI hX hP rfl fl_X6_67_131 hS (x := at_h0) at_h0_e ?_
            refine r_ex hX hP 2 (pc' := 46) (st' := [(0, (at_h0 + 1)), (2, this)]) (lo' := [(0, (2, this))]) rfl ?_
            refine r_putIK hX hP rfl fp_X6_67_131 hS (by first | decide | omega) (by first | decide | omega) (fun h106 => ?_)
            refine r_ex hX hP 1 (pc' := 0) (st' := []) (lo' := [(0, (2, this))]) rfl ?_
            refine r_eqG (X := X) (hw_up (hw_base _ _ _) rfl) ?_
            exact ih0 (at_h0 + 1) _ h106 (by first | decide | omega) (by first | decide | omega) (by first | decide | omega) (by first | decide | omega) (by first | decide | omega)
  refine r_peekI hX (tl_131 5 rfl (by decide)) hS (fun atp107 atp107e atp107a atp107b => ?_)
  have k108 := rz_at rd
  have k108 := atp107e.trans k108
  have k109 := congrArg (scn cB TT nn) (show atp107 = a0 from by omega)
  refine r_eqG (X := X) (hw_refl [(131, 5)] _) ?_
  exact loop0 ((400 - atp107) + 1 : Int).toNat atp107 _ atp107e (by first | decide | omega) (by first | decide | omega) (by first | decide | omega) (by first | decide | omega) (by first | decide | omega)
theorem c_X6_advanceR (E : En) (S : Sg) (G : Gh) (this : Int) (hS : S this = 131) (tx : Int) (tx_e : tx = G 131 this 9) (tx_s : S tx = 136) (TT : Tp) (nn : Int) (sr : Rg) (rd : RdC TT nn sr G this tx) : Calls E mX6_advance [(2, this)] S G 1 0 0 (fun r S' G' => S = S' ∧ (∃ G1, hw [(131, 5), (131, 6), (131, 7), (131, 8)] G G1 = G') ∧ r = none ∧ RdC TT nn (pAv TT nn sr) G' this tx) := c_X6_advance0 E S G this hS tx tx_e tx_s TT nn (tkE TT nn (sr 0)) sr (rz_of rd)
set_option maxRecDepth 100000 in
set_option maxHeartbeats 4000000 in
theorem c_X6_failR (E : En) (S : Sg) (G : Gh) (this : Int) (how : Int) (hS : S this = 131) (tx : Int) (tx_e : tx = G 131 this 9) (tx_s : S tx = 136) (how_a : 1 ≤ how) (how_b : how ≤ 6) (TT : Tp) (nn : Int) (sr : Rg) (rd : RdC TT nn sr G this tx) : Calls E mX6_fail [(2, this), (0, how)] S G 0 0 0 (fun r S' G' => S = S' ∧ (∃ G1, hw [(131, 1), (131, 2)] G G1 = G') ∧ ∃ z : Int, r = some (0, z) ∧ ∃ f1 : Int, f1 = G' 131 this 1 ∧ (z = 0) ∧ f1 ≠ 0 ∧ RdC TT nn (pFl TT nn how sr) G' this tx) := by
  refine calls_by [(0, (2, this)), (1, (0, how))] rfl rfl (Nat.le_of_ble_eq_true rfl) (fun X hX => ?_)
  have hP := hPX6_fail
  refine r_ex hX hP 1 (pc' := 1) (st' := [(2, this)]) (lo' := [(0, (2, this)), (1, (0, how))]) rfl ?_
  refine r_getI hX hP rfl fl_X6_9_131 hS (fun ff1 ff1e ff1a ff1b => ?_)
  have k2 := rq_flaw rd
  have k2 := ff1e.trans k2
  refine r_if_ne hX hP rfl (tgt := 20) rfl (by first | decide | omega) (by first | decide | omega) (fun c3 => ?_) (fun c3 => ?_)
  · skip
    refine r_ex hX hP 1 (pc' := 21) (st' := [(0, 0)]) (lo' := [(0, (2, this)), (1, (0, how))]) rfl ?_
    have hC4 : sr = pFl TT nn how sr := by
      unfold pFl; (repeat (first | rw [if_pos (by first | decide | omega)] | rw [if_neg (by first | decide | omega)])); try rfl
    have hC41 : (pFl TT nn how sr) 1 = (sr) 1 := congrFun hC4.symm 1
    exact r_retZ hX hP rfl rfl (by first | decide | omega) (by first | decide | omega) (by first | decide | omega) (by first | decide | omega) ⟨rfl, ⟨_, (hw_refl _ _).symm⟩, 0, rfl, ff1, ff1e, (by first | decide | omega), (by first | decide | omega), (rd_cast rd hC4)⟩
  · skip
    refine r_ex hX hP 2 (pc' := 9) (st' := [(0, how), (2, this)]) (lo' := [(0, (2, this)), (1, (0, how))]) rfl ?_
    refine r_putIK hX hP rfl fp_X6_9_131 hS (by first | decide | omega) (by first | decide | omega) (fun h5 => ?_)
    refine r_ex hX hP 2 (pc' := 14) (st' := [(2, this), (2, this)]) (lo' := [(0, (2, this)), (1, (0, how))]) rfl ?_
    refine r_getI hX hP rfl fl_X6_83_131 hS (fun sf6 sf6e sf6a sf6b => ?_)
    have k7 := rq_start rd
    have k7 := sf6e.trans k7
    refine r_putIK hX hP rfl fp_X6_15_131 hS (by first | decide | omega) (by first | decide | omega) (fun h8 => ?_)
    refine r_ex hX hP 1 (pc' := 21) (st' := [(0, 0)]) (lo' := [(0, (2, this)), (1, (0, how))]) rfl ?_
    have rd9 : RdC TT nn (ud (ud sr 1 how) 2 (tkS TT nn (sr 0))) (up (up G 131 this 1 how) 131 this 2 sf6) this tx := rd_mk (rq_tape rd : _) (rq_end rd : _) (rq_text rd : _) (rq_tok rd : _) (rq_start rd : _) (rq_at rd : _) (rq_val rd : _) h5.symm (h8.symm.trans (show sf6 = tkS TT nn (sr 0) from by omega)) (rq_told rd : _) (rq_cc rd : _) (rq_fb rd : _) (rq_ti rd : _) (rq_to rd : _) (rq_dp rd : _) (rq_size rd : _) (rq_o0 rd : _) (rq_o1 rd : _) (rq_o2 rd : _) (rq_a0 rd : _) (rq_a1 rd : _) (rq_a2 rd : _) (rq_b0 rd : _) (rq_b1 rd : _) (rq_b2 rd : _) (rq_m0 rd : _) (rq_m1 rd : _) (rq_m2 rd : _) (rq_ne1 rd : _) (rq_ne2 rd : _) (rq_p0 rd : _) (rq_p1 rd : _) (rq_n4 rd : _)
    have hC10 : ud (ud sr 1 how) 2 (tkS TT nn (sr 0)) = pFl TT nn how sr := by
      unfold pFl; (repeat (first | rw [if_pos (by first | decide | omega)] | rw [if_neg (by first | decide | omega)])); try rfl
    have hC101 : (pFl TT nn how sr) 1 = (ud (ud sr 1 how) 2 (tkS TT nn (sr 0))) 1 := congrFun hC10.symm 1
    exact r_retZ hX hP rfl rfl (by first | decide | omega) (by first | decide | omega) (by first | decide | omega) (by first | decide | omega) ⟨rfl, ⟨_, (hw_up (hw_up (hw_refl _ _) rfl) rfl).symm⟩, 0, rfl, how, h5, (by first | decide | omega), (by first | decide | omega), (rd_cast rd9 hC10)⟩
set_option maxRecDepth 100000 in
set_option maxHeartbeats 4000000 in
theorem c_X6_expectR (E : En) (S : Sg) (G : Gh) (this : Int) (wanted : Int) (hS : S this = 131) (tx : Int) (tx_e : tx = G 131 this 9) (tx_s : S tx = 136) (f0 : Int) (f0_e : f0 = G 131 this 1) (wanted_a : (-2147483648) ≤ wanted) (wanted_b : wanted ≤ 2147483647) (TT : Tp) (nn : Int) (sr : Rg) (rd : RdC TT nn sr G this tx) : Calls E mX6_expect [(2, this), (0, wanted)] S G 1 0 0 (fun r S' G' => S = S' ∧ (∃ G1, hw [(131, 1), (131, 2)] G G1 = G') ∧ ∃ z : Int, r = some (0, z) ∧ ∃ f1 : Int, f1 = G' 131 this 1 ∧ ((z = 1 ∧ f1 = 0 ∧ f0 = 0 ∧ tkK TT nn (sr 0) = wanted) ∨ (z = 0 ∧ f1 ≠ 0)) ∧ RdC TT nn (pEx TT nn wanted sr) G' this tx) := by
  refine calls_by [(0, (2, this)), (1, (0, wanted))] rfl rfl (Nat.le_of_ble_eq_true rfl) (fun X hX => ?_)
  have hP := hPX6_expect
  refine r_peekI hX (tl_131 1 rfl (by decide)) hS (fun f0_o f0_oe f0_oa f0_ob => ?_)
  obtain rfl : f0 = f0_o := f0_e.trans f0_oe.symm
  have k1 := f0_e.trans (rq_flaw rd)
  refine r_ex hX hP 1 (pc' := 1) (st' := [(2, this)]) (lo' := [(0, (2, this)), (1, (0, wanted))]) rfl ?_
  refine r_getKI hX hP rfl fl_X6_9_131 hS (x := f0) f0_e ?_
  refine r_if_eq hX hP rfl (tgt := 9) rfl (by first | decide | omega) (by first | decide | omega) (fun c2 => ?_) (fun c2 => ?_)
  · skip
    refine r_ex hX hP 1 (pc' := 10) (st' := [(2, this)]) (lo' := [(0, (2, this)), (1, (0, wanted))]) rfl ?_
    refine r_getI hX hP rfl fl_X6_38_131 hS (fun tf3 tf3e tf3a tf3b => ?_)
    have k4 := rq_tok rd
    have k4 := tf3e.trans k4
    refine r_ex hX hP 1 (pc' := 14) (st' := [(0, wanted), (0, tf3)]) (lo' := [(0, (2, this)), (1, (0, wanted))]) rfl ?_
    refine r_ic_ne hX hP rfl (tgt := 19) rfl (by first | decide | omega) (by first | decide | omega) (by first | decide | omega) (by first | decide | omega) (fun c5 => ?_) (fun c5 => ?_)
    · skip
      refine r_ex hX hP 2 (pc' := 21) (st' := [(2, this), (2, this)]) (lo' := [(0, (2, this)), (1, (0, wanted))]) rfl ?_
      refine r_getKI hX hP rfl fl_X6_38_131 hS (x := tf3) tf3e ?_
      refine r_ex hX hP 1 (pc' := 25) (st' := [(0, 3), (0, tf3), (2, this)]) (lo' := [(0, (2, this)), (1, (0, wanted))]) rfl ?_
      refine r_ic_ne hX hP rfl (tgt := 32) rfl (by first | decide | omega) (by first | decide | omega) (by first | decide | omega) (by first | decide | omega) (fun c6 => ?_) (fun c6 => ?_)
      · skip
        refine r_ex hX hP 1 (pc' := 33) (st' := [(0, 2), (2, this)]) (lo' := [(0, (2, this)), (1, (0, wanted))]) rfl ?_
        refine r_callV gd hX hP rfl cv_X6_44_131 hS (d' := 0) (mc' := 0) (ms' := 0) (as' := [(0, 2)]) (st := []) (by first | decide | omega) (by first | decide | omega) (by first | decide | omega) rfl rfl (Nat.le_of_ble_eq_true rfl) (c_X6_failR E S G this 2 hS tx tx_e tx_s (by first | decide | omega) (by first | decide | omega) TT nn sr rd) ?_
        rintro _ _ _ ⟨rfl, ⟨G7, rfl⟩, z8, rfl, flh9, flh9e, rfl, f10, f11⟩
        have k12 := rq_flaw f11
        have k12 := flh9e.trans k12
        refine r_peekI hX (tl_131 1 rfl (by decide)) hS (fun o13 o13e o13a o13b => ?_)
        obtain rfl : flh9 = o13 := flh9e.trans o13e.symm
        have hC14 : pFl TT nn 2 sr = pEx TT nn wanted sr := by
          unfold pEx; (repeat (first | rw [if_pos (by first | decide | omega)] | rw [if_neg (by first | decide | omega)])); try rfl
        have hC141 : (pEx TT nn wanted sr) 1 = (pFl TT nn 2 sr) 1 := congrFun hC14.symm 1
        exact r_retZ hX hP rfl rfl (by first | decide | omega) (by first | decide | omega) (by first | decide | omega) (by first | decide | omega) ⟨rfl, ⟨_, (hw_sub (hw_refl _ _) rfl).symm⟩, 0, rfl, flh9, flh9e, (by first | decide | omega), (rd_cast f11 hC14)⟩
      · skip
        refine r_ex hX hP 2 (pc' := 33) (st' := [(0, 1), (2, this)]) (lo' := [(0, (2, this)), (1, (0, wanted))]) rfl ?_
        refine r_callV gd hX hP rfl cv_X6_44_131 hS (d' := 0) (mc' := 0) (ms' := 0) (as' := [(0, 1)]) (st := []) (by first | decide | omega) (by first | decide | omega) (by first | decide | omega) rfl rfl (Nat.le_of_ble_eq_true rfl) (c_X6_failR E S G this 1 hS tx tx_e tx_s (by first | decide | omega) (by first | decide | omega) TT nn sr rd) ?_
        rintro _ _ _ ⟨rfl, ⟨G15, rfl⟩, z16, rfl, flh17, flh17e, rfl, f18, f19⟩
        have k20 := rq_flaw f19
        have k20 := flh17e.trans k20
        refine r_peekI hX (tl_131 1 rfl (by decide)) hS (fun o21 o21e o21a o21b => ?_)
        obtain rfl : flh17 = o21 := flh17e.trans o21e.symm
        have hC22 : pFl TT nn 1 sr = pEx TT nn wanted sr := by
          unfold pEx; (repeat (first | rw [if_pos (by first | decide | omega)] | rw [if_neg (by first | decide | omega)])); try rfl
        have hC221 : (pEx TT nn wanted sr) 1 = (pFl TT nn 1 sr) 1 := congrFun hC22.symm 1
        exact r_retZ hX hP rfl rfl (by first | decide | omega) (by first | decide | omega) (by first | decide | omega) (by first | decide | omega) ⟨rfl, ⟨_, (hw_sub (hw_refl _ _) rfl).symm⟩, 0, rfl, flh17, flh17e, (by first | decide | omega), (rd_cast f19 hC22)⟩
    · skip
      refine r_ex hX hP 1 (pc' := 18) (st' := [(0, 1)]) (lo' := [(0, (2, this)), (1, (0, wanted))]) rfl ?_
      have hC23 : sr = pEx TT nn wanted sr := by
        unfold pEx; (repeat (first | rw [if_pos (by first | decide | omega)] | rw [if_neg (by first | decide | omega)])); try rfl
      have hC231 : (pEx TT nn wanted sr) 1 = (sr) 1 := congrFun hC23.symm 1
      exact r_retZ hX hP rfl rfl (by first | decide | omega) (by first | decide | omega) (by first | decide | omega) (by first | decide | omega) ⟨rfl, ⟨_, (hw_refl _ _).symm⟩, 1, rfl, f0, f0_e, (by first | decide | omega), (rd_cast rd hC23)⟩
  · skip
    refine r_ex hX hP 1 (pc' := 8) (st' := [(0, 0)]) (lo' := [(0, (2, this)), (1, (0, wanted))]) rfl ?_
    have hC24 : sr = pEx TT nn wanted sr := by
      unfold pEx; (repeat (first | rw [if_pos (by first | decide | omega)] | rw [if_neg (by first | decide | omega)])); try rfl
    have hC241 : (pEx TT nn wanted sr) 1 = (sr) 1 := congrFun hC24.symm 1
    exact r_retZ hX hP rfl rfl (by first | decide | omega) (by first | decide | omega) (by first | decide | omega) (by first | decide | omega) ⟨rfl, ⟨_, (hw_refl _ _).symm⟩, 0, rfl, f0, f0_e, (by first | decide | omega), (rd_cast rd hC24)⟩
set_option maxRecDepth 100000 in
set_option maxHeartbeats 4000000 in
theorem c_X6_signR (E : En) (S : Sg) (G : Gh) (this : Int) (wanted : Int) (hS : S this = 131) (tx : Int) (tx_e : tx = G 131 this 9) (tx_s : S tx = 136) (f0 : Int) (f0_e : f0 = G 131 this 1) (wanted_a : (-2147483648) ≤ wanted) (wanted_b : wanted ≤ 2147483647) (TT : Tp) (nn : Int) (sr : Rg) (rd : RdC TT nn sr G this tx) : Calls E mX6_sign [(2, this), (0, wanted)] S G 2 0 0 (fun r S' G' => S = S' ∧ (∃ G1, hw [(131, 1), (131, 2), (131, 5), (131, 6), (131, 7), (131, 8)] G G1 = G') ∧ ∃ z : Int, r = some (0, z) ∧ ∃ f1 : Int, f1 = G' 131 this 1 ∧ 0 ≤ z ∧ z ≤ 1 ∧ (f0 = 0 ∨ f1 ≠ 0) ∧ ((z = 1 ∧ f1 = 0) ∨ (z = 0 ∧ f1 ≠ 0)) ∧ RdC TT nn (pSg TT nn wanted sr) G' this tx) := by
  refine calls_by [(0, (2, this)), (1, (0, wanted))] rfl rfl (Nat.le_of_ble_eq_true rfl) (fun X hX => ?_)
  have hP := hPX6_sign
  refine r_peekI hX (tl_131 1 rfl (by decide)) hS (fun f0_o f0_oe f0_oa f0_ob => ?_)
  obtain rfl : f0 = f0_o := f0_e.trans f0_oe.symm
  have k1 := f0_e.trans (rq_flaw rd)
  refine r_ex hX hP 2 (pc' := 2) (st' := [(0, wanted), (2, this)]) (lo' := [(0, (2, this)), (1, (0, wanted))]) rfl ?_
  refine r_callV gd hX hP rfl cv_X6_95_131 hS (d' := 1) (mc' := 0) (ms' := 0) (as' := [(0, wanted)]) (st := []) (by first | decide | omega) (by first | decide | omega) (by first | decide | omega) rfl rfl (Nat.le_of_ble_eq_true rfl) (c_X6_expectR E S G this wanted hS tx tx_e tx_s f0 f0_e (by first | decide | omega) (by first | decide | omega) TT nn sr rd) ?_
  rintro _ _ _ ⟨rfl, ⟨G2, rfl⟩, z3, rfl, flh4, flh4e, (⟨rfl, f6, f7, f8⟩ | ⟨rfl, f9⟩), f5⟩
  · skip
    have k10 := congrArg (tkK TT nn) (pEx_0 TT nn wanted sr)
    have k11 := congrArg (tkV TT nn) (pEx_0 TT nn wanted sr)
    have k12 := congrArg (tkS TT nn) (pEx_0 TT nn wanted sr)
    have k13 := congrArg (tkE TT nn) (pEx_0 TT nn wanted sr)
    have k14 := rq_flaw f5
    have k14 := flh4e.trans k14
    refine r_peekI hX (tl_131 1 rfl (by decide)) hS (fun o15 o15e o15a o15b => ?_)
    obtain rfl : flh4 = o15 := flh4e.trans o15e.symm
    refine r_if_ne hX hP rfl (tgt := 10) rfl (by first | decide | omega) (by first | decide | omega) (fun c16 => ?_) (fun c16 => ?_)
    · skip
      refine r_ex hX hP 1 (pc' := 11) (st' := [(2, this)]) (lo' := [(0, (2, this)), (1, (0, wanted))]) rfl ?_
      refine r_callV gd hX hP rfl cv_X6_80_131 hS (d' := 1) (mc' := 0) (ms' := 0) (as' := []) (st := []) (by first | decide | omega) (by first | decide | omega) (by first | decide | omega) rfl rfl (Nat.le_of_ble_eq_true rfl) (c_X6_advanceR E S (hw [(131, 1), (131, 2)] G G2) this  hS tx tx_e tx_s TT nn (pEx TT nn wanted sr) f5) ?_
      rintro _ _ _ ⟨rfl, ⟨G17, rfl⟩, rfl, f18⟩
      have k19 := (show pAv TT nn (pEx TT nn wanted sr) 1 = (pEx TT nn wanted sr) 1 from rfl)
      refine r_ex hX hP 1 (pc' := 15) (st' := [(0, 1)]) (lo' := [(0, (2, this)), (1, (0, wanted))]) rfl ?_
      have hC20 : pAv TT nn (pEx TT nn wanted sr) = pSg TT nn wanted sr := by
        unfold pSg; (repeat (first | rw [if_pos (by first | decide | omega)] | rw [if_neg (by first | decide | omega)])); try rfl
      have hC201 : (pSg TT nn wanted sr) 1 = (pAv TT nn (pEx TT nn wanted sr)) 1 := congrFun hC20.symm 1
      exact r_retZ hX hP rfl rfl (by first | decide | omega) (by first | decide | omega) (by first | decide | omega) (by first | decide | omega) ⟨rfl, ⟨_, (hw_sub (hw_sub (hw_refl _ _) rfl) rfl).symm⟩, 1, rfl, flh4, flh4e, (by first | decide | omega), (by first | decide | omega), (by first | decide | omega), (by first | decide | omega), (rd_cast f18 hC20)⟩
    · skip
      exfalso; omega
  · skip
    have k21 := congrArg (tkK TT nn) (pEx_0 TT nn wanted sr)
    have k22 := congrArg (tkV TT nn) (pEx_0 TT nn wanted sr)
    have k23 := congrArg (tkS TT nn) (pEx_0 TT nn wanted sr)
    have k24 := congrArg (tkE TT nn) (pEx_0 TT nn wanted sr)
    have k25 := rq_flaw f5
    have k25 := flh4e.trans k25
    refine r_peekI hX (tl_131 1 rfl (by decide)) hS (fun o26 o26e o26a o26b => ?_)
    obtain rfl : flh4 = o26 := flh4e.trans o26e.symm
    refine r_if_ne hX hP rfl (tgt := 10) rfl (by first | decide | omega) (by first | decide | omega) (fun c27 => ?_) (fun c27 => ?_)
    · skip
      exfalso; omega
    · skip
      refine r_ex hX hP 1 (pc' := 9) (st' := [(0, 0)]) (lo' := [(0, (2, this)), (1, (0, wanted))]) rfl ?_
      have hC28 : pEx TT nn wanted sr = pSg TT nn wanted sr := by
        unfold pSg; (repeat (first | rw [if_pos (by first | decide | omega)] | rw [if_neg (by first | decide | omega)])); try rfl
      have hC281 : (pSg TT nn wanted sr) 1 = (pEx TT nn wanted sr) 1 := congrFun hC28.symm 1
      exact r_retZ hX hP rfl rfl (by first | decide | omega) (by first | decide | omega) (by first | decide | omega) (by first | decide | omega) ⟨rfl, ⟨_, (hw_sub (hw_refl _ _) rfl).symm⟩, 0, rfl, flh4, flh4e, (by first | decide | omega), (by first | decide | omega), (by first | decide | omega), (by first | decide | omega), (rd_cast f5 hC28)⟩
