set_option maxRecDepth 100000 in
set_option maxHeartbeats 4000000 in
theorem c_isPaperX (E : En) (S : Sg) (G : Gh) (paper : Int) (paper_a : (-2147483648) ≤ paper) (paper_b : paper ≤ 2147483647) : Calls E mX11_isPaper [(0, paper)] S G 1 0 0 (fun r S' G' => S = S' ∧ G = G' ∧ ∃ z : Int, r = some (0, z) ∧ ((z = 1 ∧ 0 ≤ paper ∧ paper ≤ 19) ∨ (z = 0 ∧ (paper < 0 ∨ 19 < paper)))) := by
  refine calls_by [(0, (0, paper))] rfl rfl (Nat.le_of_ble_eq_true rfl) (fun X hX => ?_)
  have hP := hPX11_isPaper
  refine r_ex hX hP 3 (pc' := 4) (st' := [(0, 19), (0, 0), (0, paper)]) (lo' := [(0, (0, paper))]) rfl ?_
  refine r_callS gd hX hP rfl cs_X11_103 (d' := 0) (mc' := 0) (ms' := 0) (as' := [(0, paper), (0, 0), (0, 19)]) (st := []) (by first | decide | omega) (by first | decide | omega) (by first | decide | omega) rfl rfl (Nat.le_of_ble_eq_true rfl) (c_X11_within E S G paper 0 19 (by first | decide | omega) (by first | decide | omega) (by first | decide | omega) (by first | decide | omega) (by first | decide | omega) (by first | decide | omega)) ?_
  rintro _ _ _ ⟨rfl, rfl, z1, rfl, (⟨rfl, f2, f3⟩ | ⟨rfl, f4⟩)⟩
  · skip
    exact r_retZ hX hP rfl rfl (by first | decide | omega) (by first | decide | omega) (by first | decide | omega) (by first | decide | omega) ⟨rfl, rfl, 1, rfl, (by first | decide | omega)⟩
  · skip
    exact r_retZ hX hP rfl rfl (by first | decide | omega) (by first | decide | omega) (by first | decide | omega) (by first | decide | omega) ⟨rfl, rfl, 0, rfl, (by first | decide | omega)⟩
set_option maxRecDepth 100000 in
set_option maxHeartbeats 4000000 in
theorem c_hasAccX (E : En) (S : Sg) (G : Gh) (this : Int) (account : Int) (hS : S this = 128) (ls_ : Int) (ls__e : ls_ = G 128 this 5) (ls__s : S ls_ = 130) (sz : Int) (sz_e : sz = G 130 ls_ 0) (account_a : (-2147483648) ≤ account) (account_b : account ≤ 2147483647) : Calls E mX11_hasAccount [(2, this), (0, account)] S G 1 0 0 (fun r S' G' => S = S' ∧ G = G' ∧ ∃ z : Int, r = some (0, z) ∧ ((z = 1 ∧ 0 ≤ account ∧ account + 1 ≤ sz) ∨ (z = 0 ∧ (account < 0 ∨ sz ≤ account)))) := by
  refine calls_by [(0, (2, this)), (1, (0, account))] rfl rfl (Nat.le_of_ble_eq_true rfl) (fun X hX => ?_)
  have hP := hPX11_hasAccount
  refine r_peekI hX (tl_130 0 rfl (by decide)) ls__s (fun sz_o sz_oe sz_oa sz_ob => ?_)
  obtain rfl : sz = sz_o := sz_e.trans sz_oe.symm
  refine r_ex hX hP 3 (pc' := 3) (st' := [(2, this), (0, 0), (0, account)]) (lo' := [(0, (2, this)), (1, (0, account))]) rfl ?_
  refine r_getKR hX hP rfl fl_X11_24_128 hS (x := ls_) ls__e ?_
  refine r_getKI hX hP rfl fl_X11_107_130 ls__s (x := sz) sz_e ?_
  refine r_ex hX hP 2 (pc' := 11) (st' := [(0, (sz - 1)), (0, 0), (0, account)]) (lo' := [(0, (2, this)), (1, (0, account))]) rfl ?_
  refine r_callS gd hX hP rfl cs_X11_103 (d' := 0) (mc' := 0) (ms' := 0) (as' := [(0, account), (0, 0), (0, (sz - 1))]) (st := []) (by first | decide | omega) (by first | decide | omega) (by first | decide | omega) rfl rfl (Nat.le_of_ble_eq_true rfl) (c_X11_within E S G account 0 (sz - 1) (by first | decide | omega) (by first | decide | omega) (by first | decide | omega) (by first | decide | omega) (by first | decide | omega) (by first | decide | omega)) ?_
  rintro _ _ _ ⟨rfl, rfl, z1, rfl, (⟨rfl, f2, f3⟩ | ⟨rfl, f4⟩)⟩
  · skip
    exact r_retZ hX hP rfl rfl (by first | decide | omega) (by first | decide | omega) (by first | decide | omega) (by first | decide | omega) ⟨rfl, rfl, 1, rfl, (by first | decide | omega)⟩
  · skip
    exact r_retZ hX hP rfl rfl (by first | decide | omega) (by first | decide | omega) (by first | decide | omega) (by first | decide | omega) ⟨rfl, rfl, 0, rfl, (by first | decide | omega)⟩
set_option maxRecDepth 100000 in
set_option maxHeartbeats 4000000 in
theorem c_hangX (E : En) (S : Sg) (G : Gh) (this : Int) (hand : Int) (lead : Int) (delay : Int) (hS : S this = 130) (cnt : Int) (cnt_e : cnt = G 130 this 0) (hand_a : (-1) ≤ hand) (hand_b : hand ≤ 19) (lead_a : (-2147483648) ≤ lead) (lead_b : lead ≤ 2147483647) (delay_a : (-2147483648) ≤ delay) (delay_b : delay ≤ 2147483647) (pre0 : cnt ≤ 19) : Calls E mX0_hang [(2, this), (0, hand), (0, lead), (0, delay)] S G 0 0 0 (fun r S' G' => S = S' ∧ (∃ G1, hw [(93, -1), (94, -1), (130, 0)] G G1 = G') ∧ ∃ z : Int, r = some (0, z) ∧ ∃ c2 : Int, c2 = G' 130 this 0 ∧ 0 ≤ z ∧ z ≤ 19 ∧ z = cnt ∧ c2 = cnt + 1) := by
  refine calls_by [(0, (2, this)), (1, (0, hand)), (2, (0, lead)), (3, (0, delay))] rfl rfl (Nat.le_of_ble_eq_true rfl) (fun X hX => ?_)
  have hP := hPX0_hang
  refine r_peekI hX (tl_130 0 rfl (by decide)) hS (fun cnt_o cnt_oe cnt_oa cnt_ob => ?_)
  obtain rfl : cnt = cnt_o := cnt_e.trans cnt_oe.symm
  refine r_ex hX hP 1 (pc' := 1) (st' := [(2, this)]) (lo' := [(0, (2, this)), (1, (0, hand)), (2, (0, lead)), (3, (0, delay))]) rfl ?_
  refine r_getKI hX hP rfl fl_X0_66_130 hS (x := cnt) cnt_e ?_
  refine r_ex hX hP 3 (pc' := 8) (st' := [(0, (-1)), (0, hand)]) (lo' := [(0, (2, this)), (1, (0, hand)), (2, (0, lead)), (3, (0, delay)), (4, (0, cnt))]) rfl ?_
  refine r_ic_ne hX hP rfl (tgt := 15) rfl (by first | decide | omega) (by first | decide | omega) (by first | decide | omega) (by first | decide | omega) (fun c1 => ?_) (fun c1 => ?_)
  · skip
    refine r_ex hX hP 3 (pc' := 19) (st' := [(2, this)]) (lo' := [(0, (2, this)), (1, (0, hand)), (2, (0, lead)), (3, (0, delay)), (4, (0, cnt)), (5, (0, 0))]) rfl ?_
    refine r_getR hX hP rfl fl_X0_9_130 hS (fun uf2 uf2e uf2s => ?_)
    refine r_ex hX hP 2 (pc' := 25) (st' := [(0, hand), (0, cnt), (2, uf2)]) (lo' := [(0, (2, this)), (1, (0, hand)), (2, (0, lead)), (3, (0, delay)), (4, (0, cnt)), (5, (0, 0))]) rfl ?_
    refine r_iastK hX hP rfl al_93 uf2s (by first | decide | omega) (by first | decide | omega) (by first | decide | omega) (by first | decide | omega) (fun h3 => ?_)
    refine r_ex hX hP 1 (pc' := 27) (st' := [(2, this)]) (lo' := [(0, (2, this)), (1, (0, hand)), (2, (0, lead)), (3, (0, delay)), (4, (0, cnt)), (5, (0, 0))]) rfl ?_
    refine r_getR hX hP rfl fl_X0_15_130 hS (fun lf4 lf4e lf4s => ?_)
    refine r_ex hX hP 2 (pc' := 33) (st' := [(0, lead), (0, cnt), (2, lf4)]) (lo' := [(0, (2, this)), (1, (0, hand)), (2, (0, lead)), (3, (0, delay)), (4, (0, cnt)), (5, (0, 0))]) rfl ?_
    refine r_iastK hX hP rfl al_94 lf4s (by first | decide | omega) (by first | decide | omega) (by first | decide | omega) (by first | decide | omega) (fun h5 => ?_)
    refine r_ex hX hP 1 (pc' := 35) (st' := [(2, this)]) (lo' := [(0, (2, this)), (1, (0, hand)), (2, (0, lead)), (3, (0, delay)), (4, (0, cnt)), (5, (0, 0))]) rfl ?_
    refine r_getR hX hP rfl fl_X0_18_130 hS (fun df6 df6e df6s => ?_)
    refine r_ex hX hP 2 (pc' := 41) (st' := [(0, delay), (0, cnt), (2, df6)]) (lo' := [(0, (2, this)), (1, (0, hand)), (2, (0, lead)), (3, (0, delay)), (4, (0, cnt)), (5, (0, 0))]) rfl ?_
    refine r_iastK hX hP rfl al_94 df6s (by first | decide | omega) (by first | decide | omega) (by first | decide | omega) (by first | decide | omega) (fun h7 => ?_)
    refine r_ex hX hP 1 (pc' := 43) (st' := [(2, this)]) (lo' := [(0, (2, this)), (1, (0, hand)), (2, (0, lead)), (3, (0, delay)), (4, (0, cnt)), (5, (0, 0))]) rfl ?_
    refine r_getR hX hP rfl fl_X0_21_130 hS (fun tf8 tf8e tf8s => ?_)
    refine r_ex hX hP 2 (pc' := 50) (st' := [(0, 0), (0, cnt), (2, tf8)]) (lo' := [(0, (2, this)), (1, (0, hand)), (2, (0, lead)), (3, (0, delay)), (4, (0, cnt)), (5, (0, 0))]) rfl ?_
    refine r_if_eq hX hP rfl (tgt := 58) rfl (by first | decide | omega) (by first | decide | omega) (fun c9 => ?_) (fun c9 => ?_)
    · skip
      refine r_ex hX hP 1 (pc' := 59) (st' := [(2, this), (0, cnt), (2, tf8)]) (lo' := [(0, (2, this)), (1, (0, hand)), (2, (0, lead)), (3, (0, delay)), (4, (0, cnt)), (5, (0, 0))]) rfl ?_
      refine r_getKR hX hP rfl fl_X0_21_130 hS (x := tf8) tf8e ?_
      refine r_ex hX hP 1 (pc' := 63) (st' := [(0, hand), (2, tf8), (0, cnt), (2, tf8)]) (lo' := [(0, (2, this)), (1, (0, hand)), (2, (0, lead)), (3, (0, delay)), (4, (0, cnt)), (5, (0, 0))]) rfl ?_
      refine r_iald hX hP rfl al_94 tf8s (by first | decide | omega) (by first | decide | omega) (fun x10 x10e x10a x10b => ?_)
      refine r_iastK hX hP rfl al_94 tf8s (by first | decide | omega) (by first | decide | omega) (by first | decide | omega) (by first | decide | omega) (fun h11 => ?_)
      refine r_ex hX hP 1 (pc' := 66) (st' := [(2, this)]) (lo' := [(0, (2, this)), (1, (0, hand)), (2, (0, lead)), (3, (0, delay)), (4, (0, cnt)), (5, (0, 0))]) rfl ?_
      refine r_getR hX hP rfl fl_X0_24_130 hS (fun lf12 lf12e lf12s => ?_)
      refine r_ex hX hP 3 (pc' := 74) (st' := [(0, 0), (0, lead), (0, cnt), (2, lf12)]) (lo' := [(0, (2, this)), (1, (0, hand)), (2, (0, lead)), (3, (0, delay)), (4, (0, cnt)), (5, (0, 0))]) rfl ?_
      refine r_if_eq hX hP rfl (tgt := 81) rfl (by first | decide | omega) (by first | decide | omega) (fun c13 => ?_) (fun c13 => ?_)
      · skip
        refine r_ex hX hP 1 (pc' := 82) (st' := [(2, this), (0, lead), (0, cnt), (2, lf12)]) (lo' := [(0, (2, this)), (1, (0, hand)), (2, (0, lead)), (3, (0, delay)), (4, (0, cnt)), (5, (0, 0))]) rfl ?_
        refine r_getKR hX hP rfl fl_X0_24_130 hS (x := lf12) lf12e ?_
        refine r_ex hX hP 1 (pc' := 86) (st' := [(0, hand), (2, lf12), (0, lead), (0, cnt), (2, lf12)]) (lo' := [(0, (2, this)), (1, (0, hand)), (2, (0, lead)), (3, (0, delay)), (4, (0, cnt)), (5, (0, 0))]) rfl ?_
        refine r_iald hX hP rfl al_94 lf12s (by first | decide | omega) (by first | decide | omega) (fun x14 x14e x14a x14b => ?_)
        refine r_ex hX hP 1 (pc' := 88) (st' := [(0, (lead + x14)), (0, cnt), (2, lf12)]) (lo' := [(0, (2, this)), (1, (0, hand)), (2, (0, lead)), (3, (0, delay)), (4, (0, cnt)), (5, (0, 0))]) rfl ?_
        refine r_hvI hX (fun w15 w15a w15b w15e => ?_)
        refine r_iastK hX hP rfl al_94 lf12s (by first | decide | omega) (by first | decide | omega) (by first | decide | omega) (by first | decide | omega) (fun h16 => ?_)
        refine r_ex hX hP 1 (pc' := 90) (st' := [(2, this)]) (lo' := [(0, (2, this)), (1, (0, hand)), (2, (0, lead)), (3, (0, delay)), (4, (0, cnt)), (5, (0, 0))]) rfl ?_
        refine r_getR hX hP rfl fl_X0_27_130 hS (fun df17 df17e df17s => ?_)
        refine r_ex hX hP 3 (pc' := 98) (st' := [(0, 0), (0, delay), (0, cnt), (2, df17)]) (lo' := [(0, (2, this)), (1, (0, hand)), (2, (0, lead)), (3, (0, delay)), (4, (0, cnt)), (5, (0, 0))]) rfl ?_
        refine r_if_eq hX hP rfl (tgt := 105) rfl (by first | decide | omega) (by first | decide | omega) (fun c18 => ?_) (fun c18 => ?_)
        · skip
          refine r_ex hX hP 1 (pc' := 106) (st' := [(2, this), (0, delay), (0, cnt), (2, df17)]) (lo' := [(0, (2, this)), (1, (0, hand)), (2, (0, lead)), (3, (0, delay)), (4, (0, cnt)), (5, (0, 0))]) rfl ?_
          refine r_getKR hX hP rfl fl_X0_27_130 hS (x := df17) df17e ?_
          refine r_ex hX hP 1 (pc' := 110) (st' := [(0, hand), (2, df17), (0, delay), (0, cnt), (2, df17)]) (lo' := [(0, (2, this)), (1, (0, hand)), (2, (0, lead)), (3, (0, delay)), (4, (0, cnt)), (5, (0, 0))]) rfl ?_
          refine r_iald hX hP rfl al_94 df17s (by first | decide | omega) (by first | decide | omega) (fun x19 x19e x19a x19b => ?_)
          refine r_ex hX hP 1 (pc' := 112) (st' := [(0, (delay + x19)), (0, cnt), (2, df17)]) (lo' := [(0, (2, this)), (1, (0, hand)), (2, (0, lead)), (3, (0, delay)), (4, (0, cnt)), (5, (0, 0))]) rfl ?_
          refine r_hvI hX (fun w20 w20a w20b w20e => ?_)
          refine r_iastK hX hP rfl al_94 df17s (by first | decide | omega) (by first | decide | omega) (by first | decide | omega) (by first | decide | omega) (fun h21 => ?_)
          refine r_ex hX hP 1 (pc' := 114) (st' := [(2, this)]) (lo' := [(0, (2, this)), (1, (0, hand)), (2, (0, lead)), (3, (0, delay)), (4, (0, cnt)), (5, (0, 0))]) rfl ?_
          refine r_getR hX hP rfl fl_X0_30_130 hS (fun ff22 ff22e ff22s => ?_)
          refine r_ex hX hP 2 (pc' := 120) (st' := [(0, (-1)), (0, cnt), (2, ff22)]) (lo' := [(0, (2, this)), (1, (0, hand)), (2, (0, lead)), (3, (0, delay)), (4, (0, cnt)), (5, (0, 0))]) rfl ?_
          refine r_iastK hX hP rfl al_93 ff22s (by first | decide | omega) (by first | decide | omega) (by first | decide | omega) (by first | decide | omega) (fun h23 => ?_)
          refine r_ex hX hP 1 (pc' := 122) (st' := [(2, this)]) (lo' := [(0, (2, this)), (1, (0, hand)), (2, (0, lead)), (3, (0, delay)), (4, (0, cnt)), (5, (0, 0))]) rfl ?_
          refine r_getR hX hP rfl fl_X0_33_130 hS (fun lf24 lf24e lf24s => ?_)
          refine r_ex hX hP 2 (pc' := 128) (st' := [(0, (-1)), (0, cnt), (2, lf24)]) (lo' := [(0, (2, this)), (1, (0, hand)), (2, (0, lead)), (3, (0, delay)), (4, (0, cnt)), (5, (0, 0))]) rfl ?_
          refine r_iastK hX hP rfl al_93 lf24s (by first | decide | omega) (by first | decide | omega) (by first | decide | omega) (by first | decide | omega) (fun h25 => ?_)
          refine r_ex hX hP 1 (pc' := 130) (st' := [(2, this)]) (lo' := [(0, (2, this)), (1, (0, hand)), (2, (0, lead)), (3, (0, delay)), (4, (0, cnt)), (5, (0, 0))]) rfl ?_
          refine r_getR hX hP rfl fl_X0_36_130 hS (fun nf26 nf26e nf26s => ?_)
          refine r_ex hX hP 2 (pc' := 136) (st' := [(0, (-1)), (0, cnt), (2, nf26)]) (lo' := [(0, (2, this)), (1, (0, hand)), (2, (0, lead)), (3, (0, delay)), (4, (0, cnt)), (5, (0, 0))]) rfl ?_
          refine r_iastK hX hP rfl al_93 nf26s (by first | decide | omega) (by first | decide | omega) (by first | decide | omega) (by first | decide | omega) (fun h27 => ?_)
          refine r_ex hX hP 1 (pc' := 139) (st' := [(0, 0)]) (lo' := [(0, (2, this)), (1, (0, hand)), (2, (0, lead)), (3, (0, delay)), (4, (0, cnt)), (5, (0, 0))]) rfl ?_
          refine r_if_ne hX hP rfl (tgt := 184) rfl (by first | decide | omega) (by first | decide | omega) (fun c28 => ?_) (fun c28 => ?_)
          · skip
            exfalso; omega
          · skip
            refine r_ex hX hP 1 (pc' := 143) (st' := [(2, this)]) (lo' := [(0, (2, this)), (1, (0, hand)), (2, (0, lead)), (3, (0, delay)), (4, (0, cnt)), (5, (0, 0))]) rfl ?_
            refine r_getKR hX hP rfl fl_X0_33_130 hS (x := lf24) lf24e ?_
            refine r_ex hX hP 1 (pc' := 147) (st' := [(0, hand), (2, lf24)]) (lo' := [(0, (2, this)), (1, (0, hand)), (2, (0, lead)), (3, (0, delay)), (4, (0, cnt)), (5, (0, 0))]) rfl ?_
            refine r_iald hX hP rfl al_93 lf24s (by first | decide | omega) (by first | decide | omega) (fun x29 x29e x29a x29b => ?_)
            refine r_ex hX hP 1 (pc' := 149) (st' := [(0, (-1)), (0, x29)]) (lo' := [(0, (2, this)), (1, (0, hand)), (2, (0, lead)), (3, (0, delay)), (4, (0, cnt)), (5, (0, 0))]) rfl ?_
            refine r_ic_ne hX hP rfl (tgt := 163) rfl (by first | decide | omega) (by first | decide | omega) (by first | decide | omega) (by first | decide | omega) (fun c30 => ?_) (fun c30 => ?_)
            · skip
              refine r_ex hX hP 1 (pc' := 164) (st' := [(2, this)]) (lo' := [(0, (2, this)), (1, (0, hand)), (2, (0, lead)), (3, (0, delay)), (4, (0, cnt)), (5, (0, 0))]) rfl ?_
              refine r_getKR hX hP rfl fl_X0_36_130 hS (x := nf26) nf26e ?_
              refine r_ex hX hP 1 (pc' := 168) (st' := [(2, this), (2, nf26)]) (lo' := [(0, (2, this)), (1, (0, hand)), (2, (0, lead)), (3, (0, delay)), (4, (0, cnt)), (5, (0, 0))]) rfl ?_
              refine r_getKR hX hP rfl fl_X0_33_130 hS (x := lf24) lf24e ?_
              refine r_ex hX hP 1 (pc' := 172) (st' := [(0, hand), (2, lf24), (2, nf26)]) (lo' := [(0, (2, this)), (1, (0, hand)), (2, (0, lead)), (3, (0, delay)), (4, (0, cnt)), (5, (0, 0))]) rfl ?_
              refine r_ialdK hX hP rfl al_93 lf24s (by first | decide | omega) (by first | decide | omega) (x := x29) x29e ?_
              refine r_ex hX hP 1 (pc' := 175) (st' := [(0, cnt), (0, x29), (2, nf26)]) (lo' := [(0, (2, this)), (1, (0, hand)), (2, (0, lead)), (3, (0, delay)), (4, (0, cnt)), (5, (0, 0))]) rfl ?_
              refine r_iastK hX hP rfl al_93 nf26s (by first | decide | omega) (by first | decide | omega) (by first | decide | omega) (by first | decide | omega) (fun h31 => ?_)
              refine r_ex hX hP 1 (pc' := 177) (st' := [(2, this)]) (lo' := [(0, (2, this)), (1, (0, hand)), (2, (0, lead)), (3, (0, delay)), (4, (0, cnt)), (5, (0, 0))]) rfl ?_
              refine r_getKR hX hP rfl fl_X0_33_130 hS (x := lf24) lf24e ?_
              refine r_ex hX hP 2 (pc' := 183) (st' := [(0, cnt), (0, hand), (2, lf24)]) (lo' := [(0, (2, this)), (1, (0, hand)), (2, (0, lead)), (3, (0, delay)), (4, (0, cnt)), (5, (0, 0))]) rfl ?_
              refine r_iastK hX hP rfl al_93 lf24s (by first | decide | omega) (by first | decide | omega) (by first | decide | omega) (by first | decide | omega) (fun h32 => ?_)
              refine r_ex hX hP 2 (pc' := 186) (st' := [(2, this), (2, this)]) (lo' := [(0, (2, this)), (1, (0, hand)), (2, (0, lead)), (3, (0, delay)), (4, (0, cnt)), (5, (0, 0))]) rfl ?_
              refine r_getKI hX hP rfl fl_X0_66_130 hS (x := cnt) cnt_e ?_
              refine r_ex hX hP 2 (pc' := 191) (st' := [(0, (cnt + 1)), (2, this)]) (lo' := [(0, (2, this)), (1, (0, hand)), (2, (0, lead)), (3, (0, delay)), (4, (0, cnt)), (5, (0, 0))]) rfl ?_
              refine r_putIK hX hP rfl fp_X0_66_130 hS (by first | decide | omega) (by first | decide | omega) (fun h33 => ?_)
              refine r_ex hX hP 1 (pc' := 196) (st' := [(0, cnt)]) (lo' := [(0, (2, this)), (1, (0, hand)), (2, (0, lead)), (3, (0, delay)), (4, (0, cnt)), (5, (0, 0))]) rfl ?_
              exact r_retI hX hP rfl rfl (by first | decide | omega) (by first | decide | omega) ⟨rfl, ⟨_, (hw_up (hw_up (hw_up (hw_up (hw_up (hw_up (hw_up (hw_up (hw_up (hw_up (hw_up (hw_up (hw_refl _ _) rfl) rfl) rfl) rfl) rfl) rfl) rfl) rfl) rfl) rfl) rfl) rfl).symm⟩, cnt, rfl, (cnt + 1), h33, (by first | decide | omega), (by first | decide | omega), (by first | decide | omega), (by first | decide | omega)⟩
            · skip
              refine r_ex hX hP 1 (pc' := 153) (st' := [(2, this)]) (lo' := [(0, (2, this)), (1, (0, hand)), (2, (0, lead)), (3, (0, delay)), (4, (0, cnt)), (5, (0, 0))]) rfl ?_
              refine r_getKR hX hP rfl fl_X0_30_130 hS (x := ff22) ff22e ?_
              refine r_ex hX hP 2 (pc' := 159) (st' := [(0, cnt), (0, hand), (2, ff22)]) (lo' := [(0, (2, this)), (1, (0, hand)), (2, (0, lead)), (3, (0, delay)), (4, (0, cnt)), (5, (0, 0))]) rfl ?_
              refine r_iastK hX hP rfl al_93 ff22s (by first | decide | omega) (by first | decide | omega) (by first | decide | omega) (by first | decide | omega) (fun h34 => ?_)
              refine r_ex hX hP 2 (pc' := 177) (st' := [(2, this)]) (lo' := [(0, (2, this)), (1, (0, hand)), (2, (0, lead)), (3, (0, delay)), (4, (0, cnt)), (5, (0, 0))]) rfl ?_
              refine r_getKR hX hP rfl fl_X0_33_130 hS (x := lf24) lf24e ?_
              refine r_ex hX hP 2 (pc' := 183) (st' := [(0, cnt), (0, hand), (2, lf24)]) (lo' := [(0, (2, this)), (1, (0, hand)), (2, (0, lead)), (3, (0, delay)), (4, (0, cnt)), (5, (0, 0))]) rfl ?_
              refine r_iastK hX hP rfl al_93 lf24s (by first | decide | omega) (by first | decide | omega) (by first | decide | omega) (by first | decide | omega) (fun h35 => ?_)
              refine r_ex hX hP 2 (pc' := 186) (st' := [(2, this), (2, this)]) (lo' := [(0, (2, this)), (1, (0, hand)), (2, (0, lead)), (3, (0, delay)), (4, (0, cnt)), (5, (0, 0))]) rfl ?_
              refine r_getKI hX hP rfl fl_X0_66_130 hS (x := cnt) cnt_e ?_
              refine r_ex hX hP 2 (pc' := 191) (st' := [(0, (cnt + 1)), (2, this)]) (lo' := [(0, (2, this)), (1, (0, hand)), (2, (0, lead)), (3, (0, delay)), (4, (0, cnt)), (5, (0, 0))]) rfl ?_
              refine r_putIK hX hP rfl fp_X0_66_130 hS (by first | decide | omega) (by first | decide | omega) (fun h36 => ?_)
              refine r_ex hX hP 1 (pc' := 196) (st' := [(0, cnt)]) (lo' := [(0, (2, this)), (1, (0, hand)), (2, (0, lead)), (3, (0, delay)), (4, (0, cnt)), (5, (0, 0))]) rfl ?_
              exact r_retI hX hP rfl rfl (by first | decide | omega) (by first | decide | omega) ⟨rfl, ⟨_, (hw_up (hw_up (hw_up (hw_up (hw_up (hw_up (hw_up (hw_up (hw_up (hw_up (hw_up (hw_up (hw_refl _ _) rfl) rfl) rfl) rfl) rfl) rfl) rfl) rfl) rfl) rfl) rfl) rfl).symm⟩, cnt, rfl, (cnt + 1), h36, (by first | decide | omega), (by first | decide | omega), (by first | decide | omega), (by first | decide | omega)⟩
        · skip
          exfalso; omega
      · skip
        exfalso; omega
    · skip
      exfalso; omega
  · skip
    refine r_ex hX hP 4 (pc' := 19) (st' := [(2, this)]) (lo' := [(0, (2, this)), (1, (0, hand)), (2, (0, lead)), (3, (0, delay)), (4, (0, cnt)), (5, (0, 1))]) rfl ?_
    refine r_getR hX hP rfl fl_X0_9_130 hS (fun uf37 uf37e uf37s => ?_)
    refine r_ex hX hP 2 (pc' := 25) (st' := [(0, hand), (0, cnt), (2, uf37)]) (lo' := [(0, (2, this)), (1, (0, hand)), (2, (0, lead)), (3, (0, delay)), (4, (0, cnt)), (5, (0, 1))]) rfl ?_
    refine r_iastK hX hP rfl al_93 uf37s (by first | decide | omega) (by first | decide | omega) (by first | decide | omega) (by first | decide | omega) (fun h38 => ?_)
    refine r_ex hX hP 1 (pc' := 27) (st' := [(2, this)]) (lo' := [(0, (2, this)), (1, (0, hand)), (2, (0, lead)), (3, (0, delay)), (4, (0, cnt)), (5, (0, 1))]) rfl ?_
    refine r_getR hX hP rfl fl_X0_15_130 hS (fun lf39 lf39e lf39s => ?_)
    refine r_ex hX hP 2 (pc' := 33) (st' := [(0, lead), (0, cnt), (2, lf39)]) (lo' := [(0, (2, this)), (1, (0, hand)), (2, (0, lead)), (3, (0, delay)), (4, (0, cnt)), (5, (0, 1))]) rfl ?_
    refine r_iastK hX hP rfl al_94 lf39s (by first | decide | omega) (by first | decide | omega) (by first | decide | omega) (by first | decide | omega) (fun h40 => ?_)
    refine r_ex hX hP 1 (pc' := 35) (st' := [(2, this)]) (lo' := [(0, (2, this)), (1, (0, hand)), (2, (0, lead)), (3, (0, delay)), (4, (0, cnt)), (5, (0, 1))]) rfl ?_
    refine r_getR hX hP rfl fl_X0_18_130 hS (fun df41 df41e df41s => ?_)
    refine r_ex hX hP 2 (pc' := 41) (st' := [(0, delay), (0, cnt), (2, df41)]) (lo' := [(0, (2, this)), (1, (0, hand)), (2, (0, lead)), (3, (0, delay)), (4, (0, cnt)), (5, (0, 1))]) rfl ?_
    refine r_iastK hX hP rfl al_94 df41s (by first | decide | omega) (by first | decide | omega) (by first | decide | omega) (by first | decide | omega) (fun h42 => ?_)
    refine r_ex hX hP 1 (pc' := 43) (st' := [(2, this)]) (lo' := [(0, (2, this)), (1, (0, hand)), (2, (0, lead)), (3, (0, delay)), (4, (0, cnt)), (5, (0, 1))]) rfl ?_
    refine r_getR hX hP rfl fl_X0_21_130 hS (fun tf43 tf43e tf43s => ?_)
    refine r_ex hX hP 2 (pc' := 50) (st' := [(0, 1), (0, cnt), (2, tf43)]) (lo' := [(0, (2, this)), (1, (0, hand)), (2, (0, lead)), (3, (0, delay)), (4, (0, cnt)), (5, (0, 1))]) rfl ?_
    refine r_if_eq hX hP rfl (tgt := 58) rfl (by first | decide | omega) (by first | decide | omega) (fun c44 => ?_) (fun c44 => ?_)
    · skip
      exfalso; omega
    · skip
      refine r_ex hX hP 2 (pc' := 64) (st' := [(0, cnt), (0, cnt), (2, tf43)]) (lo' := [(0, (2, this)), (1, (0, hand)), (2, (0, lead)), (3, (0, delay)), (4, (0, cnt)), (5, (0, 1))]) rfl ?_
      refine r_iastK hX hP rfl al_94 tf43s (by first | decide | omega) (by first | decide | omega) (by first | decide | omega) (by first | decide | omega) (fun h45 => ?_)
      refine r_ex hX hP 1 (pc' := 66) (st' := [(2, this)]) (lo' := [(0, (2, this)), (1, (0, hand)), (2, (0, lead)), (3, (0, delay)), (4, (0, cnt)), (5, (0, 1))]) rfl ?_
      refine r_getR hX hP rfl fl_X0_24_130 hS (fun lf46 lf46e lf46s => ?_)
      refine r_ex hX hP 3 (pc' := 74) (st' := [(0, 1), (0, lead), (0, cnt), (2, lf46)]) (lo' := [(0, (2, this)), (1, (0, hand)), (2, (0, lead)), (3, (0, delay)), (4, (0, cnt)), (5, (0, 1))]) rfl ?_
      refine r_if_eq hX hP rfl (tgt := 81) rfl (by first | decide | omega) (by first | decide | omega) (fun c47 => ?_) (fun c47 => ?_)
      · skip
        exfalso; omega
      · skip
        refine r_ex hX hP 3 (pc' := 88) (st' := [(0, (lead + 0)), (0, cnt), (2, lf46)]) (lo' := [(0, (2, this)), (1, (0, hand)), (2, (0, lead)), (3, (0, delay)), (4, (0, cnt)), (5, (0, 1))]) rfl ?_
        refine r_iastK hX hP rfl al_94 lf46s (by first | decide | omega) (by first | decide | omega) (by first | decide | omega) (by first | decide | omega) (fun h48 => ?_)
        refine r_ex hX hP 1 (pc' := 90) (st' := [(2, this)]) (lo' := [(0, (2, this)), (1, (0, hand)), (2, (0, lead)), (3, (0, delay)), (4, (0, cnt)), (5, (0, 1))]) rfl ?_
        refine r_getR hX hP rfl fl_X0_27_130 hS (fun df49 df49e df49s => ?_)
        refine r_ex hX hP 3 (pc' := 98) (st' := [(0, 1), (0, delay), (0, cnt), (2, df49)]) (lo' := [(0, (2, this)), (1, (0, hand)), (2, (0, lead)), (3, (0, delay)), (4, (0, cnt)), (5, (0, 1))]) rfl ?_
        refine r_if_eq hX hP rfl (tgt := 105) rfl (by first | decide | omega) (by first | decide | omega) (fun c50 => ?_) (fun c50 => ?_)
        · skip
          exfalso; omega
        · skip
          refine r_ex hX hP 3 (pc' := 112) (st' := [(0, (delay + 0)), (0, cnt), (2, df49)]) (lo' := [(0, (2, this)), (1, (0, hand)), (2, (0, lead)), (3, (0, delay)), (4, (0, cnt)), (5, (0, 1))]) rfl ?_
          refine r_iastK hX hP rfl al_94 df49s (by first | decide | omega) (by first | decide | omega) (by first | decide | omega) (by first | decide | omega) (fun h51 => ?_)
          refine r_ex hX hP 1 (pc' := 114) (st' := [(2, this)]) (lo' := [(0, (2, this)), (1, (0, hand)), (2, (0, lead)), (3, (0, delay)), (4, (0, cnt)), (5, (0, 1))]) rfl ?_
          refine r_getR hX hP rfl fl_X0_30_130 hS (fun ff52 ff52e ff52s => ?_)
          refine r_ex hX hP 2 (pc' := 120) (st' := [(0, (-1)), (0, cnt), (2, ff52)]) (lo' := [(0, (2, this)), (1, (0, hand)), (2, (0, lead)), (3, (0, delay)), (4, (0, cnt)), (5, (0, 1))]) rfl ?_
          refine r_iastK hX hP rfl al_93 ff52s (by first | decide | omega) (by first | decide | omega) (by first | decide | omega) (by first | decide | omega) (fun h53 => ?_)
          refine r_ex hX hP 1 (pc' := 122) (st' := [(2, this)]) (lo' := [(0, (2, this)), (1, (0, hand)), (2, (0, lead)), (3, (0, delay)), (4, (0, cnt)), (5, (0, 1))]) rfl ?_
          refine r_getR hX hP rfl fl_X0_33_130 hS (fun lf54 lf54e lf54s => ?_)
          refine r_ex hX hP 2 (pc' := 128) (st' := [(0, (-1)), (0, cnt), (2, lf54)]) (lo' := [(0, (2, this)), (1, (0, hand)), (2, (0, lead)), (3, (0, delay)), (4, (0, cnt)), (5, (0, 1))]) rfl ?_
          refine r_iastK hX hP rfl al_93 lf54s (by first | decide | omega) (by first | decide | omega) (by first | decide | omega) (by first | decide | omega) (fun h55 => ?_)
          refine r_ex hX hP 1 (pc' := 130) (st' := [(2, this)]) (lo' := [(0, (2, this)), (1, (0, hand)), (2, (0, lead)), (3, (0, delay)), (4, (0, cnt)), (5, (0, 1))]) rfl ?_
          refine r_getR hX hP rfl fl_X0_36_130 hS (fun nf56 nf56e nf56s => ?_)
          refine r_ex hX hP 2 (pc' := 136) (st' := [(0, (-1)), (0, cnt), (2, nf56)]) (lo' := [(0, (2, this)), (1, (0, hand)), (2, (0, lead)), (3, (0, delay)), (4, (0, cnt)), (5, (0, 1))]) rfl ?_
          refine r_iastK hX hP rfl al_93 nf56s (by first | decide | omega) (by first | decide | omega) (by first | decide | omega) (by first | decide | omega) (fun h57 => ?_)
          refine r_ex hX hP 1 (pc' := 139) (st' := [(0, 1)]) (lo' := [(0, (2, this)), (1, (0, hand)), (2, (0, lead)), (3, (0, delay)), (4, (0, cnt)), (5, (0, 1))]) rfl ?_
          refine r_if_ne hX hP rfl (tgt := 184) rfl (by first | decide | omega) (by first | decide | omega) (fun c58 => ?_) (fun c58 => ?_)
          · skip
            refine r_ex hX hP 2 (pc' := 186) (st' := [(2, this), (2, this)]) (lo' := [(0, (2, this)), (1, (0, hand)), (2, (0, lead)), (3, (0, delay)), (4, (0, cnt)), (5, (0, 1))]) rfl ?_
            refine r_getKI hX hP rfl fl_X0_66_130 hS (x := cnt) cnt_e ?_
            refine r_ex hX hP 2 (pc' := 191) (st' := [(0, (cnt + 1)), (2, this)]) (lo' := [(0, (2, this)), (1, (0, hand)), (2, (0, lead)), (3, (0, delay)), (4, (0, cnt)), (5, (0, 1))]) rfl ?_
            refine r_putIK hX hP rfl fp_X0_66_130 hS (by first | decide | omega) (by first | decide | omega) (fun h59 => ?_)
            refine r_ex hX hP 1 (pc' := 196) (st' := [(0, cnt)]) (lo' := [(0, (2, this)), (1, (0, hand)), (2, (0, lead)), (3, (0, delay)), (4, (0, cnt)), (5, (0, 1))]) rfl ?_
            exact r_retI hX hP rfl rfl (by first | decide | omega) (by first | decide | omega) ⟨rfl, ⟨_, (hw_up (hw_up (hw_up (hw_up (hw_up (hw_up (hw_up (hw_up (hw_up (hw_up (hw_refl _ _) rfl) rfl) rfl) rfl) rfl) rfl) rfl) rfl) rfl) rfl).symm⟩, cnt, rfl, (cnt + 1), h59, (by first | decide | omega), (by first | decide | omega), (by first | decide | omega), (by first | decide | omega)⟩
          · skip
            exfalso; omega
set_option maxRecDepth 100000 in
set_option maxHeartbeats 4000000 in
theorem c_accountX (E : En) (S : Sg) (G : Gh) (this : Int) (under : Int) (lead : Int) (delay : Int) (hS : S this = 128) (acc : Int) (acc_e : acc = G 128 this 5) (acc_s : S acc = 130) (cnt : Int) (cnt_e : cnt = G 130 acc 0) (under_a : (-2147483648) ≤ under) (under_b : under ≤ 2147483647) (lead_a : (-2147483648) ≤ lead) (lead_b : lead ≤ 2147483647) (delay_a : (-2147483648) ≤ delay) (delay_b : delay ≤ 2147483647) (ci : CI E S G) : Calls E mX11_account [(2, this), (0, under), (0, lead), (0, delay)] S G 2 0 0 (fun r S' G' => S = S' ∧ (∃ G1, hw [(93, -1), (94, -1), (128, 0), (129, 1), (130, 0)] G G1 = G') ∧ ∃ z : Int, r = some (0, z) ∧ ∃ c2 : Int, c2 = G' 130 acc 0 ∧ ((z = (-1) ∧ c2 = cnt ∧ ((under ≠ -1 ∧ (under < 0 ∨ cnt ≤ under)) ∨ lead < 0 ∨ 30 < lead ∨ delay < 0 ∨ 30 < delay ∨ 20 ≤ cnt)) ∨ (0 ≤ z ∧ z ≤ 19 ∧ z = cnt ∧ c2 = cnt + 1 ∧ (under = -1 ∨ (0 ≤ under ∧ under + 1 ≤ cnt)) ∧ 0 ≤ lead ∧ lead ≤ 30 ∧ 0 ≤ delay ∧ delay ≤ 30 ∧ cnt + 1 ≤ 20))) := by
  refine calls_by [(0, (2, this)), (1, (0, under)), (2, (0, lead)), (3, (0, delay))] rfl rfl (Nat.le_of_ble_eq_true rfl) (fun X hX => ?_)
  have hP := hPX11_account
  refine r_peekI hX (tl_130 0 rfl (by decide)) acc_s (fun cnt_o cnt_oe cnt_oa cnt_ob => ?_)
  obtain rfl : cnt = cnt_o := cnt_e.trans cnt_oe.symm
  refine r_ex hX hP 2 (pc' := 2) (st' := [(0, (-1)), (0, under)]) (lo' := [(0, (2, this)), (1, (0, under)), (2, (0, lead)), (3, (0, delay))]) rfl ?_
  refine r_ic_eq hX hP rfl (tgt := 17) rfl (by first | decide | omega) (by first | decide | omega) (by first | decide | omega) (by first | decide | omega) (fun c1 => ?_) (fun c1 => ?_)
  · skip
    refine r_ex hX hP 5 (pc' := 24) (st' := [(0, 30), (0, 0), (0, lead)]) (lo' := [(0, (2, this)), (1, (0, under)), (2, (0, lead)), (3, (0, delay)), (4, (0, 0))]) rfl ?_
    refine r_callS gd hX hP rfl cs_X11_103 (d' := 0) (mc' := 0) (ms' := 0) (as' := [(0, lead), (0, 0), (0, 30)]) (st := []) (by first | decide | omega) (by first | decide | omega) (by first | decide | omega) rfl rfl (Nat.le_of_ble_eq_true rfl) (c_X11_within E S G lead 0 30 (by first | decide | omega) (by first | decide | omega) (by first | decide | omega) (by first | decide | omega) (by first | decide | omega) (by first | decide | omega)) ?_
    rintro _ _ _ ⟨rfl, rfl, z2, rfl, (⟨rfl, f3, f4⟩ | ⟨rfl, f5⟩)⟩
    · skip
      refine r_if_eq hX hP rfl (tgt := 40) rfl (by first | decide | omega) (by first | decide | omega) (fun c6 => ?_) (fun c6 => ?_)
      · skip
        exfalso; omega
      · skip
        refine r_ex hX hP 3 (pc' := 34) (st' := [(0, 30), (0, 0), (0, delay)]) (lo' := [(0, (2, this)), (1, (0, under)), (2, (0, lead)), (3, (0, delay)), (4, (0, 0))]) rfl ?_
        refine r_callS gd hX hP rfl cs_X11_103 (d' := 0) (mc' := 0) (ms' := 0) (as' := [(0, delay), (0, 0), (0, 30)]) (st := []) (by first | decide | omega) (by first | decide | omega) (by first | decide | omega) rfl rfl (Nat.le_of_ble_eq_true rfl) (c_X11_within E S G delay 0 30 (by first | decide | omega) (by first | decide | omega) (by first | decide | omega) (by first | decide | omega) (by first | decide | omega) (by first | decide | omega)) ?_
        rintro _ _ _ ⟨rfl, rfl, z7, rfl, (⟨rfl, f8, f9⟩ | ⟨rfl, f10⟩)⟩
        · skip
          refine r_if_ne hX hP rfl (tgt := 44) rfl (by first | decide | omega) (by first | decide | omega) (fun c11 => ?_) (fun c11 => ?_)
          · skip
            refine r_ex hX hP 6 (pc' := 53) (st' := [(2, this), (0, 0), (0, 0), (2, this)]) (lo' := [(0, (2, this)), (1, (0, under)), (2, (0, lead)), (3, (0, delay)), (4, (0, 0)), (5, (0, 0))]) rfl ?_
            refine r_getKR hX hP rfl fl_X11_24_128 hS (x := acc) acc_e ?_
            refine r_getKI hX hP rfl fl_X11_107_130 acc_s (x := cnt) cnt_e ?_
            refine r_ex hX hP 1 (pc' := 61) (st' := [(0, 20), (0, cnt), (0, 0), (0, 0), (2, this)]) (lo' := [(0, (2, this)), (1, (0, under)), (2, (0, lead)), (3, (0, delay)), (4, (0, 0)), (5, (0, 0))]) rfl ?_
            refine r_ic_lt hX hP rfl (tgt := 68) rfl (by first | decide | omega) (by first | decide | omega) (by first | decide | omega) (by first | decide | omega) (fun c12 => ?_) (fun c12 => ?_)
            · skip
              refine r_ex hX hP 2 (pc' := 70) (st' := [(0, 0), (0, 0), (0, 0), (0, 0), (2, this)]) (lo' := [(0, (2, this)), (1, (0, under)), (2, (0, lead)), (3, (0, delay)), (4, (0, 0)), (5, (0, 0))]) rfl ?_
              refine r_callS gd hX hP rfl cs_X11_112 (d' := 0) (mc' := 0) (ms' := 0) (as' := [(0, 0), (0, 0), (0, 0), (0, 0)]) (st := [(2, this)]) (by first | decide | omega) (by first | decide | omega) (by first | decide | omega) rfl rfl (Nat.le_of_ble_eq_true rfl) (c_X11_first E S G 0 0 0 0 (by first | decide | omega) (by first | decide | omega) (by first | decide | omega) (by first | decide | omega) (by first | decide | omega) (by first | decide | omega) (by first | decide | omega) (by first | decide | omega)) ?_
              rintro _ _ _ ⟨rfl, rfl, z13, rfl, (⟨rfl, f14⟩ | ⟨rfl, f15, f16⟩ | ⟨rfl, f17, f18, f19⟩ | ⟨rfl, f20, f21, f22, f23⟩ | ⟨rfl, f24, f25, f26, f27⟩)⟩
              · skip
                exfalso; omega
              · skip
                exfalso; omega
              · skip
                exfalso; omega
              · skip
                exfalso; omega
              · skip
                refine r_callV gd hX hP rfl cv_X11_90_128 hS (d' := 0) (mc' := 0) (ms' := 0) (as' := [(0, 0)]) (st := []) (by first | decide | omega) (by first | decide | omega) (by first | decide | omega) rfl rfl (Nat.le_of_ble_eq_true rfl) (c_X11_refused E S G this 0 hS (by first | decide | omega) (by first | decide | omega)) ?_
                rintro _ _ _ ⟨rfl, ⟨G28, rfl⟩, z29, rfl, (⟨rfl, f30⟩ | ⟨rfl, f31⟩)⟩
                · skip
                  exfalso; omega
                · skip
                  refine r_if_eq hX hP rfl (tgt := 81) rfl (by first | decide | omega) (by first | decide | omega) (fun c32 => ?_) (fun c32 => ?_)
                  · skip
                    refine r_ex hX hP 1 (pc' := 82) (st' := [(2, this)]) (lo' := [(0, (2, this)), (1, (0, under)), (2, (0, lead)), (3, (0, delay)), (4, (0, 0)), (5, (0, 0))]) rfl ?_
                    refine r_getR hX hP rfl fl_X11_16_128 hS (fun rf33 rf33e rf33s => ?_)
                    refine r_ex hX hP 1 (pc' := 86) (st' := [(0, 1), (2, rf33)]) (lo' := [(0, (2, this)), (1, (0, under)), (2, (0, lead)), (3, (0, delay)), (4, (0, 0)), (5, (0, 0))]) rfl ?_
                    refine r_putIK hX hP rfl fp_X11_96_129 rf33s (by first | decide | omega) (by first | decide | omega) (fun h34 => ?_)
                    refine r_ex hX hP 1 (pc' := 90) (st' := [(2, this)]) (lo' := [(0, (2, this)), (1, (0, under)), (2, (0, lead)), (3, (0, delay)), (4, (0, 0)), (5, (0, 0))]) rfl ?_
                    refine r_getKR hX hP rfl fl_X11_24_128 hS (x := acc) acc_e ?_
                    refine r_ex hX hP 3 (pc' := 96) (st' := [(0, delay), (0, lead), (0, under), (2, acc)]) (lo' := [(0, (2, this)), (1, (0, under)), (2, (0, lead)), (3, (0, delay)), (4, (0, 0)), (5, (0, 0))]) rfl ?_
                    refine r_callV gd hX hP rfl cv_X11_116_130 acc_s (d' := 0) (mc' := 0) (ms' := 0) (as' := [(0, under), (0, lead), (0, delay)]) (st := []) (by first | decide | omega) (by first | decide | omega) (by first | decide | omega) rfl rfl (Nat.le_of_ble_eq_true rfl) (c_hangX E S (up (hw [(128, 0)] G G28) 129 rf33 1 1) acc under lead delay acc_s cnt cnt_e (by first | decide | omega) (by first | decide | omega) (by first | decide | omega) (by first | decide | omega) (by first | decide | omega) (by first | decide | omega) (by first | decide | omega)) ?_
                    rintro _ _ _ ⟨rfl, ⟨G35, rfl⟩, z36, rfl, coh37, coh37e, z36a, z36b, f38, f39⟩
                    refine r_peekI hX (tl_130 0 rfl (by decide)) acc_s (fun o40 o40e o40a o40b => ?_)
                    obtain rfl : coh37 = o40 := coh37e.trans o40e.symm
                    exact r_retI hX hP rfl rfl (by first | decide | omega) (by first | decide | omega) ⟨rfl, ⟨_, (hw_sub (hw_up (hw_sub (hw_refl _ _) rfl) rfl) rfl).symm⟩, z36, rfl, coh37, coh37e, (by first | decide | omega)⟩
                  · skip
                    exfalso; omega
            · skip
              refine r_ex hX hP 3 (pc' := 70) (st' := [(0, 0), (0, 1), (0, 0), (0, 0), (2, this)]) (lo' := [(0, (2, this)), (1, (0, under)), (2, (0, lead)), (3, (0, delay)), (4, (0, 0)), (5, (0, 0))]) rfl ?_
              refine r_callS gd hX hP rfl cs_X11_112 (d' := 0) (mc' := 0) (ms' := 0) (as' := [(0, 0), (0, 0), (0, 1), (0, 0)]) (st := [(2, this)]) (by first | decide | omega) (by first | decide | omega) (by first | decide | omega) rfl rfl (Nat.le_of_ble_eq_true rfl) (c_X11_first E S G 0 0 1 0 (by first | decide | omega) (by first | decide | omega) (by first | decide | omega) (by first | decide | omega) (by first | decide | omega) (by first | decide | omega) (by first | decide | omega) (by first | decide | omega)) ?_
              rintro _ _ _ ⟨rfl, rfl, z41, rfl, (⟨rfl, f42⟩ | ⟨rfl, f43, f44⟩ | ⟨rfl, f45, f46, f47⟩ | ⟨rfl, f48, f49, f50, f51⟩ | ⟨rfl, f52, f53, f54, f55⟩)⟩
              · skip
                exfalso; omega
              · skip
                exfalso; omega
              · skip
                refine r_callV gd hX hP rfl cv_X11_90_128 hS (d' := 0) (mc' := 0) (ms' := 0) (as' := [(0, 3)]) (st := []) (by first | decide | omega) (by first | decide | omega) (by first | decide | omega) rfl rfl (Nat.le_of_ble_eq_true rfl) (c_X11_refused E S G this 3 hS (by first | decide | omega) (by first | decide | omega)) ?_
                rintro _ _ _ ⟨rfl, ⟨G56, rfl⟩, z57, rfl, (⟨rfl, f58⟩ | ⟨rfl, f59⟩)⟩
                · skip
                  refine r_if_eq hX hP rfl (tgt := 81) rfl (by first | decide | omega) (by first | decide | omega) (fun c60 => ?_) (fun c60 => ?_)
                  · skip
                    exfalso; omega
                  · skip
                    refine r_ex hX hP 1 (pc' := 80) (st' := [(0, (-1))]) (lo' := [(0, (2, this)), (1, (0, under)), (2, (0, lead)), (3, (0, delay)), (4, (0, 0)), (5, (0, 0))]) rfl ?_
                    exact r_retI hX hP rfl rfl (by first | decide | omega) (by first | decide | omega) ⟨rfl, ⟨_, (hw_sub (hw_refl _ _) rfl).symm⟩, (-1), rfl, cnt, cnt_e, (by first | decide | omega)⟩
                · skip
                  exfalso; omega
              · skip
                exfalso; omega
              · skip
                exfalso; omega
          · skip
            exfalso; omega
        · skip
          refine r_if_ne hX hP rfl (tgt := 44) rfl (by first | decide | omega) (by first | decide | omega) (fun c61 => ?_) (fun c61 => ?_)
          · skip
            exfalso; omega
          · skip
            refine r_ex hX hP 7 (pc' := 53) (st' := [(2, this), (0, 1), (0, 0), (2, this)]) (lo' := [(0, (2, this)), (1, (0, under)), (2, (0, lead)), (3, (0, delay)), (4, (0, 0)), (5, (0, 1))]) rfl ?_
            refine r_getKR hX hP rfl fl_X11_24_128 hS (x := acc) acc_e ?_
            refine r_getKI hX hP rfl fl_X11_107_130 acc_s (x := cnt) cnt_e ?_
            refine r_ex hX hP 1 (pc' := 61) (st' := [(0, 20), (0, cnt), (0, 1), (0, 0), (2, this)]) (lo' := [(0, (2, this)), (1, (0, under)), (2, (0, lead)), (3, (0, delay)), (4, (0, 0)), (5, (0, 1))]) rfl ?_
            refine r_ic_lt hX hP rfl (tgt := 68) rfl (by first | decide | omega) (by first | decide | omega) (by first | decide | omega) (by first | decide | omega) (fun c62 => ?_) (fun c62 => ?_)
            · skip
              refine r_ex hX hP 2 (pc' := 70) (st' := [(0, 0), (0, 0), (0, 1), (0, 0), (2, this)]) (lo' := [(0, (2, this)), (1, (0, under)), (2, (0, lead)), (3, (0, delay)), (4, (0, 0)), (5, (0, 1))]) rfl ?_
              refine r_callS gd hX hP rfl cs_X11_112 (d' := 0) (mc' := 0) (ms' := 0) (as' := [(0, 0), (0, 1), (0, 0), (0, 0)]) (st := [(2, this)]) (by first | decide | omega) (by first | decide | omega) (by first | decide | omega) rfl rfl (Nat.le_of_ble_eq_true rfl) (c_X11_first E S G 0 1 0 0 (by first | decide | omega) (by first | decide | omega) (by first | decide | omega) (by first | decide | omega) (by first | decide | omega) (by first | decide | omega) (by first | decide | omega) (by first | decide | omega)) ?_
              rintro _ _ _ ⟨rfl, rfl, z63, rfl, (⟨rfl, f64⟩ | ⟨rfl, f65, f66⟩ | ⟨rfl, f67, f68, f69⟩ | ⟨rfl, f70, f71, f72, f73⟩ | ⟨rfl, f74, f75, f76, f77⟩)⟩
              · skip
                exfalso; omega
              · skip
                refine r_callV gd hX hP rfl cv_X11_90_128 hS (d' := 0) (mc' := 0) (ms' := 0) (as' := [(0, 2)]) (st := []) (by first | decide | omega) (by first | decide | omega) (by first | decide | omega) rfl rfl (Nat.le_of_ble_eq_true rfl) (c_X11_refused E S G this 2 hS (by first | decide | omega) (by first | decide | omega)) ?_
                rintro _ _ _ ⟨rfl, ⟨G78, rfl⟩, z79, rfl, (⟨rfl, f80⟩ | ⟨rfl, f81⟩)⟩
                · skip
                  refine r_if_eq hX hP rfl (tgt := 81) rfl (by first | decide | omega) (by first | decide | omega) (fun c82 => ?_) (fun c82 => ?_)
                  · skip
                    exfalso; omega
                  · skip
                    refine r_ex hX hP 1 (pc' := 80) (st' := [(0, (-1))]) (lo' := [(0, (2, this)), (1, (0, under)), (2, (0, lead)), (3, (0, delay)), (4, (0, 0)), (5, (0, 1))]) rfl ?_
                    exact r_retI hX hP rfl rfl (by first | decide | omega) (by first | decide | omega) ⟨rfl, ⟨_, (hw_sub (hw_refl _ _) rfl).symm⟩, (-1), rfl, cnt, cnt_e, (by first | decide | omega)⟩
                · skip
                  exfalso; omega
              · skip
                exfalso; omega
              · skip
                exfalso; omega
              · skip
                exfalso; omega
            · skip
              refine r_ex hX hP 3 (pc' := 70) (st' := [(0, 0), (0, 1), (0, 1), (0, 0), (2, this)]) (lo' := [(0, (2, this)), (1, (0, under)), (2, (0, lead)), (3, (0, delay)), (4, (0, 0)), (5, (0, 1))]) rfl ?_
              refine r_callS gd hX hP rfl cs_X11_112 (d' := 0) (mc' := 0) (ms' := 0) (as' := [(0, 0), (0, 1), (0, 1), (0, 0)]) (st := [(2, this)]) (by first | decide | omega) (by first | decide | omega) (by first | decide | omega) rfl rfl (Nat.le_of_ble_eq_true rfl) (c_X11_first E S G 0 1 1 0 (by first | decide | omega) (by first | decide | omega) (by first | decide | omega) (by first | decide | omega) (by first | decide | omega) (by first | decide | omega) (by first | decide | omega) (by first | decide | omega)) ?_
              rintro _ _ _ ⟨rfl, rfl, z83, rfl, (⟨rfl, f84⟩ | ⟨rfl, f85, f86⟩ | ⟨rfl, f87, f88, f89⟩ | ⟨rfl, f90, f91, f92, f93⟩ | ⟨rfl, f94, f95, f96, f97⟩)⟩
              · skip
                exfalso; omega
              · skip
                refine r_callV gd hX hP rfl cv_X11_90_128 hS (d' := 0) (mc' := 0) (ms' := 0) (as' := [(0, 2)]) (st := []) (by first | decide | omega) (by first | decide | omega) (by first | decide | omega) rfl rfl (Nat.le_of_ble_eq_true rfl) (c_X11_refused E S G this 2 hS (by first | decide | omega) (by first | decide | omega)) ?_
                rintro _ _ _ ⟨rfl, ⟨G98, rfl⟩, z99, rfl, (⟨rfl, f100⟩ | ⟨rfl, f101⟩)⟩
                · skip
                  refine r_if_eq hX hP rfl (tgt := 81) rfl (by first | decide | omega) (by first | decide | omega) (fun c102 => ?_) (fun c102 => ?_)
                  · skip
                    exfalso; omega
                  · skip
                    refine r_ex hX hP 1 (pc' := 80) (st' := [(0, (-1))]) (lo' := [(0, (2, this)), (1, (0, under)), (2, (0, lead)), (3, (0, delay)), (4, (0, 0)), (5, (0, 1))]) rfl ?_
                    exact r_retI hX hP rfl rfl (by first | decide | omega) (by first | decide | omega) ⟨rfl, ⟨_, (hw_sub (hw_refl _ _) rfl).symm⟩, (-1), rfl, cnt, cnt_e, (by first | decide | omega)⟩
                · skip
                  exfalso; omega
              · skip
                exfalso; omega
              · skip
                exfalso; omega
              · skip
                exfalso; omega
    · skip
      refine r_if_eq hX hP rfl (tgt := 40) rfl (by first | decide | omega) (by first | decide | omega) (fun c103 => ?_) (fun c103 => ?_)
      · skip
        refine r_ex hX hP 7 (pc' := 53) (st' := [(2, this), (0, 1), (0, 0), (2, this)]) (lo' := [(0, (2, this)), (1, (0, under)), (2, (0, lead)), (3, (0, delay)), (4, (0, 0)), (5, (0, 1))]) rfl ?_
        refine r_getKR hX hP rfl fl_X11_24_128 hS (x := acc) acc_e ?_
        refine r_getKI hX hP rfl fl_X11_107_130 acc_s (x := cnt) cnt_e ?_
        refine r_ex hX hP 1 (pc' := 61) (st' := [(0, 20), (0, cnt), (0, 1), (0, 0), (2, this)]) (lo' := [(0, (2, this)), (1, (0, under)), (2, (0, lead)), (3, (0, delay)), (4, (0, 0)), (5, (0, 1))]) rfl ?_
        refine r_ic_lt hX hP rfl (tgt := 68) rfl (by first | decide | omega) (by first | decide | omega) (by first | decide | omega) (by first | decide | omega) (fun c104 => ?_) (fun c104 => ?_)
        · skip
          refine r_ex hX hP 2 (pc' := 70) (st' := [(0, 0), (0, 0), (0, 1), (0, 0), (2, this)]) (lo' := [(0, (2, this)), (1, (0, under)), (2, (0, lead)), (3, (0, delay)), (4, (0, 0)), (5, (0, 1))]) rfl ?_
          refine r_callS gd hX hP rfl cs_X11_112 (d' := 0) (mc' := 0) (ms' := 0) (as' := [(0, 0), (0, 1), (0, 0), (0, 0)]) (st := [(2, this)]) (by first | decide | omega) (by first | decide | omega) (by first | decide | omega) rfl rfl (Nat.le_of_ble_eq_true rfl) (c_X11_first E S G 0 1 0 0 (by first | decide | omega) (by first | decide | omega) (by first | decide | omega) (by first | decide | omega) (by first | decide | omega) (by first | decide | omega) (by first | decide | omega) (by first | decide | omega)) ?_
          rintro _ _ _ ⟨rfl, rfl, z105, rfl, (⟨rfl, f106⟩ | ⟨rfl, f107, f108⟩ | ⟨rfl, f109, f110, f111⟩ | ⟨rfl, f112, f113, f114, f115⟩ | ⟨rfl, f116, f117, f118, f119⟩)⟩
          · skip
            exfalso; omega
          · skip
            refine r_callV gd hX hP rfl cv_X11_90_128 hS (d' := 0) (mc' := 0) (ms' := 0) (as' := [(0, 2)]) (st := []) (by first | decide | omega) (by first | decide | omega) (by first | decide | omega) rfl rfl (Nat.le_of_ble_eq_true rfl) (c_X11_refused E S G this 2 hS (by first | decide | omega) (by first | decide | omega)) ?_
            rintro _ _ _ ⟨rfl, ⟨G120, rfl⟩, z121, rfl, (⟨rfl, f122⟩ | ⟨rfl, f123⟩)⟩
            · skip
              refine r_if_eq hX hP rfl (tgt := 81) rfl (by first | decide | omega) (by first | decide | omega) (fun c124 => ?_) (fun c124 => ?_)
              · skip
                exfalso; omega
              · skip
                refine r_ex hX hP 1 (pc' := 80) (st' := [(0, (-1))]) (lo' := [(0, (2, this)), (1, (0, under)), (2, (0, lead)), (3, (0, delay)), (4, (0, 0)), (5, (0, 1))]) rfl ?_
                exact r_retI hX hP rfl rfl (by first | decide | omega) (by first | decide | omega) ⟨rfl, ⟨_, (hw_sub (hw_refl _ _) rfl).symm⟩, (-1), rfl, cnt, cnt_e, (by first | decide | omega)⟩
            · skip
              exfalso; omega
          · skip
            exfalso; omega
          · skip
            exfalso; omega
          · skip
            exfalso; omega
        · skip
          refine r_ex hX hP 3 (pc' := 70) (st' := [(0, 0), (0, 1), (0, 1), (0, 0), (2, this)]) (lo' := [(0, (2, this)), (1, (0, under)), (2, (0, lead)), (3, (0, delay)), (4, (0, 0)), (5, (0, 1))]) rfl ?_
          refine r_callS gd hX hP rfl cs_X11_112 (d' := 0) (mc' := 0) (ms' := 0) (as' := [(0, 0), (0, 1), (0, 1), (0, 0)]) (st := [(2, this)]) (by first | decide | omega) (by first | decide | omega) (by first | decide | omega) rfl rfl (Nat.le_of_ble_eq_true rfl) (c_X11_first E S G 0 1 1 0 (by first | decide | omega) (by first | decide | omega) (by first | decide | omega) (by first | decide | omega) (by first | decide | omega) (by first | decide | omega) (by first | decide | omega) (by first | decide | omega)) ?_
          rintro _ _ _ ⟨rfl, rfl, z125, rfl, (⟨rfl, f126⟩ | ⟨rfl, f127, f128⟩ | ⟨rfl, f129, f130, f131⟩ | ⟨rfl, f132, f133, f134, f135⟩ | ⟨rfl, f136, f137, f138, f139⟩)⟩
          · skip
            exfalso; omega
          · skip
            refine r_callV gd hX hP rfl cv_X11_90_128 hS (d' := 0) (mc' := 0) (ms' := 0) (as' := [(0, 2)]) (st := []) (by first | decide | omega) (by first | decide | omega) (by first | decide | omega) rfl rfl (Nat.le_of_ble_eq_true rfl) (c_X11_refused E S G this 2 hS (by first | decide | omega) (by first | decide | omega)) ?_
            rintro _ _ _ ⟨rfl, ⟨G140, rfl⟩, z141, rfl, (⟨rfl, f142⟩ | ⟨rfl, f143⟩)⟩
            · skip
              refine r_if_eq hX hP rfl (tgt := 81) rfl (by first | decide | omega) (by first | decide | omega) (fun c144 => ?_) (fun c144 => ?_)
              · skip
                exfalso; omega
              · skip
                refine r_ex hX hP 1 (pc' := 80) (st' := [(0, (-1))]) (lo' := [(0, (2, this)), (1, (0, under)), (2, (0, lead)), (3, (0, delay)), (4, (0, 0)), (5, (0, 1))]) rfl ?_
                exact r_retI hX hP rfl rfl (by first | decide | omega) (by first | decide | omega) ⟨rfl, ⟨_, (hw_sub (hw_refl _ _) rfl).symm⟩, (-1), rfl, cnt, cnt_e, (by first | decide | omega)⟩
            · skip
              exfalso; omega
          · skip
            exfalso; omega
          · skip
            exfalso; omega
          · skip
            exfalso; omega
      · skip
        exfalso; omega
  · skip
    refine r_ex hX hP 2 (pc' := 7) (st' := [(0, under), (2, this)]) (lo' := [(0, (2, this)), (1, (0, under)), (2, (0, lead)), (3, (0, delay))]) rfl ?_
    refine r_callV gd hX hP rfl cv_X11_100_128 hS (d' := 1) (mc' := 0) (ms' := 0) (as' := [(0, under)]) (st := []) (by first | decide | omega) (by first | decide | omega) (by first | decide | omega) rfl rfl (Nat.le_of_ble_eq_true rfl) (c_hasAccX E S G this under hS acc acc_e acc_s cnt cnt_e (by first | decide | omega) (by first | decide | omega)) ?_
    rintro _ _ _ ⟨rfl, rfl, z145, rfl, (⟨rfl, f146, f147⟩ | ⟨rfl, f148⟩)⟩
    · skip
      refine r_if_ne hX hP rfl (tgt := 17) rfl (by first | decide | omega) (by first | decide | omega) (fun c149 => ?_) (fun c149 => ?_)
      · skip
        refine r_ex hX hP 5 (pc' := 24) (st' := [(0, 30), (0, 0), (0, lead)]) (lo' := [(0, (2, this)), (1, (0, under)), (2, (0, lead)), (3, (0, delay)), (4, (0, 0))]) rfl ?_
        refine r_callS gd hX hP rfl cs_X11_103 (d' := 0) (mc' := 0) (ms' := 0) (as' := [(0, lead), (0, 0), (0, 30)]) (st := []) (by first | decide | omega) (by first | decide | omega) (by first | decide | omega) rfl rfl (Nat.le_of_ble_eq_true rfl) (c_X11_within E S G lead 0 30 (by first | decide | omega) (by first | decide | omega) (by first | decide | omega) (by first | decide | omega) (by first | decide | omega) (by first | decide | omega)) ?_
        rintro _ _ _ ⟨rfl, rfl, z150, rfl, (⟨rfl, f151, f152⟩ | ⟨rfl, f153⟩)⟩
        · skip
          refine r_if_eq hX hP rfl (tgt := 40) rfl (by first | decide | omega) (by first | decide | omega) (fun c154 => ?_) (fun c154 => ?_)
          · skip
            exfalso; omega
          · skip
            refine r_ex hX hP 3 (pc' := 34) (st' := [(0, 30), (0, 0), (0, delay)]) (lo' := [(0, (2, this)), (1, (0, under)), (2, (0, lead)), (3, (0, delay)), (4, (0, 0))]) rfl ?_
            refine r_callS gd hX hP rfl cs_X11_103 (d' := 0) (mc' := 0) (ms' := 0) (as' := [(0, delay), (0, 0), (0, 30)]) (st := []) (by first | decide | omega) (by first | decide | omega) (by first | decide | omega) rfl rfl (Nat.le_of_ble_eq_true rfl) (c_X11_within E S G delay 0 30 (by first | decide | omega) (by first | decide | omega) (by first | decide | omega) (by first | decide | omega) (by first | decide | omega) (by first | decide | omega)) ?_
            rintro _ _ _ ⟨rfl, rfl, z155, rfl, (⟨rfl, f156, f157⟩ | ⟨rfl, f158⟩)⟩
            · skip
              refine r_if_ne hX hP rfl (tgt := 44) rfl (by first | decide | omega) (by first | decide | omega) (fun c159 => ?_) (fun c159 => ?_)
              · skip
                refine r_ex hX hP 6 (pc' := 53) (st' := [(2, this), (0, 0), (0, 0), (2, this)]) (lo' := [(0, (2, this)), (1, (0, under)), (2, (0, lead)), (3, (0, delay)), (4, (0, 0)), (5, (0, 0))]) rfl ?_
                refine r_getKR hX hP rfl fl_X11_24_128 hS (x := acc) acc_e ?_
                refine r_getKI hX hP rfl fl_X11_107_130 acc_s (x := cnt) cnt_e ?_
                refine r_ex hX hP 1 (pc' := 61) (st' := [(0, 20), (0, cnt), (0, 0), (0, 0), (2, this)]) (lo' := [(0, (2, this)), (1, (0, under)), (2, (0, lead)), (3, (0, delay)), (4, (0, 0)), (5, (0, 0))]) rfl ?_
                refine r_ic_lt hX hP rfl (tgt := 68) rfl (by first | decide | omega) (by first | decide | omega) (by first | decide | omega) (by first | decide | omega) (fun c160 => ?_) (fun c160 => ?_)
                · skip
                  refine r_ex hX hP 2 (pc' := 70) (st' := [(0, 0), (0, 0), (0, 0), (0, 0), (2, this)]) (lo' := [(0, (2, this)), (1, (0, under)), (2, (0, lead)), (3, (0, delay)), (4, (0, 0)), (5, (0, 0))]) rfl ?_
                  refine r_callS gd hX hP rfl cs_X11_112 (d' := 0) (mc' := 0) (ms' := 0) (as' := [(0, 0), (0, 0), (0, 0), (0, 0)]) (st := [(2, this)]) (by first | decide | omega) (by first | decide | omega) (by first | decide | omega) rfl rfl (Nat.le_of_ble_eq_true rfl) (c_X11_first E S G 0 0 0 0 (by first | decide | omega) (by first | decide | omega) (by first | decide | omega) (by first | decide | omega) (by first | decide | omega) (by first | decide | omega) (by first | decide | omega) (by first | decide | omega)) ?_
                  rintro _ _ _ ⟨rfl, rfl, z161, rfl, (⟨rfl, f162⟩ | ⟨rfl, f163, f164⟩ | ⟨rfl, f165, f166, f167⟩ | ⟨rfl, f168, f169, f170, f171⟩ | ⟨rfl, f172, f173, f174, f175⟩)⟩
                  · skip
                    exfalso; omega
                  · skip
                    exfalso; omega
                  · skip
                    exfalso; omega
                  · skip
                    exfalso; omega
                  · skip
                    refine r_callV gd hX hP rfl cv_X11_90_128 hS (d' := 0) (mc' := 0) (ms' := 0) (as' := [(0, 0)]) (st := []) (by first | decide | omega) (by first | decide | omega) (by first | decide | omega) rfl rfl (Nat.le_of_ble_eq_true rfl) (c_X11_refused E S G this 0 hS (by first | decide | omega) (by first | decide | omega)) ?_
                    rintro _ _ _ ⟨rfl, ⟨G176, rfl⟩, z177, rfl, (⟨rfl, f178⟩ | ⟨rfl, f179⟩)⟩
                    · skip
                      exfalso; omega
                    · skip
                      refine r_if_eq hX hP rfl (tgt := 81) rfl (by first | decide | omega) (by first | decide | omega) (fun c180 => ?_) (fun c180 => ?_)
                      · skip
                        refine r_ex hX hP 1 (pc' := 82) (st' := [(2, this)]) (lo' := [(0, (2, this)), (1, (0, under)), (2, (0, lead)), (3, (0, delay)), (4, (0, 0)), (5, (0, 0))]) rfl ?_
                        refine r_getR hX hP rfl fl_X11_16_128 hS (fun rf181 rf181e rf181s => ?_)
                        refine r_ex hX hP 1 (pc' := 86) (st' := [(0, 1), (2, rf181)]) (lo' := [(0, (2, this)), (1, (0, under)), (2, (0, lead)), (3, (0, delay)), (4, (0, 0)), (5, (0, 0))]) rfl ?_
                        refine r_putIK hX hP rfl fp_X11_96_129 rf181s (by first | decide | omega) (by first | decide | omega) (fun h182 => ?_)
                        refine r_ex hX hP 1 (pc' := 90) (st' := [(2, this)]) (lo' := [(0, (2, this)), (1, (0, under)), (2, (0, lead)), (3, (0, delay)), (4, (0, 0)), (5, (0, 0))]) rfl ?_
                        refine r_getKR hX hP rfl fl_X11_24_128 hS (x := acc) acc_e ?_
                        refine r_ex hX hP 3 (pc' := 96) (st' := [(0, delay), (0, lead), (0, under), (2, acc)]) (lo' := [(0, (2, this)), (1, (0, under)), (2, (0, lead)), (3, (0, delay)), (4, (0, 0)), (5, (0, 0))]) rfl ?_
                        refine r_callV gd hX hP rfl cv_X11_116_130 acc_s (d' := 0) (mc' := 0) (ms' := 0) (as' := [(0, under), (0, lead), (0, delay)]) (st := []) (by first | decide | omega) (by first | decide | omega) (by first | decide | omega) rfl rfl (Nat.le_of_ble_eq_true rfl) (c_hangX E S (up (hw [(128, 0)] G G176) 129 rf181 1 1) acc under lead delay acc_s cnt cnt_e (by first | decide | omega) (by first | decide | omega) (by first | decide | omega) (by first | decide | omega) (by first | decide | omega) (by first | decide | omega) (by first | decide | omega)) ?_
                        rintro _ _ _ ⟨rfl, ⟨G183, rfl⟩, z184, rfl, coh185, coh185e, z184a, z184b, f186, f187⟩
                        refine r_peekI hX (tl_130 0 rfl (by decide)) acc_s (fun o188 o188e o188a o188b => ?_)
                        obtain rfl : coh185 = o188 := coh185e.trans o188e.symm
                        exact r_retI hX hP rfl rfl (by first | decide | omega) (by first | decide | omega) ⟨rfl, ⟨_, (hw_sub (hw_up (hw_sub (hw_refl _ _) rfl) rfl) rfl).symm⟩, z184, rfl, coh185, coh185e, (by first | decide | omega)⟩
                      · skip
                        exfalso; omega
                · skip
                  refine r_ex hX hP 3 (pc' := 70) (st' := [(0, 0), (0, 1), (0, 0), (0, 0), (2, this)]) (lo' := [(0, (2, this)), (1, (0, under)), (2, (0, lead)), (3, (0, delay)), (4, (0, 0)), (5, (0, 0))]) rfl ?_
                  refine r_callS gd hX hP rfl cs_X11_112 (d' := 0) (mc' := 0) (ms' := 0) (as' := [(0, 0), (0, 0), (0, 1), (0, 0)]) (st := [(2, this)]) (by first | decide | omega) (by first | decide | omega) (by first | decide | omega) rfl rfl (Nat.le_of_ble_eq_true rfl) (c_X11_first E S G 0 0 1 0 (by first | decide | omega) (by first | decide | omega) (by first | decide | omega) (by first | decide | omega) (by first | decide | omega) (by first | decide | omega) (by first | decide | omega) (by first | decide | omega)) ?_
                  rintro _ _ _ ⟨rfl, rfl, z189, rfl, (⟨rfl, f190⟩ | ⟨rfl, f191, f192⟩ | ⟨rfl, f193, f194, f195⟩ | ⟨rfl, f196, f197, f198, f199⟩ | ⟨rfl, f200, f201, f202, f203⟩)⟩
                  · skip
                    exfalso; omega
                  · skip
                    exfalso; omega
                  · skip
                    refine r_callV gd hX hP rfl cv_X11_90_128 hS (d' := 0) (mc' := 0) (ms' := 0) (as' := [(0, 3)]) (st := []) (by first | decide | omega) (by first | decide | omega) (by first | decide | omega) rfl rfl (Nat.le_of_ble_eq_true rfl) (c_X11_refused E S G this 3 hS (by first | decide | omega) (by first | decide | omega)) ?_
                    rintro _ _ _ ⟨rfl, ⟨G204, rfl⟩, z205, rfl, (⟨rfl, f206⟩ | ⟨rfl, f207⟩)⟩
                    · skip
                      refine r_if_eq hX hP rfl (tgt := 81) rfl (by first | decide | omega) (by first | decide | omega) (fun c208 => ?_) (fun c208 => ?_)
                      · skip
                        exfalso; omega
                      · skip
                        refine r_ex hX hP 1 (pc' := 80) (st' := [(0, (-1))]) (lo' := [(0, (2, this)), (1, (0, under)), (2, (0, lead)), (3, (0, delay)), (4, (0, 0)), (5, (0, 0))]) rfl ?_
                        exact r_retI hX hP rfl rfl (by first | decide | omega) (by first | decide | omega) ⟨rfl, ⟨_, (hw_sub (hw_refl _ _) rfl).symm⟩, (-1), rfl, cnt, cnt_e, (by first | decide | omega)⟩
                    · skip
                      exfalso; omega
                  · skip
                    exfalso; omega
                  · skip
                    exfalso; omega
              · skip
                exfalso; omega
            · skip
              refine r_if_ne hX hP rfl (tgt := 44) rfl (by first | decide | omega) (by first | decide | omega) (fun c209 => ?_) (fun c209 => ?_)
              · skip
                exfalso; omega
              · skip
                refine r_ex hX hP 7 (pc' := 53) (st' := [(2, this), (0, 1), (0, 0), (2, this)]) (lo' := [(0, (2, this)), (1, (0, under)), (2, (0, lead)), (3, (0, delay)), (4, (0, 0)), (5, (0, 1))]) rfl ?_
                refine r_getKR hX hP rfl fl_X11_24_128 hS (x := acc) acc_e ?_
                refine r_getKI hX hP rfl fl_X11_107_130 acc_s (x := cnt) cnt_e ?_
                refine r_ex hX hP 1 (pc' := 61) (st' := [(0, 20), (0, cnt), (0, 1), (0, 0), (2, this)]) (lo' := [(0, (2, this)), (1, (0, under)), (2, (0, lead)), (3, (0, delay)), (4, (0, 0)), (5, (0, 1))]) rfl ?_
                refine r_ic_lt hX hP rfl (tgt := 68) rfl (by first | decide | omega) (by first | decide | omega) (by first | decide | omega) (by first | decide | omega) (fun c210 => ?_) (fun c210 => ?_)
                · skip
                  refine r_ex hX hP 2 (pc' := 70) (st' := [(0, 0), (0, 0), (0, 1), (0, 0), (2, this)]) (lo' := [(0, (2, this)), (1, (0, under)), (2, (0, lead)), (3, (0, delay)), (4, (0, 0)), (5, (0, 1))]) rfl ?_
                  refine r_callS gd hX hP rfl cs_X11_112 (d' := 0) (mc' := 0) (ms' := 0) (as' := [(0, 0), (0, 1), (0, 0), (0, 0)]) (st := [(2, this)]) (by first | decide | omega) (by first | decide | omega) (by first | decide | omega) rfl rfl (Nat.le_of_ble_eq_true rfl) (c_X11_first E S G 0 1 0 0 (by first | decide | omega) (by first | decide | omega) (by first | decide | omega) (by first | decide | omega) (by first | decide | omega) (by first | decide | omega) (by first | decide | omega) (by first | decide | omega)) ?_
                  rintro _ _ _ ⟨rfl, rfl, z211, rfl, (⟨rfl, f212⟩ | ⟨rfl, f213, f214⟩ | ⟨rfl, f215, f216, f217⟩ | ⟨rfl, f218, f219, f220, f221⟩ | ⟨rfl, f222, f223, f224, f225⟩)⟩
                  · skip
                    exfalso; omega
                  · skip
                    refine r_callV gd hX hP rfl cv_X11_90_128 hS (d' := 0) (mc' := 0) (ms' := 0) (as' := [(0, 2)]) (st := []) (by first | decide | omega) (by first | decide | omega) (by first | decide | omega) rfl rfl (Nat.le_of_ble_eq_true rfl) (c_X11_refused E S G this 2 hS (by first | decide | omega) (by first | decide | omega)) ?_
                    rintro _ _ _ ⟨rfl, ⟨G226, rfl⟩, z227, rfl, (⟨rfl, f228⟩ | ⟨rfl, f229⟩)⟩
                    · skip
                      refine r_if_eq hX hP rfl (tgt := 81) rfl (by first | decide | omega) (by first | decide | omega) (fun c230 => ?_) (fun c230 => ?_)
                      · skip
                        exfalso; omega
                      · skip
                        refine r_ex hX hP 1 (pc' := 80) (st' := [(0, (-1))]) (lo' := [(0, (2, this)), (1, (0, under)), (2, (0, lead)), (3, (0, delay)), (4, (0, 0)), (5, (0, 1))]) rfl ?_
                        exact r_retI hX hP rfl rfl (by first | decide | omega) (by first | decide | omega) ⟨rfl, ⟨_, (hw_sub (hw_refl _ _) rfl).symm⟩, (-1), rfl, cnt, cnt_e, (by first | decide | omega)⟩
                    · skip
                      exfalso; omega
                  · skip
                    exfalso; omega
                  · skip
                    exfalso; omega
                  · skip
                    exfalso; omega
                · skip
                  refine r_ex hX hP 3 (pc' := 70) (st' := [(0, 0), (0, 1), (0, 1), (0, 0), (2, this)]) (lo' := [(0, (2, this)), (1, (0, under)), (2, (0, lead)), (3, (0, delay)), (4, (0, 0)), (5, (0, 1))]) rfl ?_
                  refine r_callS gd hX hP rfl cs_X11_112 (d' := 0) (mc' := 0) (ms' := 0) (as' := [(0, 0), (0, 1), (0, 1), (0, 0)]) (st := [(2, this)]) (by first | decide | omega) (by first | decide | omega) (by first | decide | omega) rfl rfl (Nat.le_of_ble_eq_true rfl) (c_X11_first E S G 0 1 1 0 (by first | decide | omega) (by first | decide | omega) (by first | decide | omega) (by first | decide | omega) (by first | decide | omega) (by first | decide | omega) (by first | decide | omega) (by first | decide | omega)) ?_
                  rintro _ _ _ ⟨rfl, rfl, z231, rfl, (⟨rfl, f232⟩ | ⟨rfl, f233, f234⟩ | ⟨rfl, f235, f236, f237⟩ | ⟨rfl, f238, f239, f240, f241⟩ | ⟨rfl, f242, f243, f244, f245⟩)⟩
                  · skip
                    exfalso; omega
                  · skip
                    refine r_callV gd hX hP rfl cv_X11_90_128 hS (d' := 0) (mc' := 0) (ms' := 0) (as' := [(0, 2)]) (st := []) (by first | decide | omega) (by first | decide | omega) (by first | decide | omega) rfl rfl (Nat.le_of_ble_eq_true rfl) (c_X11_refused E S G this 2 hS (by first | decide | omega) (by first | decide | omega)) ?_
                    rintro _ _ _ ⟨rfl, ⟨G246, rfl⟩, z247, rfl, (⟨rfl, f248⟩ | ⟨rfl, f249⟩)⟩
                    · skip
                      refine r_if_eq hX hP rfl (tgt := 81) rfl (by first | decide | omega) (by first | decide | omega) (fun c250 => ?_) (fun c250 => ?_)
                      · skip
                        exfalso; omega
                      · skip
                        refine r_ex hX hP 1 (pc' := 80) (st' := [(0, (-1))]) (lo' := [(0, (2, this)), (1, (0, under)), (2, (0, lead)), (3, (0, delay)), (4, (0, 0)), (5, (0, 1))]) rfl ?_
                        exact r_retI hX hP rfl rfl (by first | decide | omega) (by first | decide | omega) ⟨rfl, ⟨_, (hw_sub (hw_refl _ _) rfl).symm⟩, (-1), rfl, cnt, cnt_e, (by first | decide | omega)⟩
                    · skip
                      exfalso; omega
                  · skip
                    exfalso; omega
                  · skip
                    exfalso; omega
                  · skip
                    exfalso; omega
        · skip
          refine r_if_eq hX hP rfl (tgt := 40) rfl (by first | decide | omega) (by first | decide | omega) (fun c251 => ?_) (fun c251 => ?_)
          · skip
            refine r_ex hX hP 7 (pc' := 53) (st' := [(2, this), (0, 1), (0, 0), (2, this)]) (lo' := [(0, (2, this)), (1, (0, under)), (2, (0, lead)), (3, (0, delay)), (4, (0, 0)), (5, (0, 1))]) rfl ?_
            refine r_getKR hX hP rfl fl_X11_24_128 hS (x := acc) acc_e ?_
            refine r_getKI hX hP rfl fl_X11_107_130 acc_s (x := cnt) cnt_e ?_
            refine r_ex hX hP 1 (pc' := 61) (st' := [(0, 20), (0, cnt), (0, 1), (0, 0), (2, this)]) (lo' := [(0, (2, this)), (1, (0, under)), (2, (0, lead)), (3, (0, delay)), (4, (0, 0)), (5, (0, 1))]) rfl ?_
            refine r_ic_lt hX hP rfl (tgt := 68) rfl (by first | decide | omega) (by first | decide | omega) (by first | decide | omega) (by first | decide | omega) (fun c252 => ?_) (fun c252 => ?_)
            · skip
              refine r_ex hX hP 2 (pc' := 70) (st' := [(0, 0), (0, 0), (0, 1), (0, 0), (2, this)]) (lo' := [(0, (2, this)), (1, (0, under)), (2, (0, lead)), (3, (0, delay)), (4, (0, 0)), (5, (0, 1))]) rfl ?_
              refine r_callS gd hX hP rfl cs_X11_112 (d' := 0) (mc' := 0) (ms' := 0) (as' := [(0, 0), (0, 1), (0, 0), (0, 0)]) (st := [(2, this)]) (by first | decide | omega) (by first | decide | omega) (by first | decide | omega) rfl rfl (Nat.le_of_ble_eq_true rfl) (c_X11_first E S G 0 1 0 0 (by first | decide | omega) (by first | decide | omega) (by first | decide | omega) (by first | decide | omega) (by first | decide | omega) (by first | decide | omega) (by first | decide | omega) (by first | decide | omega)) ?_
              rintro _ _ _ ⟨rfl, rfl, z253, rfl, (⟨rfl, f254⟩ | ⟨rfl, f255, f256⟩ | ⟨rfl, f257, f258, f259⟩ | ⟨rfl, f260, f261, f262, f263⟩ | ⟨rfl, f264, f265, f266, f267⟩)⟩
              · skip
                exfalso; omega
              · skip
                refine r_callV gd hX hP rfl cv_X11_90_128 hS (d' := 0) (mc' := 0) (ms' := 0) (as' := [(0, 2)]) (st := []) (by first | decide | omega) (by first | decide | omega) (by first | decide | omega) rfl rfl (Nat.le_of_ble_eq_true rfl) (c_X11_refused E S G this 2 hS (by first | decide | omega) (by first | decide | omega)) ?_
                rintro _ _ _ ⟨rfl, ⟨G268, rfl⟩, z269, rfl, (⟨rfl, f270⟩ | ⟨rfl, f271⟩)⟩
                · skip
                  refine r_if_eq hX hP rfl (tgt := 81) rfl (by first | decide | omega) (by first | decide | omega) (fun c272 => ?_) (fun c272 => ?_)
                  · skip
                    exfalso; omega
                  · skip
                    refine r_ex hX hP 1 (pc' := 80) (st' := [(0, (-1))]) (lo' := [(0, (2, this)), (1, (0, under)), (2, (0, lead)), (3, (0, delay)), (4, (0, 0)), (5, (0, 1))]) rfl ?_
                    exact r_retI hX hP rfl rfl (by first | decide | omega) (by first | decide | omega) ⟨rfl, ⟨_, (hw_sub (hw_refl _ _) rfl).symm⟩, (-1), rfl, cnt, cnt_e, (by first | decide | omega)⟩
                · skip
                  exfalso; omega
              · skip
                exfalso; omega
              · skip
                exfalso; omega
              · skip
                exfalso; omega
            · skip
              refine r_ex hX hP 3 (pc' := 70) (st' := [(0, 0), (0, 1), (0, 1), (0, 0), (2, this)]) (lo' := [(0, (2, this)), (1, (0, under)), (2, (0, lead)), (3, (0, delay)), (4, (0, 0)), (5, (0, 1))]) rfl ?_
              refine r_callS gd hX hP rfl cs_X11_112 (d' := 0) (mc' := 0) (ms' := 0) (as' := [(0, 0), (0, 1), (0, 1), (0, 0)]) (st := [(2, this)]) (by first | decide | omega) (by first | decide | omega) (by first | decide | omega) rfl rfl (Nat.le_of_ble_eq_true rfl) (c_X11_first E S G 0 1 1 0 (by first | decide | omega) (by first | decide | omega) (by first | decide | omega) (by first | decide | omega) (by first | decide | omega) (by first | decide | omega) (by first | decide | omega) (by first | decide | omega)) ?_
              rintro _ _ _ ⟨rfl, rfl, z273, rfl, (⟨rfl, f274⟩ | ⟨rfl, f275, f276⟩ | ⟨rfl, f277, f278, f279⟩ | ⟨rfl, f280, f281, f282, f283⟩ | ⟨rfl, f284, f285, f286, f287⟩)⟩
              · skip
                exfalso; omega
              · skip
                refine r_callV gd hX hP rfl cv_X11_90_128 hS (d' := 0) (mc' := 0) (ms' := 0) (as' := [(0, 2)]) (st := []) (by first | decide | omega) (by first | decide | omega) (by first | decide | omega) rfl rfl (Nat.le_of_ble_eq_true rfl) (c_X11_refused E S G this 2 hS (by first | decide | omega) (by first | decide | omega)) ?_
                rintro _ _ _ ⟨rfl, ⟨G288, rfl⟩, z289, rfl, (⟨rfl, f290⟩ | ⟨rfl, f291⟩)⟩
                · skip
                  refine r_if_eq hX hP rfl (tgt := 81) rfl (by first | decide | omega) (by first | decide | omega) (fun c292 => ?_) (fun c292 => ?_)
                  · skip
                    exfalso; omega
                  · skip
                    refine r_ex hX hP 1 (pc' := 80) (st' := [(0, (-1))]) (lo' := [(0, (2, this)), (1, (0, under)), (2, (0, lead)), (3, (0, delay)), (4, (0, 0)), (5, (0, 1))]) rfl ?_
                    exact r_retI hX hP rfl rfl (by first | decide | omega) (by first | decide | omega) ⟨rfl, ⟨_, (hw_sub (hw_refl _ _) rfl).symm⟩, (-1), rfl, cnt, cnt_e, (by first | decide | omega)⟩
                · skip
                  exfalso; omega
              · skip
                exfalso; omega
              · skip
                exfalso; omega
              · skip
                exfalso; omega
          · skip
            exfalso; omega
      · skip
        exfalso; omega
    · skip
      refine r_if_ne hX hP rfl (tgt := 17) rfl (by first | decide | omega) (by first | decide | omega) (fun c293 => ?_) (fun c293 => ?_)
      · skip
        exfalso; omega
      · skip
        refine r_ex hX hP 6 (pc' := 24) (st' := [(0, 30), (0, 0), (0, lead)]) (lo' := [(0, (2, this)), (1, (0, under)), (2, (0, lead)), (3, (0, delay)), (4, (0, 1))]) rfl ?_
        refine r_callS gd hX hP rfl cs_X11_103 (d' := 0) (mc' := 0) (ms' := 0) (as' := [(0, lead), (0, 0), (0, 30)]) (st := []) (by first | decide | omega) (by first | decide | omega) (by first | decide | omega) rfl rfl (Nat.le_of_ble_eq_true rfl) (c_X11_within E S G lead 0 30 (by first | decide | omega) (by first | decide | omega) (by first | decide | omega) (by first | decide | omega) (by first | decide | omega) (by first | decide | omega)) ?_
        rintro _ _ _ ⟨rfl, rfl, z294, rfl, (⟨rfl, f295, f296⟩ | ⟨rfl, f297⟩)⟩
        · skip
          refine r_if_eq hX hP rfl (tgt := 40) rfl (by first | decide | omega) (by first | decide | omega) (fun c298 => ?_) (fun c298 => ?_)
          · skip
            exfalso; omega
          · skip
            refine r_ex hX hP 3 (pc' := 34) (st' := [(0, 30), (0, 0), (0, delay)]) (lo' := [(0, (2, this)), (1, (0, under)), (2, (0, lead)), (3, (0, delay)), (4, (0, 1))]) rfl ?_
            refine r_callS gd hX hP rfl cs_X11_103 (d' := 0) (mc' := 0) (ms' := 0) (as' := [(0, delay), (0, 0), (0, 30)]) (st := []) (by first | decide | omega) (by first | decide | omega) (by first | decide | omega) rfl rfl (Nat.le_of_ble_eq_true rfl) (c_X11_within E S G delay 0 30 (by first | decide | omega) (by first | decide | omega) (by first | decide | omega) (by first | decide | omega) (by first | decide | omega) (by first | decide | omega)) ?_
            rintro _ _ _ ⟨rfl, rfl, z299, rfl, (⟨rfl, f300, f301⟩ | ⟨rfl, f302⟩)⟩
            · skip
              refine r_if_ne hX hP rfl (tgt := 44) rfl (by first | decide | omega) (by first | decide | omega) (fun c303 => ?_) (fun c303 => ?_)
              · skip
                refine r_ex hX hP 6 (pc' := 53) (st' := [(2, this), (0, 0), (0, 1), (2, this)]) (lo' := [(0, (2, this)), (1, (0, under)), (2, (0, lead)), (3, (0, delay)), (4, (0, 1)), (5, (0, 0))]) rfl ?_
                refine r_getKR hX hP rfl fl_X11_24_128 hS (x := acc) acc_e ?_
                refine r_getKI hX hP rfl fl_X11_107_130 acc_s (x := cnt) cnt_e ?_
                refine r_ex hX hP 1 (pc' := 61) (st' := [(0, 20), (0, cnt), (0, 0), (0, 1), (2, this)]) (lo' := [(0, (2, this)), (1, (0, under)), (2, (0, lead)), (3, (0, delay)), (4, (0, 1)), (5, (0, 0))]) rfl ?_
                refine r_ic_lt hX hP rfl (tgt := 68) rfl (by first | decide | omega) (by first | decide | omega) (by first | decide | omega) (by first | decide | omega) (fun c304 => ?_) (fun c304 => ?_)
                · skip
                  refine r_ex hX hP 2 (pc' := 70) (st' := [(0, 0), (0, 0), (0, 0), (0, 1), (2, this)]) (lo' := [(0, (2, this)), (1, (0, under)), (2, (0, lead)), (3, (0, delay)), (4, (0, 1)), (5, (0, 0))]) rfl ?_
                  refine r_callS gd hX hP rfl cs_X11_112 (d' := 0) (mc' := 0) (ms' := 0) (as' := [(0, 1), (0, 0), (0, 0), (0, 0)]) (st := [(2, this)]) (by first | decide | omega) (by first | decide | omega) (by first | decide | omega) rfl rfl (Nat.le_of_ble_eq_true rfl) (c_X11_first E S G 1 0 0 0 (by first | decide | omega) (by first | decide | omega) (by first | decide | omega) (by first | decide | omega) (by first | decide | omega) (by first | decide | omega) (by first | decide | omega) (by first | decide | omega)) ?_
                  rintro _ _ _ ⟨rfl, rfl, z305, rfl, (⟨rfl, f306⟩ | ⟨rfl, f307, f308⟩ | ⟨rfl, f309, f310, f311⟩ | ⟨rfl, f312, f313, f314, f315⟩ | ⟨rfl, f316, f317, f318, f319⟩)⟩
                  · skip
                    refine r_callV gd hX hP rfl cv_X11_90_128 hS (d' := 0) (mc' := 0) (ms' := 0) (as' := [(0, 1)]) (st := []) (by first | decide | omega) (by first | decide | omega) (by first | decide | omega) rfl rfl (Nat.le_of_ble_eq_true rfl) (c_X11_refused E S G this 1 hS (by first | decide | omega) (by first | decide | omega)) ?_
                    rintro _ _ _ ⟨rfl, ⟨G320, rfl⟩, z321, rfl, (⟨rfl, f322⟩ | ⟨rfl, f323⟩)⟩
                    · skip
                      refine r_if_eq hX hP rfl (tgt := 81) rfl (by first | decide | omega) (by first | decide | omega) (fun c324 => ?_) (fun c324 => ?_)
                      · skip
                        exfalso; omega
                      · skip
                        refine r_ex hX hP 1 (pc' := 80) (st' := [(0, (-1))]) (lo' := [(0, (2, this)), (1, (0, under)), (2, (0, lead)), (3, (0, delay)), (4, (0, 1)), (5, (0, 0))]) rfl ?_
                        exact r_retI hX hP rfl rfl (by first | decide | omega) (by first | decide | omega) ⟨rfl, ⟨_, (hw_sub (hw_refl _ _) rfl).symm⟩, (-1), rfl, cnt, cnt_e, (by first | decide | omega)⟩
                    · skip
                      exfalso; omega
                  · skip
                    exfalso; omega
                  · skip
                    exfalso; omega
                  · skip
                    exfalso; omega
                  · skip
                    exfalso; omega
                · skip
                  refine r_ex hX hP 3 (pc' := 70) (st' := [(0, 0), (0, 1), (0, 0), (0, 1), (2, this)]) (lo' := [(0, (2, this)), (1, (0, under)), (2, (0, lead)), (3, (0, delay)), (4, (0, 1)), (5, (0, 0))]) rfl ?_
                  refine r_callS gd hX hP rfl cs_X11_112 (d' := 0) (mc' := 0) (ms' := 0) (as' := [(0, 1), (0, 0), (0, 1), (0, 0)]) (st := [(2, this)]) (by first | decide | omega) (by first | decide | omega) (by first | decide | omega) rfl rfl (Nat.le_of_ble_eq_true rfl) (c_X11_first E S G 1 0 1 0 (by first | decide | omega) (by first | decide | omega) (by first | decide | omega) (by first | decide | omega) (by first | decide | omega) (by first | decide | omega) (by first | decide | omega) (by first | decide | omega)) ?_
                  rintro _ _ _ ⟨rfl, rfl, z325, rfl, (⟨rfl, f326⟩ | ⟨rfl, f327, f328⟩ | ⟨rfl, f329, f330, f331⟩ | ⟨rfl, f332, f333, f334, f335⟩ | ⟨rfl, f336, f337, f338, f339⟩)⟩
                  · skip
                    refine r_callV gd hX hP rfl cv_X11_90_128 hS (d' := 0) (mc' := 0) (ms' := 0) (as' := [(0, 1)]) (st := []) (by first | decide | omega) (by first | decide | omega) (by first | decide | omega) rfl rfl (Nat.le_of_ble_eq_true rfl) (c_X11_refused E S G this 1 hS (by first | decide | omega) (by first | decide | omega)) ?_
                    rintro _ _ _ ⟨rfl, ⟨G340, rfl⟩, z341, rfl, (⟨rfl, f342⟩ | ⟨rfl, f343⟩)⟩
                    · skip
                      refine r_if_eq hX hP rfl (tgt := 81) rfl (by first | decide | omega) (by first | decide | omega) (fun c344 => ?_) (fun c344 => ?_)
                      · skip
                        exfalso; omega
                      · skip
                        refine r_ex hX hP 1 (pc' := 80) (st' := [(0, (-1))]) (lo' := [(0, (2, this)), (1, (0, under)), (2, (0, lead)), (3, (0, delay)), (4, (0, 1)), (5, (0, 0))]) rfl ?_
                        exact r_retI hX hP rfl rfl (by first | decide | omega) (by first | decide | omega) ⟨rfl, ⟨_, (hw_sub (hw_refl _ _) rfl).symm⟩, (-1), rfl, cnt, cnt_e, (by first | decide | omega)⟩
                    · skip
                      exfalso; omega
                  · skip
                    exfalso; omega
                  · skip
                    exfalso; omega
                  · skip
                    exfalso; omega
                  · skip
                    exfalso; omega
              · skip
                exfalso; omega
            · skip
              refine r_if_ne hX hP rfl (tgt := 44) rfl (by first | decide | omega) (by first | decide | omega) (fun c345 => ?_) (fun c345 => ?_)
              · skip
                exfalso; omega
              · skip
                refine r_ex hX hP 7 (pc' := 53) (st' := [(2, this), (0, 1), (0, 1), (2, this)]) (lo' := [(0, (2, this)), (1, (0, under)), (2, (0, lead)), (3, (0, delay)), (4, (0, 1)), (5, (0, 1))]) rfl ?_
                refine r_getKR hX hP rfl fl_X11_24_128 hS (x := acc) acc_e ?_
                refine r_getKI hX hP rfl fl_X11_107_130 acc_s (x := cnt) cnt_e ?_
                refine r_ex hX hP 1 (pc' := 61) (st' := [(0, 20), (0, cnt), (0, 1), (0, 1), (2, this)]) (lo' := [(0, (2, this)), (1, (0, under)), (2, (0, lead)), (3, (0, delay)), (4, (0, 1)), (5, (0, 1))]) rfl ?_
                refine r_ic_lt hX hP rfl (tgt := 68) rfl (by first | decide | omega) (by first | decide | omega) (by first | decide | omega) (by first | decide | omega) (fun c346 => ?_) (fun c346 => ?_)
                · skip
                  refine r_ex hX hP 2 (pc' := 70) (st' := [(0, 0), (0, 0), (0, 1), (0, 1), (2, this)]) (lo' := [(0, (2, this)), (1, (0, under)), (2, (0, lead)), (3, (0, delay)), (4, (0, 1)), (5, (0, 1))]) rfl ?_
                  refine r_callS gd hX hP rfl cs_X11_112 (d' := 0) (mc' := 0) (ms' := 0) (as' := [(0, 1), (0, 1), (0, 0), (0, 0)]) (st := [(2, this)]) (by first | decide | omega) (by first | decide | omega) (by first | decide | omega) rfl rfl (Nat.le_of_ble_eq_true rfl) (c_X11_first E S G 1 1 0 0 (by first | decide | omega) (by first | decide | omega) (by first | decide | omega) (by first | decide | omega) (by first | decide | omega) (by first | decide | omega) (by first | decide | omega) (by first | decide | omega)) ?_
                  rintro _ _ _ ⟨rfl, rfl, z347, rfl, (⟨rfl, f348⟩ | ⟨rfl, f349, f350⟩ | ⟨rfl, f351, f352, f353⟩ | ⟨rfl, f354, f355, f356, f357⟩ | ⟨rfl, f358, f359, f360, f361⟩)⟩
                  · skip
                    refine r_callV gd hX hP rfl cv_X11_90_128 hS (d' := 0) (mc' := 0) (ms' := 0) (as' := [(0, 1)]) (st := []) (by first | decide | omega) (by first | decide | omega) (by first | decide | omega) rfl rfl (Nat.le_of_ble_eq_true rfl) (c_X11_refused E S G this 1 hS (by first | decide | omega) (by first | decide | omega)) ?_
                    rintro _ _ _ ⟨rfl, ⟨G362, rfl⟩, z363, rfl, (⟨rfl, f364⟩ | ⟨rfl, f365⟩)⟩
                    · skip
                      refine r_if_eq hX hP rfl (tgt := 81) rfl (by first | decide | omega) (by first | decide | omega) (fun c366 => ?_) (fun c366 => ?_)
                      · skip
                        exfalso; omega
                      · skip
                        refine r_ex hX hP 1 (pc' := 80) (st' := [(0, (-1))]) (lo' := [(0, (2, this)), (1, (0, under)), (2, (0, lead)), (3, (0, delay)), (4, (0, 1)), (5, (0, 1))]) rfl ?_
                        exact r_retI hX hP rfl rfl (by first | decide | omega) (by first | decide | omega) ⟨rfl, ⟨_, (hw_sub (hw_refl _ _) rfl).symm⟩, (-1), rfl, cnt, cnt_e, (by first | decide | omega)⟩
                    · skip
                      exfalso; omega
                  · skip
                    exfalso; omega
                  · skip
                    exfalso; omega
                  · skip
                    exfalso; omega
                  · skip
                    exfalso; omega
                · skip
                  refine r_ex hX hP 3 (pc' := 70) (st' := [(0, 0), (0, 1), (0, 1), (0, 1), (2, this)]) (lo' := [(0, (2, this)), (1, (0, under)), (2, (0, lead)), (3, (0, delay)), (4, (0, 1)), (5, (0, 1))]) rfl ?_
                  refine r_callS gd hX hP rfl cs_X11_112 (d' := 0) (mc' := 0) (ms' := 0) (as' := [(0, 1), (0, 1), (0, 1), (0, 0)]) (st := [(2, this)]) (by first | decide | omega) (by first | decide | omega) (by first | decide | omega) rfl rfl (Nat.le_of_ble_eq_true rfl) (c_X11_first E S G 1 1 1 0 (by first | decide | omega) (by first | decide | omega) (by first | decide | omega) (by first | decide | omega) (by first | decide | omega) (by first | decide | omega) (by first | decide | omega) (by first | decide | omega)) ?_
                  rintro _ _ _ ⟨rfl, rfl, z367, rfl, (⟨rfl, f368⟩ | ⟨rfl, f369, f370⟩ | ⟨rfl, f371, f372, f373⟩ | ⟨rfl, f374, f375, f376, f377⟩ | ⟨rfl, f378, f379, f380, f381⟩)⟩
                  · skip
                    refine r_callV gd hX hP rfl cv_X11_90_128 hS (d' := 0) (mc' := 0) (ms' := 0) (as' := [(0, 1)]) (st := []) (by first | decide | omega) (by first | decide | omega) (by first | decide | omega) rfl rfl (Nat.le_of_ble_eq_true rfl) (c_X11_refused E S G this 1 hS (by first | decide | omega) (by first | decide | omega)) ?_
                    rintro _ _ _ ⟨rfl, ⟨G382, rfl⟩, z383, rfl, (⟨rfl, f384⟩ | ⟨rfl, f385⟩)⟩
                    · skip
                      refine r_if_eq hX hP rfl (tgt := 81) rfl (by first | decide | omega) (by first | decide | omega) (fun c386 => ?_) (fun c386 => ?_)
                      · skip
                        exfalso; omega
                      · skip
                        refine r_ex hX hP 1 (pc' := 80) (st' := [(0, (-1))]) (lo' := [(0, (2, this)), (1, (0, under)), (2, (0, lead)), (3, (0, delay)), (4, (0, 1)), (5, (0, 1))]) rfl ?_
                        exact r_retI hX hP rfl rfl (by first | decide | omega) (by first | decide | omega) ⟨rfl, ⟨_, (hw_sub (hw_refl _ _) rfl).symm⟩, (-1), rfl, cnt, cnt_e, (by first | decide | omega)⟩
                    · skip
                      exfalso; omega
                  · skip
                    exfalso; omega
                  · skip
                    exfalso; omega
                  · skip
                    exfalso; omega
                  · skip
                    exfalso; omega
        · skip
          refine r_if_eq hX hP rfl (tgt := 40) rfl (by first | decide | omega) (by first | decide | omega) (fun c387 => ?_) (fun c387 => ?_)
          · skip
            refine r_ex hX hP 7 (pc' := 53) (st' := [(2, this), (0, 1), (0, 1), (2, this)]) (lo' := [(0, (2, this)), (1, (0, under)), (2, (0, lead)), (3, (0, delay)), (4, (0, 1)), (5, (0, 1))]) rfl ?_
            refine r_getKR hX hP rfl fl_X11_24_128 hS (x := acc) acc_e ?_
            refine r_getKI hX hP rfl fl_X11_107_130 acc_s (x := cnt) cnt_e ?_
            refine r_ex hX hP 1 (pc' := 61) (st' := [(0, 20), (0, cnt), (0, 1), (0, 1), (2, this)]) (lo' := [(0, (2, this)), (1, (0, under)), (2, (0, lead)), (3, (0, delay)), (4, (0, 1)), (5, (0, 1))]) rfl ?_
            refine r_ic_lt hX hP rfl (tgt := 68) rfl (by first | decide | omega) (by first | decide | omega) (by first | decide | omega) (by first | decide | omega) (fun c388 => ?_) (fun c388 => ?_)
            · skip
              refine r_ex hX hP 2 (pc' := 70) (st' := [(0, 0), (0, 0), (0, 1), (0, 1), (2, this)]) (lo' := [(0, (2, this)), (1, (0, under)), (2, (0, lead)), (3, (0, delay)), (4, (0, 1)), (5, (0, 1))]) rfl ?_
              refine r_callS gd hX hP rfl cs_X11_112 (d' := 0) (mc' := 0) (ms' := 0) (as' := [(0, 1), (0, 1), (0, 0), (0, 0)]) (st := [(2, this)]) (by first | decide | omega) (by first | decide | omega) (by first | decide | omega) rfl rfl (Nat.le_of_ble_eq_true rfl) (c_X11_first E S G 1 1 0 0 (by first | decide | omega) (by first | decide | omega) (by first | decide | omega) (by first | decide | omega) (by first | decide | omega) (by first | decide | omega) (by first | decide | omega) (by first | decide | omega)) ?_
              rintro _ _ _ ⟨rfl, rfl, z389, rfl, (⟨rfl, f390⟩ | ⟨rfl, f391, f392⟩ | ⟨rfl, f393, f394, f395⟩ | ⟨rfl, f396, f397, f398, f399⟩ | ⟨rfl, f400, f401, f402, f403⟩)⟩
              · skip
                refine r_callV gd hX hP rfl cv_X11_90_128 hS (d' := 0) (mc' := 0) (ms' := 0) (as' := [(0, 1)]) (st := []) (by first | decide | omega) (by first | decide | omega) (by first | decide | omega) rfl rfl (Nat.le_of_ble_eq_true rfl) (c_X11_refused E S G this 1 hS (by first | decide | omega) (by first | decide | omega)) ?_
                rintro _ _ _ ⟨rfl, ⟨G404, rfl⟩, z405, rfl, (⟨rfl, f406⟩ | ⟨rfl, f407⟩)⟩
                · skip
                  refine r_if_eq hX hP rfl (tgt := 81) rfl (by first | decide | omega) (by first | decide | omega) (fun c408 => ?_) (fun c408 => ?_)
                  · skip
                    exfalso; omega
                  · skip
                    refine r_ex hX hP 1 (pc' := 80) (st' := [(0, (-1))]) (lo' := [(0, (2, this)), (1, (0, under)), (2, (0, lead)), (3, (0, delay)), (4, (0, 1)), (5, (0, 1))]) rfl ?_
                    exact r_retI hX hP rfl rfl (by first | decide | omega) (by first | decide | omega) ⟨rfl, ⟨_, (hw_sub (hw_refl _ _) rfl).symm⟩, (-1), rfl, cnt, cnt_e, (by first | decide | omega)⟩
                · skip
                  exfalso; omega
              · skip
                exfalso; omega
              · skip
                exfalso; omega
              · skip
                exfalso; omega
              · skip
                exfalso; omega
            · skip
              refine r_ex hX hP 3 (pc' := 70) (st' := [(0, 0), (0, 1), (0, 1), (0, 1), (2, this)]) (lo' := [(0, (2, this)), (1, (0, under)), (2, (0, lead)), (3, (0, delay)), (4, (0, 1)), (5, (0, 1))]) rfl ?_
              refine r_callS gd hX hP rfl cs_X11_112 (d' := 0) (mc' := 0) (ms' := 0) (as' := [(0, 1), (0, 1), (0, 1), (0, 0)]) (st := [(2, this)]) (by first | decide | omega) (by first | decide | omega) (by first | decide | omega) rfl rfl (Nat.le_of_ble_eq_true rfl) (c_X11_first E S G 1 1 1 0 (by first | decide | omega) (by first | decide | omega) (by first | decide | omega) (by first | decide | omega) (by first | decide | omega) (by first | decide | omega) (by first | decide | omega) (by first | decide | omega)) ?_
              rintro _ _ _ ⟨rfl, rfl, z409, rfl, (⟨rfl, f410⟩ | ⟨rfl, f411, f412⟩ | ⟨rfl, f413, f414, f415⟩ | ⟨rfl, f416, f417, f418, f419⟩ | ⟨rfl, f420, f421, f422, f423⟩)⟩
              · skip
                refine r_callV gd hX hP rfl cv_X11_90_128 hS (d' := 0) (mc' := 0) (ms' := 0) (as' := [(0, 1)]) (st := []) (by first | decide | omega) (by first | decide | omega) (by first | decide | omega) rfl rfl (Nat.le_of_ble_eq_true rfl) (c_X11_refused E S G this 1 hS (by first | decide | omega) (by first | decide | omega)) ?_
                rintro _ _ _ ⟨rfl, ⟨G424, rfl⟩, z425, rfl, (⟨rfl, f426⟩ | ⟨rfl, f427⟩)⟩
                · skip
                  refine r_if_eq hX hP rfl (tgt := 81) rfl (by first | decide | omega) (by first | decide | omega) (fun c428 => ?_) (fun c428 => ?_)
                  · skip
                    exfalso; omega
                  · skip
                    refine r_ex hX hP 1 (pc' := 80) (st' := [(0, (-1))]) (lo' := [(0, (2, this)), (1, (0, under)), (2, (0, lead)), (3, (0, delay)), (4, (0, 1)), (5, (0, 1))]) rfl ?_
                    exact r_retI hX hP rfl rfl (by first | decide | omega) (by first | decide | omega) ⟨rfl, ⟨_, (hw_sub (hw_refl _ _) rfl).symm⟩, (-1), rfl, cnt, cnt_e, (by first | decide | omega)⟩
                · skip
                  exfalso; omega
              · skip
                exfalso; omega
              · skip
                exfalso; omega
              · skip
                exfalso; omega
              · skip
                exfalso; omega
          · skip
            exfalso; omega
