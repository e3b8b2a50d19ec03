set_option maxRecDepth 100000 in
set_option maxHeartbeats 4000000 in
theorem c_X12_bracesR (E : En) (S : Sg) (G : Gh) (w ch : Int) (hS : S (Ad E 1) = 1) (newMany : Int) (newMany_e : newMany = G 1 (Ad E 1) 88) (w_a : 0 ≤ w) (w_b : w ≤ 2) (ch_a : (-1) ≤ ch) (ch_b : ch ≤ 2) (dA : Nat) (hA : RAR E S dA (w + 1)) (TT : Tp) (nn : Int) (sr : Rg) (rd : RdM E TT nn sr G) (ob : Int) (pre0 : sr 8 = w) (pre1 : 0 ≤ sr 9) (pre2 : (pPu TT nn ob sr 1 ≠ 0 ∨ ((ch = -1 ∧ pRw (pPu TT nn ob sr) = 3) ∨ (0 ≤ ch ∧ pRw (pPu TT nn ob sr) = ch)))) : Calls E mX12_braces [(2, (Ad E 1)), (0, w), (0, ch)] S G (dA + 4) 0 0 (fun r S' G' => S = S' ∧ (∃ G1, hv [80, 81, 82, 83, 84, 85, 86, 87, 88, 89, 90, 91, 92] [62, 63, 64, 65, 66, 67, 68, 69, 70, 71] G G1 = G') ∧ r = none ∧ ∃ bad' : Int, bad' = G' 1 (Ad E 1) 80 ∧ ∃ n' : Int, n' = G' 1 (Ad E 1) 88 ∧ newMany ≤ n' ∧ FRZ E G G' newMany (-1) ∧ (1 ≤ bad' ∨ NI E G' newMany n' n') ∧ (∃ kq : Nat, RdM E TT nn (pSg TT nn 125 (pIt TT nn kq (pPu TT nn ob sr))) G' ∧ (BRF TT nn (pPu TT nn ob sr) (pIt TT nn kq (pPu TT nn ob sr))))) := by
  refine calls_by [(0, (2, (Ad E 1))), (1, (0, w)), (2, (0, ch))] rfl rfl (Nat.le_of_ble_eq_true rfl) (fun X hX => ?_)
  have hP := hPX12_braces
  refine r_peekI hX (tl1 88 rfl (by decide)) hS (fun newMany_o newMany_oe newMany_oa newMany_ob => ?_)
  obtain rfl : newMany = newMany_o := newMany_e.trans newMany_oe.symm
  have k1 := rm_nm rd
  have k1 := k1.imp id (fun w => newMany_e.trans w)
  refine r_ex hX hP 2 (pc' := 3) (st' := [(0, 123), (2, (Ad E 1))]) (lo' := [(0, (2, (Ad E 1))), (1, (0, w)), (2, (0, ch))]) rfl ?_
  refine r_peekI hX (tl1 80 rfl (by decide)) hS (fun bap2 bap2e bap2a bap2b => ?_)
  have k3 := rm_bad rd
  have k3 := bap2e.trans k3
  refine r_callV gd hX hP rfl cv_12_427 hS (d' := 2) (mc' := 0) (ms' := 0) (as' := [(0, 123)]) (st := []) (by first | decide | omega) (by first | decide | omega) (by first | decide | omega) rfl rfl (Nat.le_of_ble_eq_true rfl) (c_X12_signR E S G 123 hS bap2 bap2e (by first | decide | omega) (by first | decide | omega) (by first | decide | omega) TT nn sr rd) ?_
  rintro _ _ _ ⟨rfl, ⟨G4, rfl⟩, rfl, bah5, bah5e, f6, r7⟩
  have k8 := rm_bad r7
  have k8 := bah5e.trans k8
  refine r_peekI hX (tl1 80 rfl (by decide)) hS (fun o9 o9e o9a o9b => ?_)
  obtain rfl : bah5 = o9 := bah5e.trans o9e.symm
  have rd10 := rm_eqr r7 (pu_eqr TT nn ob sr)
  refine r_ex hX hP 5 (pc' := 11) (st' := [(0, ch), (0, (w + 1)), (2, (Ad E 1))]) (lo' := [(0, (2, (Ad E 1))), (1, (0, w)), (2, (0, ch))]) rfl ?_
  refine r_callV gd hX hP rfl cv_12_431 hS (d' := dA) (mc' := 0) (ms' := 0) (as' := [(0, (w + 1)), (0, ch)]) (st := []) (by first | decide | omega) (by first | decide | omega) (by first | decide | omega) rfl rfl (Nat.le_of_ble_eq_true rfl) (hA (hv [80, 81, 82, 83, 84, 85, 86, 87] [] G G4) ch hS newMany newMany_e (by first | decide | omega) (by first | decide | omega) TT nn (pPu TT nn ob sr) rd10 (pu_all TT nn (o := ob) pre0 pre1 (by first | decide | omega) pre2)) ?_
  rintro _ _ _ ⟨rfl, ⟨G11, rfl⟩, rfl, bah12, bah12e, neh13, neh13e, f16, q14, q15, r17⟩
  obtain ⟨q18, rd19, c20⟩ := r17
  have k21 := rm_bad rd19
  have k21 := bah12e.trans k21
  have k22 := rm_nm rd19
  have k22 := k22.imp id (fun w => neh13e.trans w)
  refine r_peekI hX (tl1 80 rfl (by decide)) hS (fun o23 o23e o23a o23b => ?_)
  obtain rfl : bah12 = o23 := bah12e.trans o23e.symm
  refine r_peekI hX (tl1 88 rfl (by decide)) hS (fun o24 o24e o24a o24b => ?_)
  obtain rfl : neh13 = o24 := neh13e.trans o24e.symm
  refine r_ex hX hP 2 (pc' := 17) (st' := [(0, 125), (2, (Ad E 1))]) (lo' := [(0, (2, (Ad E 1))), (1, (0, w)), (2, (0, ch))]) rfl ?_
  refine r_callV gd hX hP rfl cv_12_427 hS (d' := 2) (mc' := 0) (ms' := 0) (as' := [(0, 125)]) (st := []) (by first | decide | omega) (by first | decide | omega) (by first | decide | omega) rfl rfl (Nat.le_of_ble_eq_true rfl) (c_X12_signR E S (hv [80, 81, 82, 83, 84, 85, 86, 87, 88, 89, 90, 91, 92] [62, 63, 64, 65, 66, 67, 68, 69, 70, 71] (hv [80, 81, 82, 83, 84, 85, 86, 87] [] G G4) G11) 125 hS bah12 bah12e (by first | decide | omega) (by first | decide | omega) (by first | decide | omega) TT nn (pIt TT nn q18 (pPu TT nn ob sr)) rd19) ?_
  rintro _ _ _ ⟨rfl, ⟨G25, rfl⟩, rfl, bah26, bah26e, f27, r28⟩
  have k29 := rm_bad r28
  have k29 := bah26e.trans k29
  refine r_peekI hX (tl1 80 rfl (by decide)) hS (fun o30 o30e o30a o30b => ?_)
  obtain rfl : bah26 = o30 := bah26e.trans o30e.symm
  exact r_retV hX hP rfl rfl (by first | decide | omega) (by first | decide | omega) ⟨rfl, ⟨_, (hq_call (hq_call (hq_call (hq_refl _ _ _) rfl) rfl) rfl).symm⟩, rfl, bah26, bah26e, neh13, neh13e, (by first | decide | omega), (frz_trans (m := newMany) (x := -1) (fun _ _ _ _ => ⟨rfl, rfl, rfl, rfl, rfl, rfl⟩) (frz_trans q14 (fun _ _ _ _ => ⟨rfl, rfl, rfl, rfl, rfl, rfl⟩) (Int.le_refl _) (fun _ _ _ h => h)) (by first | decide | omega) (fun _ _ _ h => h)), ((Int.lt_or_le 0 bah26).elim (fun hb => Or.inl (by first | decide | omega)) (fun hb => Or.inr (ni_frz (q15.resolve_left (by first | decide | omega)) (m := 1000) (x := -1) (fun _ _ _ _ => ⟨rfl, rfl, rfl, rfl, rfl, rfl⟩) (by first | decide | omega) (by first | decide | omega) (fun i _ _ => by omega) (Int.le_refl _)))), ⟨q18, r28, br_of TT nn (c20.imp id (fun h => ⟨h.1, h.2.1, by have := h.2.2; omega⟩))⟩⟩
set_option maxRecDepth 100000 in
set_option maxHeartbeats 4000000 in
theorem c_X12_readWhenR (E : En) (S : Sg) (G : Gh) (c w ch : Int) (hS : S (Ad E 1) = 1) (newMany : Int) (newMany_e : newMany = G 1 (Ad E 1) 88) (kd : Int) (kd_e : kd = G 63 (Ad E 63) c) (c_a : 0 ≤ c) (c_b : c ≤ 29) (w_a : 0 ≤ w) (w_b : w ≤ 2) (ch_a : (-1) ≤ ch) (ch_b : ch ≤ 2) (pre4 : c < newMany) (dA : Nat) (hA : RAR E S dA (w + 1)) (TT : Tp) (nn : Int) (sr : Rg) (rd : RdM E TT nn sr G) (pre0 : sr 1 = 0) (pre1 : sr 8 = w) (pre2 : 0 ≤ sr 9) (pre3 : ((ch = -1 ∧ pRw sr = 3) ∨ (0 ≤ ch ∧ pRw sr = ch))) : Calls E mX12_readWhen [(2, (Ad E 1)), (0, c), (0, w), (0, ch)] S G (dA + 6) 0 0 (fun r S' G' => S = S' ∧ (∃ G1, hv [80, 81, 82, 83, 84, 85, 86, 87, 88, 89, 90, 91, 92] [62, 63, 64, 65, 66, 67, 68, 69, 70, 71] G G1 = G') ∧ r = none ∧ ∃ bad' : Int, bad' = G' 1 (Ad E 1) 80 ∧ ∃ n' : Int, n' = G' 1 (Ad E 1) 88 ∧ ∃ kd' : Int, kd' = G' 63 (Ad E 63) c ∧ ∃ md' : Int, md' = G' 67 (Ad E 67) c ∧ newMany ≤ n' ∧ kd' = kd ∧ FRZ E G G' newMany c ∧ (1 ≤ bad' ∨ (NI E G' newMany n' n' ∧ c < md' ∧ md' ≤ n')) ∧ (∃ kq : Nat, RdM E TT nn (pIt TT nn kq (pWh TT nn sr)) G' ∧ ((pIt TT nn kq (pWh TT nn sr)) 1 ≠ 0 ∨ KP sr (pIt TT nn kq (pWh TT nn sr))))) := by
  refine calls_by [(0, (2, (Ad E 1))), (1, (0, c)), (2, (0, w)), (3, (0, ch))] rfl rfl (Nat.le_of_ble_eq_true rfl) (fun X hX => ?_)
  have hP := hPX12_readWhen
  refine r_peekI hX (tl1 88 rfl (by decide)) hS (fun newMany_o newMany_oe newMany_oa newMany_ob => ?_)
  obtain rfl : newMany = newMany_o := newMany_e.trans newMany_oe.symm
  refine r_labC hX (tl1 94 rfl (by decide)) hS (fun s1 => ?_)
  refine r_apeekI hX al_63 s1 (i := c) (by first | decide | omega) (by first | decide | omega) (fun kd_o kd_oe kd_oa kd_ob => ?_)
  obtain rfl : kd = kd_o := kd_e.trans kd_oe.symm
  have k2 := rm_nm rd
  have k2 := k2.imp id (fun w => newMany_e.trans w)
  refine r_ex hX hP 7 (pc' := 10) (st' := [(0, 0), (0, 0), (0, 0), (0, 115), (0, 97), (0, 104), (2, (Ad E 1))]) (lo' := [(0, (2, (Ad E 1))), (1, (0, c)), (2, (0, w)), (3, (0, ch))]) rfl ?_
  refine r_callS gd hX hP rfl cs_12_405 (d' := 0) (mc' := 0) (ms' := 0) (as' := [(0, 104), (0, 97), (0, 115), (0, 0), (0, 0), (0, 0)]) (st := [(2, (Ad E 1))]) (by first | decide | omega) (by first | decide | omega) (by first | decide | omega) rfl rfl (Nat.le_of_ble_eq_true rfl) (c_X12_spelledR E S G 104 97 115 0 0 0 (by first | decide | omega) (by first | decide | omega) (by first | decide | omega) (by first | decide | omega) (by first | decide | omega) (by first | decide | omega) (by first | decide | omega) (by first | decide | omega) (by first | decide | omega) (by first | decide | omega) (by first | decide | omega) (by first | decide | omega)) ?_
  rintro _ _ _ ⟨rfl, rfl, z3, rfl, z3a, z3b, f4⟩
  have k5 := (show sp6 104 97 115 0 0 0 = 8243 from by decide)
  refine r_peekI hX (tl1 80 rfl (by decide)) hS (fun bap6 bap6e bap6a bap6b => ?_)
  have k7 := rm_bad rd
  have k7 := bap6e.trans k7
  have k8 : z3 = wW 15 := by have e : wW 15 = 8243 := (by decide +kernel); omega
  refine r_callV gd hX hP rfl cv_12_466 hS (d' := 2) (mc' := 0) (ms' := 0) (as' := [(1, z3)]) (st := []) (by first | decide | omega) (by first | decide | omega) (by first | decide | omega) rfl rfl (Nat.le_of_ble_eq_true rfl) (c_X12_wordIsR E S G z3 hS bap6 bap6e (by first | decide | omega) (by first | decide | omega) TT nn sr rd 15 k8 (by decide)) ?_
  rintro _ _ _ ⟨rfl, ⟨G9, rfl⟩, rfl, bah10, bah10e, f11, r12⟩
  have k13 := rm_bad r12
  have k13 := bah10e.trans k13
  refine r_peekI hX (tl1 80 rfl (by decide)) hS (fun o14 o14e o14a o14b => ?_)
  obtain rfl : bah10 = o14 := bah10e.trans o14e.symm
  have j91 : ∀ (Gj91 : Gh), FRZ E G (hv [80, 81, 82, 83, 84, 85, 86, 87] [64, 65] (hv [80, 81, 82, 83, 84, 85, 86, 87] [] G G9) Gj91) newMany c → RdM E TT nn (pSt (pNb TT nn 0 9999999 (pCo TT nn (pKd TT nn 15 sr)))) (hv [80, 81, 82, 83, 84, 85, 86, 87] [64, 65] (hv [80, 81, 82, 83, 84, 85, 86, 87] [] G G9) Gj91) → X 0 0 91 [] [(0, (2, (Ad E 1))), (1, (0, c)), (2, (0, w)), (3, (0, ch))] S (hv [80, 81, 82, 83, 84, 85, 86, 87] [64, 65] (hv [80, 81, 82, 83, 84, 85, 86, 87] [] G G9) Gj91) := by
    intro Gj91 yj91_0 yj91_1
    have kp15 := wh_kp TT nn sr
    refine r_ex hX hP 3 (pc' := 94) (st' := [(0, ch), (0, w), (2, (Ad E 1))]) (lo' := [(0, (2, (Ad E 1))), (1, (0, c)), (2, (0, w)), (3, (0, ch))]) rfl ?_
    refine r_callV gd hX hP rfl cv_12_481 hS (d' := dA + 4) (mc' := 0) (ms' := 0) (as' := [(0, w), (0, ch)]) (st := []) (by first | decide | omega) (by first | decide | omega) (by first | decide | omega) rfl rfl (Nat.le_of_ble_eq_true rfl) (c_X12_bracesR E S (hv [80, 81, 82, 83, 84, 85, 86, 87] [64, 65] (hv [80, 81, 82, 83, 84, 85, 86, 87] [] G G9) Gj91) w ch hS newMany newMany_e (by first | decide | omega) (by first | decide | omega) (by first | decide | omega) (by first | decide | omega) dA hA TT nn (pSt (pNb TT nn 0 9999999 (pCo TT nn (pKd TT nn 15 sr)))) yj91_1 (sr 9 * 2) ((kp_8 kp15).trans pre1) (Int.le_trans pre2 (kp_9 kp15)) (pu_chc TT nn (o := (sr 9 * 2)) kp15 (by first | decide | omega) (by first | decide | omega) (by first | decide | omega) pre3)) ?_
    rintro _ _ _ ⟨rfl, ⟨G16, rfl⟩, rfl, bah17, bah17e, neh18, neh18e, f21, q19, q20, r22⟩
    obtain ⟨q23, rd24, c25⟩ := r22
    have k26 := rm_bad rd24
    have k26 := bah17e.trans k26
    have k27 := rm_nm rd24
    have k27 := k27.imp id (fun w => neh18e.trans w)
    refine r_peekI hX (tl1 80 rfl (by decide)) hS (fun o28 o28e o28a o28b => ?_)
    obtain rfl : bah17 = o28 := bah17e.trans o28e.symm
    refine r_peekI hX (tl1 88 rfl (by decide)) hS (fun o29 o29e o29a o29b => ?_)
    obtain rfl : neh18 = o29 := neh18e.trans o29e.symm
    have e30 : kd = (hv [80, 81, 82, 83, 84, 85, 86, 87, 88, 89, 90, 91, 92] [62, 63, 64, 65, 66, 67, 68, 69, 70, 71] (hv [80, 81, 82, 83, 84, 85, 86, 87] [64, 65] (hv [80, 81, 82, 83, 84, 85, 86, 87] [] G G9) Gj91) G16) 63 (Ad E 63) c := (show kd = (hv [80, 81, 82, 83, 84, 85, 86, 87] [64, 65] (hv [80, 81, 82, 83, 84, 85, 86, 87] [] G G9) Gj91) 63 (Ad E 63) c from kd_e).trans (q19 c (by first | decide | omega) (by first | decide | omega) (by first | decide | omega)).1.symm
    refine r_ex hX hP 1 (pc' := 98) (st' := [(2, (Ad E 1))]) (lo' := [(0, (2, (Ad E 1))), (1, (0, c)), (2, (0, w)), (3, (0, ch))]) rfl ?_
    refine r_getC hX hP rfl fl_12_226 hS (fun s31 => ?_)
    refine r_ex hX hP 2 (pc' := 103) (st' := [(2, (Ad E 1)), (0, c), (2, (Ad E 67))]) (lo' := [(0, (2, (Ad E 1))), (1, (0, c)), (2, (0, w)), (3, (0, ch))]) rfl ?_
    refine r_getKI hX hP rfl fl_12_438 hS (x := neh18) neh18e ?_
    refine r_iastK hX hP rfl al_67 s31 (by first | decide | omega) (by first | decide | omega) (by first | decide | omega) (by first | decide | omega) (fun h32 => ?_)
    refine r_ex hX hP 1 (pc' := 108) (st' := [(2, (Ad E 1))]) (lo' := [(0, (2, (Ad E 1))), (1, (0, c)), (2, (0, w)), (3, (0, ch))]) rfl ?_
    refine r_getKI hX hP rfl fl_12_382 hS (x := bah17) bah17e ?_
    refine r_if_gt hX hP rfl (tgt := 134) rfl (by first | decide | omega) (by first | decide | omega) (fun c33 => ?_) (fun c33 => ?_)
    · skip
      have hT34 : pIt TT nn q23 (pWh TT nn sr) = pIt TT nn q23 (pPu TT nn (sr 9 * 2) (pSt (pNb TT nn 0 9999999 (pCo TT nn (pKd TT nn 15 sr))))) := rfl
      have hT34b := br_bad TT nn c25 (by first | decide | omega)
      exact r_retV hX hP rfl rfl (by first | decide | omega) (by first | decide | omega) ⟨rfl, ⟨_, (hq_up (hq_call (hq_loop (hq_call (hq_refl _ _ _) rfl) rfl) rfl) rfl).symm⟩, rfl, bah17, bah17e, neh18, neh18e, kd, e30, neh18, h32, (by first | decide | omega), (by first | decide | omega), (frz_trans (m := newMany) (x := c) (frz_trans (m := newMany) (x := c) (frz_trans (m := newMany) (x := c) yj91_0 (show FRZ E (hv [80, 81, 82, 83, 84, 85, 86, 87] [64, 65] (hv [80, 81, 82, 83, 84, 85, 86, 87] [] G G9) Gj91) (hv [80, 81, 82, 83, 84, 85, 86, 87] [64, 65] (hv [80, 81, 82, 83, 84, 85, 86, 87] [] G G9) Gj91) newMany c from fun i h0 hi hx => ⟨rfl, rfl, rfl, rfl, rfl, rfl⟩) (Int.le_refl _) (fun i _ _ h => h)) q19 (Int.le_refl _) (fun i _ h _ => by omega)) (show FRZ E (hv [80, 81, 82, 83, 84, 85, 86, 87, 88, 89, 90, 91, 92] [62, 63, 64, 65, 66, 67, 68, 69, 70, 71] (hv [80, 81, 82, 83, 84, 85, 86, 87] [64, 65] (hv [80, 81, 82, 83, 84, 85, 86, 87] [] G G9) Gj91) G16) (up (hv [80, 81, 82, 83, 84, 85, 86, 87, 88, 89, 90, 91, 92] [62, 63, 64, 65, 66, 67, 68, 69, 70, 71] (hv [80, 81, 82, 83, 84, 85, 86, 87] [64, 65] (hv [80, 81, 82, 83, 84, 85, 86, 87] [] G G9) Gj91) G16) 67 (Ad E 67) c neh18) newMany c from fun i h0 hi hx => ⟨rfl, rfl, rfl, rfl, ((show (up (hv [80, 81, 82, 83, 84, 85, 86, 87, 88, 89, 90, 91, 92] [62, 63, 64, 65, 66, 67, 68, 69, 70, 71] (hv [80, 81, 82, 83, 84, 85, 86, 87] [64, 65] (hv [80, 81, 82, 83, 84, 85, 86, 87] [] G G9) Gj91) G16) 67 (Ad E 67) c neh18) 67 (Ad E 67) i = _ from up_ne (fun q => absurd q.2.2 hx)).trans rfl), rfl⟩) (Int.le_refl _) (fun i _ _ h => h)), (Or.inl (by first | decide | omega)), ⟨q23, rm_cast rd24 ((pSg_id TT nn hT34b).trans hT34.symm), by rw [hT34]; exact Or.inl hT34b⟩⟩
    · skip
      obtain ⟨a35a, a35b, a35c, a35d⟩ := br_ok TT nn c25 (by first | decide | omega)
      clear c25
      have rd36 := rm_cast rd24 a35d
      refine r_ex hX hP 7 (pc' := 125) (st' := [(0, 0), (0, 0), (0, 101), (0, 115), (0, 108), (0, 101), (2, (Ad E 1))]) (lo' := [(0, (2, (Ad E 1))), (1, (0, c)), (2, (0, w)), (3, (0, ch))]) rfl ?_
      refine r_callS gd hX hP rfl cs_12_405 (d' := 0) (mc' := 0) (ms' := 0) (as' := [(0, 101), (0, 108), (0, 115), (0, 101), (0, 0), (0, 0)]) (st := [(2, (Ad E 1))]) (by first | decide | omega) (by first | decide | omega) (by first | decide | omega) rfl rfl (Nat.le_of_ble_eq_true rfl) (c_X12_spelledR E S (up (hv [80, 81, 82, 83, 84, 85, 86, 87, 88, 89, 90, 91, 92] [62, 63, 64, 65, 66, 67, 68, 69, 70, 71] (hv [80, 81, 82, 83, 84, 85, 86, 87] [64, 65] (hv [80, 81, 82, 83, 84, 85, 86, 87] [] G G9) Gj91) G16) 67 (Ad E 67) c neh18) 101 108 115 101 0 0 (by first | decide | omega) (by first | decide | omega) (by first | decide | omega) (by first | decide | omega) (by first | decide | omega) (by first | decide | omega) (by first | decide | omega) (by first | decide | omega) (by first | decide | omega) (by first | decide | omega) (by first | decide | omega) (by first | decide | omega)) ?_
      rintro _ _ _ ⟨rfl, rfl, z37, rfl, z37a, z37b, f38⟩
      have k39 := (show sp6 101 108 115 101 0 0 = 176741 from by decide)
      refine r_callV gd hX hP rfl cv_12_401 hS (d' := 0) (mc' := 0) (ms' := 0) (as' := [(1, z37)]) (st := []) (by first | decide | omega) (by first | decide | omega) (by first | decide | omega) rfl rfl (Nat.le_of_ble_eq_true rfl) (c_X12_isWordR E S (up (hv [80, 81, 82, 83, 84, 85, 86, 87, 88, 89, 90, 91, 92] [62, 63, 64, 65, 66, 67, 68, 69, 70, 71] (hv [80, 81, 82, 83, 84, 85, 86, 87] [64, 65] (hv [80, 81, 82, 83, 84, 85, 86, 87] [] G G9) Gj91) G16) 67 (Ad E 67) c neh18) z37 hS (by first | decide | omega) (by first | decide | omega) TT nn (pAv TT nn (pIt TT nn q23 (pPu TT nn (sr 9 * 2) (pSt (pNb TT nn 0 9999999 (pCo TT nn (pKd TT nn 15 sr))))))) rd36) ?_
      rintro _ _ _ ⟨rfl, rfl, z40, rfl, z40a, z40b, f41, r42⟩
      have k43 := isw_eq (T := TT) (n := nn) (p := (pAv TT nn (pIt TT nn q23 (pPu TT nn (sr 9 * 2) (pSt (pNb TT nn 0 9999999 (pCo TT nn (pKd TT nn 15 sr))))))) 0) (k := 0) (lit := 176741) (by decide) (by decide +kernel) (show z37 = 176741 from by omega) f41
      clear f41
      have k44 := wq_tk TT nn ((pAv TT nn (pIt TT nn q23 (pPu TT nn (sr 9 * 2) (pSt (pNb TT nn 0 9999999 (pCo TT nn (pKd TT nn 15 sr))))))) 0) 0
      refine r_if_ne hX hP rfl (tgt := 135) rfl (by first | decide | omega) (by first | decide | omega) (fun c45 => ?_) (fun c45 => ?_)
      · skip
        refine r_ex hX hP 1 (pc' := 136) (st' := [(2, (Ad E 1))]) (lo' := [(0, (2, (Ad E 1))), (1, (0, c)), (2, (0, w)), (3, (0, ch))]) rfl ?_
        refine r_callV gd hX hP rfl cv_12_398 hS (d' := 1) (mc' := 0) (ms' := 0) (as' := []) (st := []) (by first | decide | omega) (by first | decide | omega) (by first | decide | omega) rfl rfl (Nat.le_of_ble_eq_true rfl) (c_X12_nextR E S (up (hv [80, 81, 82, 83, 84, 85, 86, 87, 88, 89, 90, 91, 92] [62, 63, 64, 65, 66, 67, 68, 69, 70, 71] (hv [80, 81, 82, 83, 84, 85, 86, 87] [64, 65] (hv [80, 81, 82, 83, 84, 85, 86, 87] [] G G9) Gj91) G16) 67 (Ad E 67) c neh18)  hS TT nn (pAv TT nn (pIt TT nn q23 (pPu TT nn (sr 9 * 2) (pSt (pNb TT nn 0 9999999 (pCo TT nn (pKd TT nn 15 sr))))))) r42) ?_
        rintro _ _ _ ⟨rfl, ⟨G46, rfl⟩, rfl, r47⟩
        have rd48 := rm_eqr r47 (eqr_88 TT nn (pIt TT nn q23 (pPu TT nn (sr 9 * 2) (pSt (pNb TT nn 0 9999999 (pCo TT nn (pKd TT nn 15 sr)))))) ((pIt TT nn q23 (pPu TT nn (sr 9 * 2) (pSt (pNb TT nn 0 9999999 (pCo TT nn (pKd TT nn 15 sr)))))) 8 - 1))
        obtain ⟨b49a, b49b, b49c⟩ := bk_ce TT nn kp15 (by first | decide | omega) (by first | decide | omega) (show (pIt TT nn q23 (pPu TT nn (sr 9 * 2) (pSt (pNb TT nn 0 9999999 (pCo TT nn (pKd TT nn 15 sr)))))) = _ from rfl) a35a a35c
        have ce50 := ce_el TT nn (s := (pIt TT nn q23 (pPu TT nn (sr 9 * 2) (pSt (pNb TT nn 0 9999999 (pCo TT nn (pKd TT nn 15 sr))))))) (o := sr 9 * 2) a35a a35b b49a b49b (by first | decide | omega) (tmod2 _) (by first | decide | omega)
        have kp51 : KP sr (pAv TT nn (pAv TT nn (ud (pIt TT nn q23 (pPu TT nn (sr 9 * 2) (pSt (pNb TT nn 0 9999999 (pCo TT nn (pKd TT nn 15 sr)))))) 8 ((pIt TT nn q23 (pPu TT nn (sr 9 * 2) (pSt (pNb TT nn 0 9999999 (pCo TT nn (pKd TT nn 15 sr)))))) 8 - 1)))) := kp_av TT nn (kp_av TT nn b49c)
        refine r_ex hX hP 3 (pc' := 142) (st' := [(0, ch), (0, w), (2, (Ad E 1))]) (lo' := [(0, (2, (Ad E 1))), (1, (0, c)), (2, (0, w)), (3, (0, ch))]) rfl ?_
        refine r_callV gd hX hP rfl cv_12_481 hS (d' := dA + 4) (mc' := 0) (ms' := 0) (as' := [(0, w), (0, ch)]) (st := []) (by first | decide | omega) (by first | decide | omega) (by first | decide | omega) rfl rfl (Nat.le_of_ble_eq_true rfl) (c_X12_bracesR E S (hv [82, 83, 84, 85, 86, 87] [] (up (hv [80, 81, 82, 83, 84, 85, 86, 87, 88, 89, 90, 91, 92] [62, 63, 64, 65, 66, 67, 68, 69, 70, 71] (hv [80, 81, 82, 83, 84, 85, 86, 87] [64, 65] (hv [80, 81, 82, 83, 84, 85, 86, 87] [] G G9) Gj91) G16) 67 (Ad E 67) c neh18) G46) w ch hS neh18 neh18e (by first | decide | omega) (by first | decide | omega) (by first | decide | omega) (by first | decide | omega) dA hA TT nn (pAv TT nn (pAv TT nn (ud (pIt TT nn q23 (pPu TT nn (sr 9 * 2) (pSt (pNb TT nn 0 9999999 (pCo TT nn (pKd TT nn 15 sr)))))) 8 ((pIt TT nn q23 (pPu TT nn (sr 9 * 2) (pSt (pNb TT nn 0 9999999 (pCo TT nn (pKd TT nn 15 sr)))))) 8 - 1)))) rd48 (sr 9 * 2 + 1) ((kp_8 kp51).trans pre1) (Int.le_trans pre2 (kp_9 kp51)) (pu_chc TT nn (o := (sr 9 * 2 + 1)) kp51 (by first | decide | omega) (by first | decide | omega) (by first | decide | omega) pre3)) ?_
        rintro _ _ _ ⟨rfl, ⟨G52, rfl⟩, rfl, bah53, bah53e, neh54, neh54e, f57, q55, q56, r58⟩
        obtain ⟨q59, rd60, c61⟩ := r58
        have k62 := rm_bad rd60
        have k62 := bah53e.trans k62
        have k63 := rm_nm rd60
        have k63 := k63.imp id (fun w => neh54e.trans w)
        refine r_peekI hX (tl1 80 rfl (by decide)) hS (fun o64 o64e o64a o64b => ?_)
        obtain rfl : bah53 = o64 := bah53e.trans o64e.symm
        refine r_peekI hX (tl1 88 rfl (by decide)) hS (fun o65 o65e o65a o65b => ?_)
        obtain rfl : neh54 = o65 := neh54e.trans o65e.symm
        have e66 : kd = (hv [80, 81, 82, 83, 84, 85, 86, 87, 88, 89, 90, 91, 92] [62, 63, 64, 65, 66, 67, 68, 69, 70, 71] (hv [82, 83, 84, 85, 86, 87] [] (up (hv [80, 81, 82, 83, 84, 85, 86, 87, 88, 89, 90, 91, 92] [62, 63, 64, 65, 66, 67, 68, 69, 70, 71] (hv [80, 81, 82, 83, 84, 85, 86, 87] [64, 65] (hv [80, 81, 82, 83, 84, 85, 86, 87] [] G G9) Gj91) G16) 67 (Ad E 67) c neh18) G46) G52) 63 (Ad E 63) c := (show kd = (hv [82, 83, 84, 85, 86, 87] [] (up (hv [80, 81, 82, 83, 84, 85, 86, 87, 88, 89, 90, 91, 92] [62, 63, 64, 65, 66, 67, 68, 69, 70, 71] (hv [80, 81, 82, 83, 84, 85, 86, 87] [64, 65] (hv [80, 81, 82, 83, 84, 85, 86, 87] [] G G9) Gj91) G16) 67 (Ad E 67) c neh18) G46) 63 (Ad E 63) c from e30).trans (q55 c (by first | decide | omega) (by first | decide | omega) (by first | decide | omega)).1.symm
        have e67 : neh18 = (hv [80, 81, 82, 83, 84, 85, 86, 87, 88, 89, 90, 91, 92] [62, 63, 64, 65, 66, 67, 68, 69, 70, 71] (hv [82, 83, 84, 85, 86, 87] [] (up (hv [80, 81, 82, 83, 84, 85, 86, 87, 88, 89, 90, 91, 92] [62, 63, 64, 65, 66, 67, 68, 69, 70, 71] (hv [80, 81, 82, 83, 84, 85, 86, 87] [64, 65] (hv [80, 81, 82, 83, 84, 85, 86, 87] [] G G9) Gj91) G16) 67 (Ad E 67) c neh18) G46) G52) 67 (Ad E 67) c := (show neh18 = (hv [82, 83, 84, 85, 86, 87] [] (up (hv [80, 81, 82, 83, 84, 85, 86, 87, 88, 89, 90, 91, 92] [62, 63, 64, 65, 66, 67, 68, 69, 70, 71] (hv [80, 81, 82, 83, 84, 85, 86, 87] [64, 65] (hv [80, 81, 82, 83, 84, 85, 86, 87] [] G G9) Gj91) G16) 67 (Ad E 67) c neh18) G46) 67 (Ad E 67) c from h32).trans (q55 c (by first | decide | omega) (by first | decide | omega) (by first | decide | omega)).2.2.2.2.1.symm
        have hT68 : pIt TT nn (q23 + 1 + q59) (pWh TT nn sr) = pIt TT nn q59 (pPu TT nn (sr 9 * 2 + 1) (pAv TT nn (pAv TT nn (ud (pIt TT nn q23 (pPu TT nn (sr 9 * 2) (pSt (pNb TT nn 0 9999999 (pCo TT nn (pKd TT nn 15 sr)))))) 8 ((pIt TT nn q23 (pPu TT nn (sr 9 * 2) (pSt (pNb TT nn 0 9999999 (pCo TT nn (pKd TT nn 15 sr)))))) 8 - 1))))) := by rw [pIt_add, pIt_add, pIt_one]; exact congrArg (pIt TT nn q59) ce50
        exact r_retV hX hP rfl rfl (by first | decide | omega) (by first | decide | omega) ⟨rfl, ⟨_, (hq_call (hq_call (hq_up (hq_call (hq_loop (hq_call (hq_refl _ _ _) rfl) rfl) rfl) rfl) rfl) rfl).symm⟩, rfl, bah53, bah53e, neh54, neh54e, kd, e66, neh18, e67, (by first | decide | omega), (by first | decide | omega), (frz_trans (m := newMany) (x := c) (frz_trans (m := newMany) (x := c) (frz_trans (m := newMany) (x := c) (frz_trans (m := newMany) (x := c) (frz_trans (m := newMany) (x := c) yj91_0 (show FRZ E (hv [80, 81, 82, 83, 84, 85, 86, 87] [64, 65] (hv [80, 81, 82, 83, 84, 85, 86, 87] [] G G9) Gj91) (hv [80, 81, 82, 83, 84, 85, 86, 87] [64, 65] (hv [80, 81, 82, 83, 84, 85, 86, 87] [] G G9) Gj91) newMany c from fun i h0 hi hx => ⟨rfl, rfl, rfl, rfl, rfl, rfl⟩) (Int.le_refl _) (fun i _ _ h => h)) q19 (Int.le_refl _) (fun i _ h _ => by omega)) (show FRZ E (hv [80, 81, 82, 83, 84, 85, 86, 87, 88, 89, 90, 91, 92] [62, 63, 64, 65, 66, 67, 68, 69, 70, 71] (hv [80, 81, 82, 83, 84, 85, 86, 87] [64, 65] (hv [80, 81, 82, 83, 84, 85, 86, 87] [] G G9) Gj91) G16) (hv [82, 83, 84, 85, 86, 87] [] (up (hv [80, 81, 82, 83, 84, 85, 86, 87, 88, 89, 90, 91, 92] [62, 63, 64, 65, 66, 67, 68, 69, 70, 71] (hv [80, 81, 82, 83, 84, 85, 86, 87] [64, 65] (hv [80, 81, 82, 83, 84, 85, 86, 87] [] G G9) Gj91) G16) 67 (Ad E 67) c neh18) G46) newMany c from fun i h0 hi hx => ⟨rfl, rfl, rfl, rfl, ((show (up (hv [80, 81, 82, 83, 84, 85, 86, 87, 88, 89, 90, 91, 92] [62, 63, 64, 65, 66, 67, 68, 69, 70, 71] (hv [80, 81, 82, 83, 84, 85, 86, 87] [64, 65] (hv [80, 81, 82, 83, 84, 85, 86, 87] [] G G9) Gj91) G16) 67 (Ad E 67) c neh18) 67 (Ad E 67) i = _ from up_ne (fun q => absurd q.2.2 hx)).trans rfl), rfl⟩) (Int.le_refl _) (fun i _ _ h => h)) q55 (by first | decide | omega) (fun i _ h _ => by omega)) (show FRZ E (hv [80, 81, 82, 83, 84, 85, 86, 87, 88, 89, 90, 91, 92] [62, 63, 64, 65, 66, 67, 68, 69, 70, 71] (hv [82, 83, 84, 85, 86, 87] [] (up (hv [80, 81, 82, 83, 84, 85, 86, 87, 88, 89, 90, 91, 92] [62, 63, 64, 65, 66, 67, 68, 69, 70, 71] (hv [80, 81, 82, 83, 84, 85, 86, 87] [64, 65] (hv [80, 81, 82, 83, 84, 85, 86, 87] [] G G9) Gj91) G16) 67 (Ad E 67) c neh18) G46) G52) (hv [80, 81, 82, 83, 84, 85, 86, 87, 88, 89, 90, 91, 92] [62, 63, 64, 65, 66, 67, 68, 69, 70, 71] (hv [82, 83, 84, 85, 86, 87] [] (up (hv [80, 81, 82, 83, 84, 85, 86, 87, 88, 89, 90, 91, 92] [62, 63, 64, 65, 66, 67, 68, 69, 70, 71] (hv [80, 81, 82, 83, 84, 85, 86, 87] [64, 65] (hv [80, 81, 82, 83, 84, 85, 86, 87] [] G G9) Gj91) G16) 67 (Ad E 67) c neh18) G46) G52) newMany c from fun i h0 hi hx => ⟨rfl, rfl, rfl, rfl, rfl, rfl⟩) (Int.le_refl _) (fun i _ _ h => h)), ((Int.lt_or_le 0 bah53).elim (fun hb => Or.inl (by first | decide | omega)) (fun hb => Or.inr ⟨(ni_app (ni_frz (ni_frz (ni_frz (q20.resolve_left (by first | decide | omega)) (show FRZ E (hv [80, 81, 82, 83, 84, 85, 86, 87, 88, 89, 90, 91, 92] [62, 63, 64, 65, 66, 67, 68, 69, 70, 71] (hv [80, 81, 82, 83, 84, 85, 86, 87] [64, 65] (hv [80, 81, 82, 83, 84, 85, 86, 87] [] G G9) Gj91) G16) (hv [82, 83, 84, 85, 86, 87] [] (up (hv [80, 81, 82, 83, 84, 85, 86, 87, 88, 89, 90, 91, 92] [62, 63, 64, 65, 66, 67, 68, 69, 70, 71] (hv [80, 81, 82, 83, 84, 85, 86, 87] [64, 65] (hv [80, 81, 82, 83, 84, 85, 86, 87] [] G G9) Gj91) G16) 67 (Ad E 67) c neh18) G46) 1000 c from fun i h0 hi hx => ⟨rfl, rfl, rfl, rfl, ((show (up (hv [80, 81, 82, 83, 84, 85, 86, 87, 88, 89, 90, 91, 92] [62, 63, 64, 65, 66, 67, 68, 69, 70, 71] (hv [80, 81, 82, 83, 84, 85, 86, 87] [64, 65] (hv [80, 81, 82, 83, 84, 85, 86, 87] [] G G9) Gj91) G16) 67 (Ad E 67) c neh18) 67 (Ad E 67) i = _ from up_ne (fun q => absurd q.2.2 hx)).trans rfl), rfl⟩) (by first | decide | omega) (by first | decide | omega) (fun i _ _ => by omega) (Int.le_refl _)) q55 (by first | decide | omega) (by first | decide | omega) (fun i _ _ => by omega) (by first | decide | omega)) (show FRZ E (hv [80, 81, 82, 83, 84, 85, 86, 87, 88, 89, 90, 91, 92] [62, 63, 64, 65, 66, 67, 68, 69, 70, 71] (hv [82, 83, 84, 85, 86, 87] [] (up (hv [80, 81, 82, 83, 84, 85, 86, 87, 88, 89, 90, 91, 92] [62, 63, 64, 65, 66, 67, 68, 69, 70, 71] (hv [80, 81, 82, 83, 84, 85, 86, 87] [64, 65] (hv [80, 81, 82, 83, 84, 85, 86, 87] [] G G9) Gj91) G16) 67 (Ad E 67) c neh18) G46) G52) (hv [80, 81, 82, 83, 84, 85, 86, 87, 88, 89, 90, 91, 92] [62, 63, 64, 65, 66, 67, 68, 69, 70, 71] (hv [82, 83, 84, 85, 86, 87] [] (up (hv [80, 81, 82, 83, 84, 85, 86, 87, 88, 89, 90, 91, 92] [62, 63, 64, 65, 66, 67, 68, 69, 70, 71] (hv [80, 81, 82, 83, 84, 85, 86, 87] [64, 65] (hv [80, 81, 82, 83, 84, 85, 86, 87] [] G G9) Gj91) G16) 67 (Ad E 67) c neh18) G46) G52) 1000 c from fun i h0 hi hx => ⟨rfl, rfl, rfl, rfl, rfl, rfl⟩) (by first | decide | omega) (by first | decide | omega) (fun i _ _ => by omega) (Int.le_refl _)) (ni_frz (q56.resolve_left (by first | decide | omega)) (show FRZ E (hv [80, 81, 82, 83, 84, 85, 86, 87, 88, 89, 90, 91, 92] [62, 63, 64, 65, 66, 67, 68, 69, 70, 71] (hv [82, 83, 84, 85, 86, 87] [] (up (hv [80, 81, 82, 83, 84, 85, 86, 87, 88, 89, 90, 91, 92] [62, 63, 64, 65, 66, 67, 68, 69, 70, 71] (hv [80, 81, 82, 83, 84, 85, 86, 87] [64, 65] (hv [80, 81, 82, 83, 84, 85, 86, 87] [] G G9) Gj91) G16) 67 (Ad E 67) c neh18) G46) G52) (hv [80, 81, 82, 83, 84, 85, 86, 87, 88, 89, 90, 91, 92] [62, 63, 64, 65, 66, 67, 68, 69, 70, 71] (hv [82, 83, 84, 85, 86, 87] [] (up (hv [80, 81, 82, 83, 84, 85, 86, 87, 88, 89, 90, 91, 92] [62, 63, 64, 65, 66, 67, 68, 69, 70, 71] (hv [80, 81, 82, 83, 84, 85, 86, 87] [64, 65] (hv [80, 81, 82, 83, 84, 85, 86, 87] [] G G9) Gj91) G16) 67 (Ad E 67) c neh18) G46) G52) 1000 c from fun i h0 hi hx => ⟨rfl, rfl, rfl, rfl, rfl, rfl⟩) (by first | decide | omega) (by first | decide | omega) (fun i _ _ => by omega) (Int.le_refl _))), by omega, by omega⟩)), wh_end TT nn hT68 (show (pIt TT nn q59 (pPu TT nn (sr 9 * 2 + 1) (pAv TT nn (pAv TT nn (ud (pIt TT nn q23 (pPu TT nn (sr 9 * 2) (pSt (pNb TT nn 0 9999999 (pCo TT nn (pKd TT nn 15 sr)))))) 8 ((pIt TT nn q23 (pPu TT nn (sr 9 * 2) (pSt (pNb TT nn 0 9999999 (pCo TT nn (pKd TT nn 15 sr)))))) 8 - 1)))))) = _ from rfl) kp51 (by first | decide | omega) (by first | decide | omega) c61 (Or.inr (Or.inl (tmod3 pre2))) rd60⟩
      · skip
        have hT69 : pIt TT nn q23 (pWh TT nn sr) = pIt TT nn q23 (pPu TT nn (sr 9 * 2) (pSt (pNb TT nn 0 9999999 (pCo TT nn (pKd TT nn 15 sr))))) := rfl
        exact r_retV hX hP rfl rfl (by first | decide | omega) (by first | decide | omega) ⟨rfl, ⟨_, (hq_up (hq_call (hq_loop (hq_call (hq_refl _ _ _) rfl) rfl) rfl) rfl).symm⟩, rfl, bah17, bah17e, neh18, neh18e, kd, e30, neh18, h32, (by first | decide | omega), (by first | decide | omega), (frz_trans (m := newMany) (x := c) (frz_trans (m := newMany) (x := c) (frz_trans (m := newMany) (x := c) yj91_0 (show FRZ E (hv [80, 81, 82, 83, 84, 85, 86, 87] [64, 65] (hv [80, 81, 82, 83, 84, 85, 86, 87] [] G G9) Gj91) (hv [80, 81, 82, 83, 84, 85, 86, 87] [64, 65] (hv [80, 81, 82, 83, 84, 85, 86, 87] [] G G9) Gj91) newMany c from fun i h0 hi hx => ⟨rfl, rfl, rfl, rfl, rfl, rfl⟩) (Int.le_refl _) (fun i _ _ h => h)) q19 (Int.le_refl _) (fun i _ h _ => by omega)) (show FRZ E (hv [80, 81, 82, 83, 84, 85, 86, 87, 88, 89, 90, 91, 92] [62, 63, 64, 65, 66, 67, 68, 69, 70, 71] (hv [80, 81, 82, 83, 84, 85, 86, 87] [64, 65] (hv [80, 81, 82, 83, 84, 85, 86, 87] [] G G9) Gj91) G16) (up (hv [80, 81, 82, 83, 84, 85, 86, 87, 88, 89, 90, 91, 92] [62, 63, 64, 65, 66, 67, 68, 69, 70, 71] (hv [80, 81, 82, 83, 84, 85, 86, 87] [64, 65] (hv [80, 81, 82, 83, 84, 85, 86, 87] [] G G9) Gj91) G16) 67 (Ad E 67) c neh18) newMany c from fun i h0 hi hx => ⟨rfl, rfl, rfl, rfl, ((show (up (hv [80, 81, 82, 83, 84, 85, 86, 87, 88, 89, 90, 91, 92] [62, 63, 64, 65, 66, 67, 68, 69, 70, 71] (hv [80, 81, 82, 83, 84, 85, 86, 87] [64, 65] (hv [80, 81, 82, 83, 84, 85, 86, 87] [] G G9) Gj91) G16) 67 (Ad E 67) c neh18) 67 (Ad E 67) i = _ from up_ne (fun q => absurd q.2.2 hx)).trans rfl), rfl⟩) (Int.le_refl _) (fun i _ _ h => h)), (Or.inr ⟨(ni_frz (q20.resolve_left (by first | decide | omega)) (show FRZ E (hv [80, 81, 82, 83, 84, 85, 86, 87, 88, 89, 90, 91, 92] [62, 63, 64, 65, 66, 67, 68, 69, 70, 71] (hv [80, 81, 82, 83, 84, 85, 86, 87] [64, 65] (hv [80, 81, 82, 83, 84, 85, 86, 87] [] G G9) Gj91) G16) (up (hv [80, 81, 82, 83, 84, 85, 86, 87, 88, 89, 90, 91, 92] [62, 63, 64, 65, 66, 67, 68, 69, 70, 71] (hv [80, 81, 82, 83, 84, 85, 86, 87] [64, 65] (hv [80, 81, 82, 83, 84, 85, 86, 87] [] G G9) Gj91) G16) 67 (Ad E 67) c neh18) 1000 c from fun i h0 hi hx => ⟨rfl, rfl, rfl, rfl, ((show (up (hv [80, 81, 82, 83, 84, 85, 86, 87, 88, 89, 90, 91, 92] [62, 63, 64, 65, 66, 67, 68, 69, 70, 71] (hv [80, 81, 82, 83, 84, 85, 86, 87] [64, 65] (hv [80, 81, 82, 83, 84, 85, 86, 87] [] G G9) Gj91) G16) 67 (Ad E 67) c neh18) 67 (Ad E 67) i = _ from up_ne (fun q => absurd q.2.2 hx)).trans rfl), rfl⟩) (by first | decide | omega) (by first | decide | omega) (fun i _ _ => by omega) (Int.le_refl _)), by omega, by omega⟩), wh_end2 TT nn hT69 (show (pIt TT nn q23 (pPu TT nn (sr 9 * 2) (pSt (pNb TT nn 0 9999999 (pCo TT nn (pKd TT nn 15 sr)))))) = _ from rfl) kp15 (by first | decide | omega) (by first | decide | omega) a35a a35b a35c (Or.inr (Or.inr (by first | decide | omega))) r42⟩
  refine r_ex hX hP 1 (pc' := 17) (st' := [(2, (Ad E 1))]) (lo' := [(0, (2, (Ad E 1))), (1, (0, c)), (2, (0, w)), (3, (0, ch))]) rfl ?_
  refine r_getKI hX hP rfl fl_12_382 hS (x := bah10) bah10e ?_
  refine r_if_ne hX hP rfl (tgt := 45) rfl (by first | decide | omega) (by first | decide | omega) (fun c70 => ?_) (fun c70 => ?_)
  · skip
    refine r_ex hX hP 1 (pc' := 46) (st' := [(2, (Ad E 1))]) (lo' := [(0, (2, (Ad E 1))), (1, (0, c)), (2, (0, w)), (3, (0, ch))]) rfl ?_
    refine r_getKI hX hP rfl fl_12_382 hS (x := bah10) bah10e ?_
    refine r_if_le hX hP rfl (tgt := 53) rfl (by first | decide | omega) (by first | decide | omega) (fun c71 => ?_) (fun c71 => ?_)
    · skip
      exfalso; omega
    · skip
      have k72 : pCo TT nn (pKd TT nn 15 sr) = pKd TT nn 15 sr := pCo_id TT nn (by first | decide | omega)
      have k72e := wh_bad TT nn (s := sr) (x := pKd TT nn 15 sr) (by first | decide | omega) k72
      refine r_labC hX (tl1 98 rfl (by decide)) hS (fun s73 => ?_)
      refine r_apeekI hX al_67 s73 (i := c) (by first | decide | omega) (by first | decide | omega) (fun nek74 nek74e nek74a nek74b => ?_)
      exact r_retV hX hP rfl rfl (by first | decide | omega) (by first | decide | omega) ⟨rfl, ⟨_, (hq_call (hq_refl _ _ _) rfl).symm⟩, rfl, bah10, bah10e, newMany, newMany_e, kd, kd_e, nek74, nek74e, (by first | decide | omega), (by first | decide | omega), (show FRZ E G (hv [80, 81, 82, 83, 84, 85, 86, 87] [] G G9) newMany c from fun i h0 hi hx => ⟨rfl, rfl, rfl, rfl, rfl, rfl⟩), (Or.inl (by first | decide | omega)), ⟨0, rm_eqr r12 k72e, Or.inl (show pWh TT nn sr 1 ≠ 0 from by rw [← k72e.1.2.1]; omega)⟩⟩
  · skip
    refine r_ex hX hP 2 (pc' := 26) (st' := [(0, 60), (2, (Ad E 1))]) (lo' := [(0, (2, (Ad E 1))), (1, (0, c)), (2, (0, w)), (3, (0, ch))]) rfl ?_
    refine r_callV gd hX hP rfl cv_12_392 hS (d' := 0) (mc' := 0) (ms' := 0) (as' := [(0, 60)]) (st := []) (by first | decide | omega) (by first | decide | omega) (by first | decide | omega) rfl rfl (Nat.le_of_ble_eq_true rfl) (c_X12_isSignR E S (hv [80, 81, 82, 83, 84, 85, 86, 87] [] G G9) 60 hS (by first | decide | omega) (by first | decide | omega) (by first | decide | omega) TT nn (pKd TT nn 15 sr) r12) ?_
    rintro _ _ _ ⟨rfl, rfl, z75, rfl, z75a, z75b, f76, r77⟩
    refine r_if_ne hX hP rfl (tgt := 45) rfl (by first | decide | omega) (by first | decide | omega) (fun c78 => ?_) (fun c78 => ?_)
    · skip
      refine r_ex hX hP 1 (pc' := 46) (st' := [(2, (Ad E 1))]) (lo' := [(0, (2, (Ad E 1))), (1, (0, c)), (2, (0, w)), (3, (0, ch))]) rfl ?_
      refine r_getKI hX hP rfl fl_12_382 hS (x := bah10) bah10e ?_
      refine r_if_le hX hP rfl (tgt := 53) rfl (by first | decide | omega) (by first | decide | omega) (fun c79 => ?_) (fun c79 => ?_)
      · skip
        refine r_ex hX hP 1 (pc' := 54) (st' := [(2, (Ad E 1))]) (lo' := [(0, (2, (Ad E 1))), (1, (0, c)), (2, (0, w)), (3, (0, ch))]) rfl ?_
        refine r_getC hX hP rfl fl_12_220 hS (fun s80 => ?_)
        refine r_ex hX hP 3 (pc' := 61) (st' := [(0, 60), (2, (Ad E 1)), (0, c), (2, (Ad E 65))]) (lo' := [(0, (2, (Ad E 1))), (1, (0, c)), (2, (0, w)), (3, (0, ch))]) rfl ?_
        refine r_callV gd hX hP rfl cv_12_392 hS (d' := 0) (mc' := 0) (ms' := 0) (as' := [(0, 60)]) (st := [(0, c), (2, (Ad E 65))]) (by first | decide | omega) (by first | decide | omega) (by first | decide | omega) rfl rfl (Nat.le_of_ble_eq_true rfl) (c_X12_isSignR E S (hv [80, 81, 82, 83, 84, 85, 86, 87] [] G G9) 60 hS (by first | decide | omega) (by first | decide | omega) (by first | decide | omega) TT nn (pKd TT nn 15 sr) r77) ?_
        rintro _ _ _ ⟨rfl, rfl, z81, rfl, z81a, z81b, f82, r83⟩
        refine r_if_eq hX hP rfl (tgt := 71) rfl (by first | decide | omega) (by first | decide | omega) (fun c84 => ?_) (fun c84 => ?_)
        · skip
          refine r_ex hX hP 1 (pc' := 72) (st' := [(0, 1), (0, c), (2, (Ad E 65))]) (lo' := [(0, (2, (Ad E 1))), (1, (0, c)), (2, (0, w)), (3, (0, ch))]) rfl ?_
          refine r_iastK hX hP rfl al_65 s80 (by first | decide | omega) (by first | decide | omega) (by first | decide | omega) (by first | decide | omega) (fun h85 => ?_)
          refine r_ex hX hP 1 (pc' := 74) (st' := [(2, (Ad E 1))]) (lo' := [(0, (2, (Ad E 1))), (1, (0, c)), (2, (0, w)), (3, (0, ch))]) rfl ?_
          refine r_callV gd hX hP rfl cv_12_398 hS (d' := 1) (mc' := 0) (ms' := 0) (as' := []) (st := []) (by first | decide | omega) (by first | decide | omega) (by first | decide | omega) rfl rfl (Nat.le_of_ble_eq_true rfl) (c_X12_nextR E S (up (hv [80, 81, 82, 83, 84, 85, 86, 87] [] G G9) 65 (Ad E 65) c 1)  hS TT nn (pKd TT nn 15 sr) r83) ?_
          rintro _ _ _ ⟨rfl, ⟨G86, rfl⟩, rfl, r87⟩
          refine r_ex hX hP 1 (pc' := 78) (st' := [(2, (Ad E 1))]) (lo' := [(0, (2, (Ad E 1))), (1, (0, c)), (2, (0, w)), (3, (0, ch))]) rfl ?_
          refine r_getC hX hP rfl fl_12_217 hS (fun s88 => ?_)
          refine r_ex hX hP 3 (pc' := 84) (st' := [(0, 0), (2, (Ad E 1)), (0, c), (2, (Ad E 64))]) (lo' := [(0, (2, (Ad E 1))), (1, (0, c)), (2, (0, w)), (3, (0, ch))]) rfl ?_
          refine r_ldcw hX hP rfl (v := 9999999) (tbg sg9 186 rfl rfl) ?_
          refine r_callV gd hX hP rfl cv_12_461 hS (d' := 2) (mc' := 0) (ms' := 0) (as' := [(0, 0), (0, 9999999)]) (st := [(0, c), (2, (Ad E 64))]) (by first | decide | omega) (by first | decide | omega) (by first | decide | omega) rfl rfl (Nat.le_of_ble_eq_true rfl) (c_X12_countR E S (hv [82, 83, 84, 85, 86, 87] [] (up (hv [80, 81, 82, 83, 84, 85, 86, 87] [] G G9) 65 (Ad E 65) c 1) G86) 0 9999999 hS bah10 bah10e (by first | decide | omega) (by first | decide | omega) (by first | decide | omega) (by first | decide | omega) TT nn (pAv TT nn (pKd TT nn 15 sr)) r87) ?_
          rintro _ _ _ ⟨rfl, ⟨G89, rfl⟩, z90, rfl, bah91, bah91e, z90a, z90b, f92, r93⟩
          have k94 := rm_bad r93
          have k94 := bah91e.trans k94
          refine r_peekI hX (tl1 80 rfl (by decide)) hS (fun o95 o95e o95a o95b => ?_)
          obtain rfl : bah91 = o95 := bah91e.trans o95e.symm
          refine r_iastK hX hP rfl al_64 s88 (by first | decide | omega) (by first | decide | omega) (by first | decide | omega) (by first | decide | omega) (fun h96 => ?_)
          refine r_eqG (X := X) (hq_up (hq_call (hq_call (hq_up (hq_refl [80, 81, 82, 83, 84, 85, 86, 87] [64, 65] _) rfl) rfl) rfl) rfl) ?_
          exact j91 _ ((show FRZ E G (up (hv [80, 81, 82, 83, 84, 85, 86, 87] [] (hv [82, 83, 84, 85, 86, 87] [] (up (hv [80, 81, 82, 83, 84, 85, 86, 87] [] G G9) 65 (Ad E 65) c 1) G86) G89) 64 (Ad E 64) c z90) newMany c from fun i h0 hi hx => ⟨rfl, ((show (up (hv [80, 81, 82, 83, 84, 85, 86, 87] [] (hv [82, 83, 84, 85, 86, 87] [] (up (hv [80, 81, 82, 83, 84, 85, 86, 87] [] G G9) 65 (Ad E 65) c 1) G86) G89) 64 (Ad E 64) c z90) 64 (Ad E 64) i = _ from up_ne (fun q => absurd q.2.2 hx)).trans rfl), ((show (up (hv [80, 81, 82, 83, 84, 85, 86, 87] [] G G9) 65 (Ad E 65) c 1) 65 (Ad E 65) i = _ from up_ne (fun q => absurd q.2.2 hx)).trans rfl), rfl, rfl, rfl⟩)) (rm_eqr (rm_cast r93 (show pNb TT nn 0 9999999 (pAv TT nn (pKd TT nn 15 sr)) = pNb TT nn 0 9999999 (pCo TT nn (pKd TT nn 15 sr)) from by rw [pCo_n TT nn (by first | decide | omega) (by first | decide | omega)])) (eqr_st (pNb TT nn 0 9999999 (pCo TT nn (pKd TT nn 15 sr)))))
        · skip
          refine r_ex hX hP 2 (pc' := 72) (st' := [(0, 0), (0, c), (2, (Ad E 65))]) (lo' := [(0, (2, (Ad E 1))), (1, (0, c)), (2, (0, w)), (3, (0, ch))]) rfl ?_
          refine r_iastK hX hP rfl al_65 s80 (by first | decide | omega) (by first | decide | omega) (by first | decide | omega) (by first | decide | omega) (fun h97 => ?_)
          refine r_ex hX hP 1 (pc' := 74) (st' := [(2, (Ad E 1))]) (lo' := [(0, (2, (Ad E 1))), (1, (0, c)), (2, (0, w)), (3, (0, ch))]) rfl ?_
          refine r_callV gd hX hP rfl cv_12_398 hS (d' := 1) (mc' := 0) (ms' := 0) (as' := []) (st := []) (by first | decide | omega) (by first | decide | omega) (by first | decide | omega) rfl rfl (Nat.le_of_ble_eq_true rfl) (c_X12_nextR E S (up (hv [80, 81, 82, 83, 84, 85, 86, 87] [] G G9) 65 (Ad E 65) c 0)  hS TT nn (pKd TT nn 15 sr) r83) ?_
          rintro _ _ _ ⟨rfl, ⟨G98, rfl⟩, rfl, r99⟩
          refine r_ex hX hP 1 (pc' := 78) (st' := [(2, (Ad E 1))]) (lo' := [(0, (2, (Ad E 1))), (1, (0, c)), (2, (0, w)), (3, (0, ch))]) rfl ?_
          refine r_getC hX hP rfl fl_12_217 hS (fun s100 => ?_)
          refine r_ex hX hP 3 (pc' := 84) (st' := [(0, 0), (2, (Ad E 1)), (0, c), (2, (Ad E 64))]) (lo' := [(0, (2, (Ad E 1))), (1, (0, c)), (2, (0, w)), (3, (0, ch))]) rfl ?_
          refine r_ldcw hX hP rfl (v := 9999999) (tbg sg9 186 rfl rfl) ?_
          refine r_callV gd hX hP rfl cv_12_461 hS (d' := 2) (mc' := 0) (ms' := 0) (as' := [(0, 0), (0, 9999999)]) (st := [(0, c), (2, (Ad E 64))]) (by first | decide | omega) (by first | decide | omega) (by first | decide | omega) rfl rfl (Nat.le_of_ble_eq_true rfl) (c_X12_countR E S (hv [82, 83, 84, 85, 86, 87] [] (up (hv [80, 81, 82, 83, 84, 85, 86, 87] [] G G9) 65 (Ad E 65) c 0) G98) 0 9999999 hS bah10 bah10e (by first | decide | omega) (by first | decide | omega) (by first | decide | omega) (by first | decide | omega) TT nn (pAv TT nn (pKd TT nn 15 sr)) r99) ?_
          rintro _ _ _ ⟨rfl, ⟨G101, rfl⟩, z102, rfl, bah103, bah103e, z102a, z102b, f104, r105⟩
          have k106 := rm_bad r105
          have k106 := bah103e.trans k106
          refine r_peekI hX (tl1 80 rfl (by decide)) hS (fun o107 o107e o107a o107b => ?_)
          obtain rfl : bah103 = o107 := bah103e.trans o107e.symm
          refine r_iastK hX hP rfl al_64 s100 (by first | decide | omega) (by first | decide | omega) (by first | decide | omega) (by first | decide | omega) (fun h108 => ?_)
          refine r_eqG (X := X) (hq_up (hq_call (hq_call (hq_up (hq_refl [80, 81, 82, 83, 84, 85, 86, 87] [64, 65] _) rfl) rfl) rfl) rfl) ?_
          exact j91 _ ((show FRZ E G (up (hv [80, 81, 82, 83, 84, 85, 86, 87] [] (hv [82, 83, 84, 85, 86, 87] [] (up (hv [80, 81, 82, 83, 84, 85, 86, 87] [] G G9) 65 (Ad E 65) c 0) G98) G101) 64 (Ad E 64) c z102) newMany c from fun i h0 hi hx => ⟨rfl, ((show (up (hv [80, 81, 82, 83, 84, 85, 86, 87] [] (hv [82, 83, 84, 85, 86, 87] [] (up (hv [80, 81, 82, 83, 84, 85, 86, 87] [] G G9) 65 (Ad E 65) c 0) G98) G101) 64 (Ad E 64) c z102) 64 (Ad E 64) i = _ from up_ne (fun q => absurd q.2.2 hx)).trans rfl), ((show (up (hv [80, 81, 82, 83, 84, 85, 86, 87] [] G G9) 65 (Ad E 65) c 0) 65 (Ad E 65) i = _ from up_ne (fun q => absurd q.2.2 hx)).trans rfl), rfl, rfl, rfl⟩)) (rm_eqr (rm_cast r105 (show pNb TT nn 0 9999999 (pAv TT nn (pKd TT nn 15 sr)) = pNb TT nn 0 9999999 (pCo TT nn (pKd TT nn 15 sr)) from by rw [pCo_n TT nn (by first | decide | omega) (by first | decide | omega)])) (eqr_st (pNb TT nn 0 9999999 (pCo TT nn (pKd TT nn 15 sr)))))
      · skip
        exfalso; omega
    · skip
      refine r_ex hX hP 2 (pc' := 35) (st' := [(0, 62), (2, (Ad E 1))]) (lo' := [(0, (2, (Ad E 1))), (1, (0, c)), (2, (0, w)), (3, (0, ch))]) rfl ?_
      refine r_callV gd hX hP rfl cv_12_392 hS (d' := 0) (mc' := 0) (ms' := 0) (as' := [(0, 62)]) (st := []) (by first | decide | omega) (by first | decide | omega) (by first | decide | omega) rfl rfl (Nat.le_of_ble_eq_true rfl) (c_X12_isSignR E S (hv [80, 81, 82, 83, 84, 85, 86, 87] [] G G9) 62 hS (by first | decide | omega) (by first | decide | omega) (by first | decide | omega) TT nn (pKd TT nn 15 sr) r77) ?_
      rintro _ _ _ ⟨rfl, rfl, z109, rfl, z109a, z109b, f110, r111⟩
      refine r_if_ne hX hP rfl (tgt := 45) rfl (by first | decide | omega) (by first | decide | omega) (fun c112 => ?_) (fun c112 => ?_)
      · skip
        refine r_ex hX hP 1 (pc' := 46) (st' := [(2, (Ad E 1))]) (lo' := [(0, (2, (Ad E 1))), (1, (0, c)), (2, (0, w)), (3, (0, ch))]) rfl ?_
        refine r_getKI hX hP rfl fl_12_382 hS (x := bah10) bah10e ?_
        refine r_if_le hX hP rfl (tgt := 53) rfl (by first | decide | omega) (by first | decide | omega) (fun c113 => ?_) (fun c113 => ?_)
        · skip
          refine r_ex hX hP 1 (pc' := 54) (st' := [(2, (Ad E 1))]) (lo' := [(0, (2, (Ad E 1))), (1, (0, c)), (2, (0, w)), (3, (0, ch))]) rfl ?_
          refine r_getC hX hP rfl fl_12_220 hS (fun s114 => ?_)
          refine r_ex hX hP 3 (pc' := 61) (st' := [(0, 60), (2, (Ad E 1)), (0, c), (2, (Ad E 65))]) (lo' := [(0, (2, (Ad E 1))), (1, (0, c)), (2, (0, w)), (3, (0, ch))]) rfl ?_
          refine r_callV gd hX hP rfl cv_12_392 hS (d' := 0) (mc' := 0) (ms' := 0) (as' := [(0, 60)]) (st := [(0, c), (2, (Ad E 65))]) (by first | decide | omega) (by first | decide | omega) (by first | decide | omega) rfl rfl (Nat.le_of_ble_eq_true rfl) (c_X12_isSignR E S (hv [80, 81, 82, 83, 84, 85, 86, 87] [] G G9) 60 hS (by first | decide | omega) (by first | decide | omega) (by first | decide | omega) TT nn (pKd TT nn 15 sr) r111) ?_
          rintro _ _ _ ⟨rfl, rfl, z115, rfl, z115a, z115b, f116, r117⟩
          refine r_if_eq hX hP rfl (tgt := 71) rfl (by first | decide | omega) (by first | decide | omega) (fun c118 => ?_) (fun c118 => ?_)
          · skip
            refine r_ex hX hP 1 (pc' := 72) (st' := [(0, 1), (0, c), (2, (Ad E 65))]) (lo' := [(0, (2, (Ad E 1))), (1, (0, c)), (2, (0, w)), (3, (0, ch))]) rfl ?_
            refine r_iastK hX hP rfl al_65 s114 (by first | decide | omega) (by first | decide | omega) (by first | decide | omega) (by first | decide | omega) (fun h119 => ?_)
            refine r_ex hX hP 1 (pc' := 74) (st' := [(2, (Ad E 1))]) (lo' := [(0, (2, (Ad E 1))), (1, (0, c)), (2, (0, w)), (3, (0, ch))]) rfl ?_
            refine r_callV gd hX hP rfl cv_12_398 hS (d' := 1) (mc' := 0) (ms' := 0) (as' := []) (st := []) (by first | decide | omega) (by first | decide | omega) (by first | decide | omega) rfl rfl (Nat.le_of_ble_eq_true rfl) (c_X12_nextR E S (up (hv [80, 81, 82, 83, 84, 85, 86, 87] [] G G9) 65 (Ad E 65) c 1)  hS TT nn (pKd TT nn 15 sr) r117) ?_
            rintro _ _ _ ⟨rfl, ⟨G120, rfl⟩, rfl, r121⟩
            refine r_ex hX hP 1 (pc' := 78) (st' := [(2, (Ad E 1))]) (lo' := [(0, (2, (Ad E 1))), (1, (0, c)), (2, (0, w)), (3, (0, ch))]) rfl ?_
            refine r_getC hX hP rfl fl_12_217 hS (fun s122 => ?_)
            refine r_ex hX hP 3 (pc' := 84) (st' := [(0, 0), (2, (Ad E 1)), (0, c), (2, (Ad E 64))]) (lo' := [(0, (2, (Ad E 1))), (1, (0, c)), (2, (0, w)), (3, (0, ch))]) rfl ?_
            refine r_ldcw hX hP rfl (v := 9999999) (tbg sg9 186 rfl rfl) ?_
            refine r_callV gd hX hP rfl cv_12_461 hS (d' := 2) (mc' := 0) (ms' := 0) (as' := [(0, 0), (0, 9999999)]) (st := [(0, c), (2, (Ad E 64))]) (by first | decide | omega) (by first | decide | omega) (by first | decide | omega) rfl rfl (Nat.le_of_ble_eq_true rfl) (c_X12_countR E S (hv [82, 83, 84, 85, 86, 87] [] (up (hv [80, 81, 82, 83, 84, 85, 86, 87] [] G G9) 65 (Ad E 65) c 1) G120) 0 9999999 hS bah10 bah10e (by first | decide | omega) (by first | decide | omega) (by first | decide | omega) (by first | decide | omega) TT nn (pAv TT nn (pKd TT nn 15 sr)) r121) ?_
            rintro _ _ _ ⟨rfl, ⟨G123, rfl⟩, z124, rfl, bah125, bah125e, z124a, z124b, f126, r127⟩
            have k128 := rm_bad r127
            have k128 := bah125e.trans k128
            refine r_peekI hX (tl1 80 rfl (by decide)) hS (fun o129 o129e o129a o129b => ?_)
            obtain rfl : bah125 = o129 := bah125e.trans o129e.symm
            refine r_iastK hX hP rfl al_64 s122 (by first | decide | omega) (by first | decide | omega) (by first | decide | omega) (by first | decide | omega) (fun h130 => ?_)
            refine r_eqG (X := X) (hq_up (hq_call (hq_call (hq_up (hq_refl [80, 81, 82, 83, 84, 85, 86, 87] [64, 65] _) rfl) rfl) rfl) rfl) ?_
            exact j91 _ ((show FRZ E G (up (hv [80, 81, 82, 83, 84, 85, 86, 87] [] (hv [82, 83, 84, 85, 86, 87] [] (up (hv [80, 81, 82, 83, 84, 85, 86, 87] [] G G9) 65 (Ad E 65) c 1) G120) G123) 64 (Ad E 64) c z124) newMany c from fun i h0 hi hx => ⟨rfl, ((show (up (hv [80, 81, 82, 83, 84, 85, 86, 87] [] (hv [82, 83, 84, 85, 86, 87] [] (up (hv [80, 81, 82, 83, 84, 85, 86, 87] [] G G9) 65 (Ad E 65) c 1) G120) G123) 64 (Ad E 64) c z124) 64 (Ad E 64) i = _ from up_ne (fun q => absurd q.2.2 hx)).trans rfl), ((show (up (hv [80, 81, 82, 83, 84, 85, 86, 87] [] G G9) 65 (Ad E 65) c 1) 65 (Ad E 65) i = _ from up_ne (fun q => absurd q.2.2 hx)).trans rfl), rfl, rfl, rfl⟩)) (rm_eqr (rm_cast r127 (show pNb TT nn 0 9999999 (pAv TT nn (pKd TT nn 15 sr)) = pNb TT nn 0 9999999 (pCo TT nn (pKd TT nn 15 sr)) from by rw [pCo_n TT nn (by first | decide | omega) (by first | decide | omega)])) (eqr_st (pNb TT nn 0 9999999 (pCo TT nn (pKd TT nn 15 sr)))))
          · skip
            refine r_ex hX hP 2 (pc' := 72) (st' := [(0, 0), (0, c), (2, (Ad E 65))]) (lo' := [(0, (2, (Ad E 1))), (1, (0, c)), (2, (0, w)), (3, (0, ch))]) rfl ?_
            refine r_iastK hX hP rfl al_65 s114 (by first | decide | omega) (by first | decide | omega) (by first | decide | omega) (by first | decide | omega) (fun h131 => ?_)
            refine r_ex hX hP 1 (pc' := 74) (st' := [(2, (Ad E 1))]) (lo' := [(0, (2, (Ad E 1))), (1, (0, c)), (2, (0, w)), (3, (0, ch))]) rfl ?_
            refine r_callV gd hX hP rfl cv_12_398 hS (d' := 1) (mc' := 0) (ms' := 0) (as' := []) (st := []) (by first | decide | omega) (by first | decide | omega) (by first | decide | omega) rfl rfl (Nat.le_of_ble_eq_true rfl) (c_X12_nextR E S (up (hv [80, 81, 82, 83, 84, 85, 86, 87] [] G G9) 65 (Ad E 65) c 0)  hS TT nn (pKd TT nn 15 sr) r117) ?_
            rintro _ _ _ ⟨rfl, ⟨G132, rfl⟩, rfl, r133⟩
            refine r_ex hX hP 1 (pc' := 78) (st' := [(2, (Ad E 1))]) (lo' := [(0, (2, (Ad E 1))), (1, (0, c)), (2, (0, w)), (3, (0, ch))]) rfl ?_
            refine r_getC hX hP rfl fl_12_217 hS (fun s134 => ?_)
            refine r_ex hX hP 3 (pc' := 84) (st' := [(0, 0), (2, (Ad E 1)), (0, c), (2, (Ad E 64))]) (lo' := [(0, (2, (Ad E 1))), (1, (0, c)), (2, (0, w)), (3, (0, ch))]) rfl ?_
            refine r_ldcw hX hP rfl (v := 9999999) (tbg sg9 186 rfl rfl) ?_
            refine r_callV gd hX hP rfl cv_12_461 hS (d' := 2) (mc' := 0) (ms' := 0) (as' := [(0, 0), (0, 9999999)]) (st := [(0, c), (2, (Ad E 64))]) (by first | decide | omega) (by first | decide | omega) (by first | decide | omega) rfl rfl (Nat.le_of_ble_eq_true rfl) (c_X12_countR E S (hv [82, 83, 84, 85, 86, 87] [] (up (hv [80, 81, 82, 83, 84, 85, 86, 87] [] G G9) 65 (Ad E 65) c 0) G132) 0 9999999 hS bah10 bah10e (by first | decide | omega) (by first | decide | omega) (by first | decide | omega) (by first | decide | omega) TT nn (pAv TT nn (pKd TT nn 15 sr)) r133) ?_
            rintro _ _ _ ⟨rfl, ⟨G135, rfl⟩, z136, rfl, bah137, bah137e, z136a, z136b, f138, r139⟩
            have k140 := rm_bad r139
            have k140 := bah137e.trans k140
            refine r_peekI hX (tl1 80 rfl (by decide)) hS (fun o141 o141e o141a o141b => ?_)
            obtain rfl : bah137 = o141 := bah137e.trans o141e.symm
            refine r_iastK hX hP rfl al_64 s134 (by first | decide | omega) (by first | decide | omega) (by first | decide | omega) (by first | decide | omega) (fun h142 => ?_)
            refine r_eqG (X := X) (hq_up (hq_call (hq_call (hq_up (hq_refl [80, 81, 82, 83, 84, 85, 86, 87] [64, 65] _) rfl) rfl) rfl) rfl) ?_
            exact j91 _ ((show FRZ E G (up (hv [80, 81, 82, 83, 84, 85, 86, 87] [] (hv [82, 83, 84, 85, 86, 87] [] (up (hv [80, 81, 82, 83, 84, 85, 86, 87] [] G G9) 65 (Ad E 65) c 0) G132) G135) 64 (Ad E 64) c z136) newMany c from fun i h0 hi hx => ⟨rfl, ((show (up (hv [80, 81, 82, 83, 84, 85, 86, 87] [] (hv [82, 83, 84, 85, 86, 87] [] (up (hv [80, 81, 82, 83, 84, 85, 86, 87] [] G G9) 65 (Ad E 65) c 0) G132) G135) 64 (Ad E 64) c z136) 64 (Ad E 64) i = _ from up_ne (fun q => absurd q.2.2 hx)).trans rfl), ((show (up (hv [80, 81, 82, 83, 84, 85, 86, 87] [] G G9) 65 (Ad E 65) c 0) 65 (Ad E 65) i = _ from up_ne (fun q => absurd q.2.2 hx)).trans rfl), rfl, rfl, rfl⟩)) (rm_eqr (rm_cast r139 (show pNb TT nn 0 9999999 (pAv TT nn (pKd TT nn 15 sr)) = pNb TT nn 0 9999999 (pCo TT nn (pKd TT nn 15 sr)) from by rw [pCo_n TT nn (by first | decide | omega) (by first | decide | omega)])) (eqr_st (pNb TT nn 0 9999999 (pCo TT nn (pKd TT nn 15 sr)))))
        · skip
          exfalso; omega
      · skip
        refine r_ex hX hP 1 (pc' := 42) (st' := [(2, (Ad E 1))]) (lo' := [(0, (2, (Ad E 1))), (1, (0, c)), (2, (0, w)), (3, (0, ch))]) rfl ?_
        refine r_callV gd hX hP rfl cv_12_395 hS (d' := 1) (mc' := 0) (ms' := 0) (as' := []) (st := []) (by first | decide | omega) (by first | decide | omega) (by first | decide | omega) rfl rfl (Nat.le_of_ble_eq_true rfl) (c_X12_wrongR E S (hv [80, 81, 82, 83, 84, 85, 86, 87] [] G G9)  hS TT nn (pKd TT nn 15 sr) r111) ?_
        rintro _ _ _ ⟨rfl, ⟨G143, rfl⟩, rfl, bah144, bah144e, f145, r146⟩
        have k147 := rm_bad r146
        have k147 := bah144e.trans k147
        refine r_peekI hX (tl1 80 rfl (by decide)) hS (fun o148 o148e o148a o148b => ?_)
        obtain rfl : bah144 = o148 := bah144e.trans o148e.symm
        refine r_ex hX hP 1 (pc' := 46) (st' := [(2, (Ad E 1))]) (lo' := [(0, (2, (Ad E 1))), (1, (0, c)), (2, (0, w)), (3, (0, ch))]) rfl ?_
        refine r_getKI hX hP rfl fl_12_382 hS (x := bah144) bah144e ?_
        refine r_if_le hX hP rfl (tgt := 53) rfl (by first | decide | omega) (by first | decide | omega) (fun c149 => ?_) (fun c149 => ?_)
        · skip
          exfalso; omega
        · skip
          have k150 : pCo TT nn (pKd TT nn 15 sr) = pWr TT nn (pKd TT nn 15 sr) := pCo_w TT nn (by first | decide | omega) (by first | decide | omega) (by first | decide | omega)
          have k150e := wh_bad TT nn (s := sr) (x := pWr TT nn (pKd TT nn 15 sr)) (by first | decide | omega) k150
          refine r_labC hX (tl1 98 rfl (by decide)) hS (fun s151 => ?_)
          refine r_apeekI hX al_67 s151 (i := c) (by first | decide | omega) (by first | decide | omega) (fun nek152 nek152e nek152a nek152b => ?_)
          exact r_retV hX hP rfl rfl (by first | decide | omega) (by first | decide | omega) ⟨rfl, ⟨_, (hq_call (hq_call (hq_refl _ _ _) rfl) rfl).symm⟩, rfl, bah144, bah144e, newMany, newMany_e, kd, kd_e, nek152, nek152e, (by first | decide | omega), (by first | decide | omega), (show FRZ E G (hv [80, 81] [] (hv [80, 81, 82, 83, 84, 85, 86, 87] [] G G9) G143) newMany c from fun i h0 hi hx => ⟨rfl, rfl, rfl, rfl, rfl, rfl⟩), (Or.inl (by first | decide | omega)), ⟨0, rm_eqr r146 k150e, Or.inl (show pWh TT nn sr 1 ≠ 0 from by rw [← k150e.1.2.1]; omega)⟩⟩
set_option maxRecDepth 100000 in
set_option maxHeartbeats 4000000 in
theorem c_X12_readChoiceR (E : En) (S : Sg) (G : Gh) (c : Int) (hS : S (Ad E 1) = 1) (newMany : Int) (newMany_e : newMany = G 1 (Ad E 1) 88) (kd : Int) (kd_e : kd = G 63 (Ad E 63) c) (tw : Int) (tw_e : tw = G 65 (Ad E 65) c) (c_a : 0 ≤ c) (c_b : c ≤ 29) (pre3 : c < newMany) (dA : Nat) (hA : RAR E S dA 1) (TT : Tp) (nn : Int) (sr : Rg) (rd : RdM E TT nn sr G) (pre0 : sr 1 = 0) (pre1 : sr 8 = 0) (pre2 : 0 ≤ sr 9) : Calls E mX12_readChoice [(2, (Ad E 1)), (0, c)] S G (dA + 6) 0 0 (fun r S' G' => S = S' ∧ (∃ G1, hv [80, 81, 82, 83, 84, 85, 86, 87, 88, 89, 90, 91, 92] [62, 63, 64, 65, 66, 67, 68, 69, 70, 71] G G1 = G') ∧ r = none ∧ ∃ bad' : Int, bad' = G' 1 (Ad E 1) 80 ∧ ∃ n' : Int, n' = G' 1 (Ad E 1) 88 ∧ ∃ kd' : Int, kd' = G' 63 (Ad E 63) c ∧ ∃ on' : Int, on' = G' 64 (Ad E 64) c ∧ ∃ tw' : Int, tw' = G' 65 (Ad E 65) c ∧ newMany ≤ n' ∧ kd' = kd ∧ tw' = tw ∧ FRZ E G G' newMany c ∧ (1 ≤ bad' ∨ (NI E G' newMany n' n' ∧ 0 ≤ on' ∧ on' ≤ 2)) ∧ (∃ kq : Nat, RdM E TT nn (pIt TT nn kq (pCh TT nn sr)) G' ∧ ((pIt TT nn kq (pCh TT nn sr)) 1 ≠ 0 ∨ KP sr (pIt TT nn kq (pCh TT nn sr))))) := by
  refine calls_by [(0, (2, (Ad E 1))), (1, (0, c))] rfl rfl (Nat.le_of_ble_eq_true rfl) (fun X hX => ?_)
  have hP := hPX12_readChoice
  refine r_peekI hX (tl1 88 rfl (by decide)) hS (fun newMany_o newMany_oe newMany_oa newMany_ob => ?_)
  obtain rfl : newMany = newMany_o := newMany_e.trans newMany_oe.symm
  refine r_labC hX (tl1 94 rfl (by decide)) hS (fun s1 => ?_)
  refine r_apeekI hX al_63 s1 (i := c) (by first | decide | omega) (by first | decide | omega) (fun kd_o kd_oe kd_oa kd_ob => ?_)
  obtain rfl : kd = kd_o := kd_e.trans kd_oe.symm
  refine r_labC hX (tl1 96 rfl (by decide)) hS (fun s2 => ?_)
  refine r_apeekI hX al_65 s2 (i := c) (by first | decide | omega) (by first | decide | omega) (fun tw_o tw_oe tw_oa tw_ob => ?_)
  obtain rfl : tw = tw_o := tw_e.trans tw_oe.symm
  have k3 := rm_nm rd
  have k3 := k3.imp id (fun w => newMany_e.trans w)
  refine r_ex hX hP 1 (pc' := 1) (st' := [(2, (Ad E 1))]) (lo' := [(0, (2, (Ad E 1))), (1, (0, c))]) rfl ?_
  refine r_peekI hX (tl1 80 rfl (by decide)) hS (fun bap4 bap4e bap4a bap4b => ?_)
  have k5 := rm_bad rd
  have k5 := bap4e.trans k5
  refine r_callV gd hX hP rfl cv_12_475 hS (d' := 2) (mc' := 0) (ms' := 0) (as' := []) (st := []) (by first | decide | omega) (by first | decide | omega) (by first | decide | omega) rfl rfl (Nat.le_of_ble_eq_true rfl) (c_X12_isNameR E S G  hS bap4 bap4e TT nn sr rd) ?_
  rintro _ _ _ ⟨rfl, ⟨G6, rfl⟩, z7, rfl, bah8, bah8e, z7a, z7b, f9, r10⟩
  have k11 := congrArg (tkK TT nn) (pNa_0 TT nn sr)
  have k12 := congrArg (tkE TT nn) (pNa_0 TT nn sr)
  have k13 := congrArg (tkS TT nn) (pNa_0 TT nn sr)
  have k14 := pNa_hi TT nn sr (show (3 : Int) ≤ 5 from by decide)
  have k15 := rm_bad r10
  have k15 := bah8e.trans k15
  refine r_peekI hX (tl1 80 rfl (by decide)) hS (fun o16 o16e o16a o16b => ?_)
  obtain rfl : bah8 = o16 := bah8e.trans o16e.symm
  refine r_if_ne hX hP rfl (tgt := 8) rfl (by first | decide | omega) (by first | decide | omega) (fun c17 => ?_) (fun c17 => ?_)
  · skip
    refine r_ex hX hP 1 (pc' := 9) (st' := [(2, (Ad E 1))]) (lo' := [(0, (2, (Ad E 1))), (1, (0, c))]) rfl ?_
    refine r_getI hX hP rfl fl_12_421 hS (fun nf18 nf18e nf18a nf18b => ?_)
    have k19 := rm_nc r10
    have k19 := k19.imp id (fun w => nf18e.trans w)
    refine r_ex hX hP 1 (pc' := 13) (st' := [(0, 3), (0, nf18)]) (lo' := [(0, (2, (Ad E 1))), (1, (0, c))]) rfl ?_
    refine r_ic_ne hX hP rfl (tgt := 25) rfl (by first | decide | omega) (by first | decide | omega) (by first | decide | omega) (by first | decide | omega) (fun c20 => ?_) (fun c20 => ?_)
    · skip
      refine r_ex hX hP 1 (pc' := 26) (st' := [(2, (Ad E 1))]) (lo' := [(0, (2, (Ad E 1))), (1, (0, c))]) rfl ?_
      refine r_callV gd hX hP rfl cv_12_478 hS (d' := 0) (mc' := 0) (ms' := 0) (as' := []) (st := []) (by first | decide | omega) (by first | decide | omega) (by first | decide | omega) rfl rfl (Nat.le_of_ble_eq_true rfl) (c_X12_namedR E S (hv [80, 81] [] G G6)  hS TT nn (pNa TT nn sr) r10 (by first | decide | omega)) ?_
      rintro _ _ _ ⟨rfl, rfl, z21, rfl, z21a, z21b, f22, r23⟩
      refine r_if_lt hX hP rfl (tgt := 41) rfl (by first | decide | omega) (by first | decide | omega) (fun c24 => ?_) (fun c24 => ?_)
      · skip
        refine r_ex hX hP 1 (pc' := 42) (st' := [(2, (Ad E 1))]) (lo' := [(0, (2, (Ad E 1))), (1, (0, c))]) rfl ?_
        refine r_getKI hX hP rfl fl_12_382 hS (x := bah8) bah8e ?_
        refine r_if_le hX hP rfl (tgt := 49) rfl (by first | decide | omega) (by first | decide | omega) (fun c25 => ?_) (fun c25 => ?_)
        · skip
          refine r_ex hX hP 1 (pc' := 50) (st' := [(2, (Ad E 1))]) (lo' := [(0, (2, (Ad E 1))), (1, (0, c))]) rfl ?_
          refine r_getKI hX hP rfl fl_12_421 hS (x := nf18) nf18e ?_
          refine r_ex hX hP 2 (pc' := 55) (st' := [(2, (Ad E 1))]) (lo' := [(0, (2, (Ad E 1))), (1, (0, c)), (2, (0, nf18))]) rfl ?_
          refine r_getC hX hP rfl fl_12_210 hS (fun s26 => ?_)
          refine r_ex hX hP 2 (pc' := 60) (st' := [(2, (Ad E 1)), (0, nf18), (2, (Ad E 62))]) (lo' := [(0, (2, (Ad E 1))), (1, (0, c)), (2, (0, nf18))]) rfl ?_
          refine r_getL hX hP rfl fl_12_364 hS (fun wf27 wf27e wf27a wf27b => ?_)
          have k28 := rm_word r23
          have k28 := k28.imp id (fun w => wf27e.trans w)
          refine r_lastK hX hP rfl al_62 s26 (by first | decide | omega) (by first | decide | omega) (by first | decide | omega) (by first | decide | omega) (fun h29 => ?_)
          refine r_ex hX hP 1 (pc' := 65) (st' := [(2, (Ad E 1))]) (lo' := [(0, (2, (Ad E 1))), (1, (0, c)), (2, (0, nf18))]) rfl ?_
          refine r_getC hX hP rfl fl_12_232 hS (fun s30 => ?_)
          refine r_ex hX hP 2 (pc' := 70) (st' := [(0, c), (0, nf18), (2, (Ad E 69))]) (lo' := [(0, (2, (Ad E 1))), (1, (0, c)), (2, (0, nf18))]) rfl ?_
          refine r_iastK hX hP rfl al_69 s30 (by first | decide | omega) (by first | decide | omega) (by first | decide | omega) (by first | decide | omega) (fun h31 => ?_)
          refine r_ex hX hP 1 (pc' := 72) (st' := [(2, (Ad E 1))]) (lo' := [(0, (2, (Ad E 1))), (1, (0, c)), (2, (0, nf18))]) rfl ?_
          refine r_getC hX hP rfl fl_12_235 hS (fun s32 => ?_)
          refine r_ex hX hP 2 (pc' := 77) (st' := [(0, (-1)), (0, nf18), (2, (Ad E 70))]) (lo' := [(0, (2, (Ad E 1))), (1, (0, c)), (2, (0, nf18))]) rfl ?_
          refine r_iastK hX hP rfl al_70 s32 (by first | decide | omega) (by first | decide | omega) (by first | decide | omega) (by first | decide | omega) (fun h33 => ?_)
          refine r_ex hX hP 1 (pc' := 79) (st' := [(2, (Ad E 1))]) (lo' := [(0, (2, (Ad E 1))), (1, (0, c)), (2, (0, nf18))]) rfl ?_
          refine r_getC hX hP rfl fl_12_238 hS (fun s34 => ?_)
          refine r_ex hX hP 2 (pc' := 84) (st' := [(0, (-1)), (0, nf18), (2, (Ad E 71))]) (lo' := [(0, (2, (Ad E 1))), (1, (0, c)), (2, (0, nf18))]) rfl ?_
          refine r_iastK hX hP rfl al_71 s34 (by first | decide | omega) (by first | decide | omega) (by first | decide | omega) (by first | decide | omega) (fun h35 => ?_)
          refine r_ex hX hP 1 (pc' := 86) (st' := [(2, (Ad E 1))]) (lo' := [(0, (2, (Ad E 1))), (1, (0, c)), (2, (0, nf18))]) rfl ?_
          refine r_getC hX hP rfl fl_12_217 hS (fun s36 => ?_)
          refine r_ex hX hP 2 (pc' := 91) (st' := [(0, nf18), (0, c), (2, (Ad E 64))]) (lo' := [(0, (2, (Ad E 1))), (1, (0, c)), (2, (0, nf18))]) rfl ?_
          refine r_iastK hX hP rfl al_64 s36 (by first | decide | omega) (by first | decide | omega) (by first | decide | omega) (by first | decide | omega) (fun h37 => ?_)
          refine r_ex hX hP 2 (pc' := 94) (st' := [(2, (Ad E 1)), (2, (Ad E 1))]) (lo' := [(0, (2, (Ad E 1))), (1, (0, c)), (2, (0, nf18))]) rfl ?_
          refine r_getKI hX hP rfl fl_12_421 hS (x := nf18) nf18e ?_
          refine r_ex hX hP 2 (pc' := 99) (st' := [(0, (nf18 + 1)), (2, (Ad E 1))]) (lo' := [(0, (2, (Ad E 1))), (1, (0, c)), (2, (0, nf18))]) rfl ?_
          refine r_putIK hX hP rfl fp_12_421 hS (by first | decide | omega) (by first | decide | omega) (fun h38 => ?_)
          have k39 : (pNa TT nn sr) 1 ≠ 0 ∨ nf18 = (pNa TT nn sr) 4 := by omega
          have k39w : (pNa TT nn sr) 1 ≠ 0 ∨ wf27 = wd TT (tkS TT nn ((pNa TT nn sr) 0)) (tkE TT nn ((pNa TT nn sr) 0)) := by omega
          have k39c := rm_c3 r23
          have rd40 : RdM E TT nn (pNw TT nn (pNa TT nn sr)) (up (up (up (up (up (up (hv [80, 81] [] G G6) 62 (Ad E 62) nf18 wf27) 69 (Ad E 69) nf18 c) 70 (Ad E 70) nf18 (-1)) 71 (Ad E 71) nf18 (-1)) 64 (Ad E 64) c nf18) 1 (Ad E 1) 89 (nf18 + 1)) := rm_mk (rm_tape r23 : _) (rm_end r23 : _) (rm_at r23 : _) (rm_beh r23 : _) (rm_sort r23 : _) (rm_num r23 : _) (rm_sgn r23 : _) (rm_word r23 : _) (rm_let r23 : _) (rm_bad r23 : _) (rm_bat r23 : _) (rm_nm r23 : _) (show _ ∨ _ from Or.inr (h38.symm.trans (show (nf18 + 1) = (pNa TT nn sr) 4 + 1 from by omega))) (rm_nd r23 : _) (rm_ti r23 : _) (rm_to r23 : _) (rm_nw (k := 0) (rm_w0 r23) k39w k39 : _) (rm_nw (k := 1) (rm_w1 r23) k39w k39 : _) (rm_nw (k := 2) (rm_w2 r23) k39w k39 : _) (rm_nq (k := 0) (rm_q0 r23) (rm_z0 r23) k39 : _) (rm_nq (k := 1) (rm_q1 r23) (rm_z1 r23) k39 : _) (rm_nq (k := 2) (rm_q2 r23) (rm_z2 r23) k39 : _) (rm_nz (rm_z0 r23) : _) (rm_nz (rm_z1 r23) : _) (rm_nz (rm_z2 r23) : _) (nmv_new (rm_nv r23) (by first | decide | omega) (by first | decide | omega) (by first | decide | omega)) (rm_p0 r23 : _) (rm_p1 r23 : _) (rm_n4 r23 : _) (show (pNa TT nn sr) 1 ≠ 0 ∨ (0 ≤ (pNa TT nn sr) 4 + 1 ∧ (pNa TT nn sr) 4 + 1 ≤ 3) from by omega)
          refine r_ex hX hP 1 (pc' := 103) (st' := [(2, (Ad E 1))]) (lo' := [(0, (2, (Ad E 1))), (1, (0, c)), (2, (0, nf18))]) rfl ?_
          refine r_callV gd hX hP rfl cv_12_398 hS (d' := 1) (mc' := 0) (ms' := 0) (as' := []) (st := []) (by first | decide | omega) (by first | decide | omega) (by first | decide | omega) rfl rfl (Nat.le_of_ble_eq_true rfl) (c_X12_nextR E S (up (up (up (up (up (up (hv [80, 81] [] G G6) 62 (Ad E 62) nf18 wf27) 69 (Ad E 69) nf18 c) 70 (Ad E 70) nf18 (-1)) 71 (Ad E 71) nf18 (-1)) 64 (Ad E 64) c nf18) 1 (Ad E 1) 89 (nf18 + 1))  hS TT nn (pNw TT nn (pNa TT nn sr)) rd40) ?_
          rintro _ _ _ ⟨rfl, ⟨G41, rfl⟩, rfl, r42⟩
          have k43 : (pAv TT nn (pNw TT nn (pNa TT nn sr))) 4 = pNa TT nn sr 4 + 1 := rfl
          have k44 : (pAv TT nn (pNw TT nn (pNa TT nn sr))) 1 = pNa TT nn sr 1 := rfl
          have kp45 := ch_kp TT nn (s := sr) pre1
          refine r_ex hX hP 3 (pc' := 109) (st' := [(0, nf18), (0, 0), (2, (Ad E 1))]) (lo' := [(0, (2, (Ad E 1))), (1, (0, c)), (2, (0, nf18))]) rfl ?_
          refine r_callV gd hX hP rfl cv_12_481 hS (d' := dA + 4) (mc' := 0) (ms' := 0) (as' := [(0, 0), (0, nf18)]) (st := []) (by first | decide | omega) (by first | decide | omega) (by first | decide | omega) rfl rfl (Nat.le_of_ble_eq_true rfl) (c_X12_bracesR E S (hv [82, 83, 84, 85, 86, 87] [] (up (up (up (up (up (up (hv [80, 81] [] G G6) 62 (Ad E 62) nf18 wf27) 69 (Ad E 69) nf18 c) 70 (Ad E 70) nf18 (-1)) 71 (Ad E 71) nf18 (-1)) 64 (Ad E 64) c nf18) 1 (Ad E 1) 89 (nf18 + 1)) G41) 0 nf18 hS newMany newMany_e (by first | decide | omega) (by first | decide | omega) (by first | decide | omega) (by first | decide | omega) dA hA TT nn (pAv TT nn (pNw TT nn (pNa TT nn sr))) r42 (-1) ((kp_8 kp45).trans pre1) (Int.le_trans pre2 (kp_9 kp45)) (ch_chc TT nn (c := nf18) ((kp_8 kp45).trans pre1) (show (pAv TT nn (pNw TT nn (pNa TT nn sr))) 1 ≠ 0 ∨ (0 ≤ nf18 ∧ (pAv TT nn (pNw TT nn (pNa TT nn sr))) 4 = nf18 + 1) from by omega))) ?_
          rintro _ _ _ ⟨rfl, ⟨G46, rfl⟩, rfl, bah47, bah47e, neh48, neh48e, f51, q49, q50, r52⟩
          obtain ⟨q53, rd54, c55⟩ := r52
          have k56 := rm_bad rd54
          have k56 := bah47e.trans k56
          have k57 := rm_nm rd54
          have k57 := k57.imp id (fun w => neh48e.trans w)
          refine r_peekI hX (tl1 80 rfl (by decide)) hS (fun o58 o58e o58a o58b => ?_)
          obtain rfl : bah47 = o58 := bah47e.trans o58e.symm
          refine r_peekI hX (tl1 88 rfl (by decide)) hS (fun o59 o59e o59a o59b => ?_)
          obtain rfl : neh48 = o59 := neh48e.trans o59e.symm
          have e60 : kd = (hv [80, 81, 82, 83, 84, 85, 86, 87, 88, 89, 90, 91, 92] [62, 63, 64, 65, 66, 67, 68, 69, 70, 71] (hv [82, 83, 84, 85, 86, 87] [] (up (up (up (up (up (up (hv [80, 81] [] G G6) 62 (Ad E 62) nf18 wf27) 69 (Ad E 69) nf18 c) 70 (Ad E 70) nf18 (-1)) 71 (Ad E 71) nf18 (-1)) 64 (Ad E 64) c nf18) 1 (Ad E 1) 89 (nf18 + 1)) G41) G46) 63 (Ad E 63) c := (show kd = (hv [82, 83, 84, 85, 86, 87] [] (up (up (up (up (up (up (hv [80, 81] [] G G6) 62 (Ad E 62) nf18 wf27) 69 (Ad E 69) nf18 c) 70 (Ad E 70) nf18 (-1)) 71 (Ad E 71) nf18 (-1)) 64 (Ad E 64) c nf18) 1 (Ad E 1) 89 (nf18 + 1)) G41) 63 (Ad E 63) c from kd_e).trans (q49 c (by first | decide | omega) (by first | decide | omega) (by first | decide | omega)).1.symm
          have e61 : tw = (hv [80, 81, 82, 83, 84, 85, 86, 87, 88, 89, 90, 91, 92] [62, 63, 64, 65, 66, 67, 68, 69, 70, 71] (hv [82, 83, 84, 85, 86, 87] [] (up (up (up (up (up (up (hv [80, 81] [] G G6) 62 (Ad E 62) nf18 wf27) 69 (Ad E 69) nf18 c) 70 (Ad E 70) nf18 (-1)) 71 (Ad E 71) nf18 (-1)) 64 (Ad E 64) c nf18) 1 (Ad E 1) 89 (nf18 + 1)) G41) G46) 65 (Ad E 65) c := (show tw = (hv [82, 83, 84, 85, 86, 87] [] (up (up (up (up (up (up (hv [80, 81] [] G G6) 62 (Ad E 62) nf18 wf27) 69 (Ad E 69) nf18 c) 70 (Ad E 70) nf18 (-1)) 71 (Ad E 71) nf18 (-1)) 64 (Ad E 64) c nf18) 1 (Ad E 1) 89 (nf18 + 1)) G41) 65 (Ad E 65) c from tw_e).trans (q49 c (by first | decide | omega) (by first | decide | omega) (by first | decide | omega)).2.2.1.symm
          have e62 : nf18 = (hv [80, 81, 82, 83, 84, 85, 86, 87, 88, 89, 90, 91, 92] [62, 63, 64, 65, 66, 67, 68, 69, 70, 71] (hv [82, 83, 84, 85, 86, 87] [] (up (up (up (up (up (up (hv [80, 81] [] G G6) 62 (Ad E 62) nf18 wf27) 69 (Ad E 69) nf18 c) 70 (Ad E 70) nf18 (-1)) 71 (Ad E 71) nf18 (-1)) 64 (Ad E 64) c nf18) 1 (Ad E 1) 89 (nf18 + 1)) G41) G46) 64 (Ad E 64) c := (show nf18 = (hv [82, 83, 84, 85, 86, 87] [] (up (up (up (up (up (up (hv [80, 81] [] G G6) 62 (Ad E 62) nf18 wf27) 69 (Ad E 69) nf18 c) 70 (Ad E 70) nf18 (-1)) 71 (Ad E 71) nf18 (-1)) 64 (Ad E 64) c nf18) 1 (Ad E 1) 89 (nf18 + 1)) G41) 64 (Ad E 64) c from h37).trans (q49 c (by first | decide | omega) (by first | decide | omega) (by first | decide | omega)).2.1.symm
          have hT63x : pPu TT nn (-1) (pAv TT nn (pNw TT nn (pNa TT nn sr))) = pCh TT nn sr := by unfold pCh; (repeat (first | rw [if_pos (by first | decide | omega)] | rw [if_neg (by first | decide | omega)])); try rfl
          have hT63 : pIt TT nn q53 (pCh TT nn sr) = pIt TT nn q53 (pPu TT nn (-1) (pAv TT nn (pNw TT nn (pNa TT nn sr)))) := by rw [← hT63x]
          exact r_retV hX hP rfl rfl (by first | decide | omega) (by first | decide | omega) ⟨rfl, ⟨_, (hq_call (hq_call (hq_up (hq_up (hq_up (hq_up (hq_up (hq_up (hq_call (hq_refl _ _ _) rfl) rfl) rfl) rfl) rfl) rfl) rfl) rfl) rfl).symm⟩, rfl, bah47, bah47e, neh48, neh48e, kd, e60, nf18, e62, tw, e61, (by first | decide | omega), (by first | decide | omega), (by first | decide | omega), (frz_trans (m := newMany) (x := c) (show FRZ E G (hv [82, 83, 84, 85, 86, 87] [] (up (up (up (up (up (up (hv [80, 81] [] G G6) 62 (Ad E 62) nf18 wf27) 69 (Ad E 69) nf18 c) 70 (Ad E 70) nf18 (-1)) 71 (Ad E 71) nf18 (-1)) 64 (Ad E 64) c nf18) 1 (Ad E 1) 89 (nf18 + 1)) G41) newMany c from fun i h0 hi hx => ⟨rfl, ((show (up (up (up (up (up (hv [80, 81] [] G G6) 62 (Ad E 62) nf18 wf27) 69 (Ad E 69) nf18 c) 70 (Ad E 70) nf18 (-1)) 71 (Ad E 71) nf18 (-1)) 64 (Ad E 64) c nf18) 64 (Ad E 64) i = _ from up_ne (fun q => absurd q.2.2 hx)).trans rfl), rfl, rfl, rfl, rfl⟩) q49 (Int.le_refl _) (fun i _ h _ => by omega)), ((Int.lt_or_le 0 bah47).elim (fun hb => Or.inl (by first | decide | omega)) (fun hb => Or.inr ⟨q50.resolve_left (by first | decide | omega), by omega, by omega⟩)), wh_end TT nn hT63 (show (pIt TT nn q53 (pPu TT nn (-1) (pAv TT nn (pNw TT nn (pNa TT nn sr))))) = _ from rfl) kp45 (by first | decide | omega) (by first | decide | omega) c55 (Or.inl rfl) rd54⟩
        · skip
          have k64 : (pNa TT nn sr) = pCh TT nn sr := by first | (exfalso; omega) | (unfold pCh; (repeat (first | rw [if_pos (by first | decide | omega)] | rw [if_neg (by first | decide | omega)])); try (first | rfl | exact pFl_id TT nn (by first | decide | omega)))
          refine r_labC hX (tl1 95 rfl (by decide)) hS (fun s65 => ?_)
          refine r_apeekI hX al_64 s65 (i := c) (by first | decide | omega) (by first | decide | omega) (fun nek66 nek66e nek66a nek66b => ?_)
          exact r_retV hX hP rfl rfl (by first | decide | omega) (by first | decide | omega) ⟨rfl, ⟨_, (hq_call (hq_refl _ _ _) rfl).symm⟩, rfl, bah8, bah8e, newMany, newMany_e, kd, kd_e, nek66, nek66e, tw, tw_e, (by first | decide | omega), (by first | decide | omega), (by first | decide | omega), (show FRZ E G (hv [80, 81] [] G G6) newMany c from fun i h0 hi hx => ⟨rfl, rfl, rfl, rfl, rfl, rfl⟩), (Or.inl (by first | decide | omega)), ⟨0, rm_cast r23 k64, Or.inl (show pCh TT nn sr 1 ≠ 0 from by rw [← k64]; omega)⟩⟩
      · skip
        refine r_ex hX hP 3 (pc' := 35) (st' := [(2, (Ad E 1)), (0, 5), (2, (Ad E 1))]) (lo' := [(0, (2, (Ad E 1))), (1, (0, c))]) rfl ?_
        refine r_getI hX hP rfl fl_12_352 hS (fun af67 af67e af67a af67b => ?_)
        have k68 := rm_at r23
        have k68 := af67e.trans k68
        refine r_callV gd hX hP rfl cv_12_388 hS (d' := 0) (mc' := 0) (ms' := 0) (as' := [(0, 5), (0, af67)]) (st := []) (by first | decide | omega) (by first | decide | omega) (by first | decide | omega) rfl rfl (Nat.le_of_ble_eq_true rfl) (c_X12_failR E S (hv [80, 81] [] G G6) 5 af67 hS (by first | decide | omega) (by first | decide | omega) (by first | decide | omega) (by first | decide | omega) TT nn (pNa TT nn sr) r23 (by first | decide | omega)) ?_
        rintro _ _ _ ⟨rfl, ⟨G69, rfl⟩, rfl, bah70, bah70e, f71, r72⟩
        have k73 := rm_bad r72
        have k73 := bah70e.trans k73
        refine r_peekI hX (tl1 80 rfl (by decide)) hS (fun o74 o74e o74a o74b => ?_)
        obtain rfl : bah70 = o74 := bah70e.trans o74e.symm
        refine r_ex hX hP 1 (pc' := 42) (st' := [(2, (Ad E 1))]) (lo' := [(0, (2, (Ad E 1))), (1, (0, c))]) rfl ?_
        refine r_getKI hX hP rfl fl_12_382 hS (x := bah70) bah70e ?_
        refine r_if_le hX hP rfl (tgt := 49) rfl (by first | decide | omega) (by first | decide | omega) (fun c75 => ?_) (fun c75 => ?_)
        · skip
          exfalso; omega
        · skip
          have k76 : pFl TT nn 5 (pNa TT nn sr) = pCh TT nn sr := by first | (exfalso; omega) | (unfold pCh; (repeat (first | rw [if_pos (by first | decide | omega)] | rw [if_neg (by first | decide | omega)])); try (first | rfl | exact pFl_id TT nn (by first | decide | omega)))
          refine r_labC hX (tl1 95 rfl (by decide)) hS (fun s77 => ?_)
          refine r_apeekI hX al_64 s77 (i := c) (by first | decide | omega) (by first | decide | omega) (fun nek78 nek78e nek78a nek78b => ?_)
          exact r_retV hX hP rfl rfl (by first | decide | omega) (by first | decide | omega) ⟨rfl, ⟨_, (hq_call (hq_call (hq_refl _ _ _) rfl) rfl).symm⟩, rfl, bah70, bah70e, newMany, newMany_e, kd, kd_e, nek78, nek78e, tw, tw_e, (by first | decide | omega), (by first | decide | omega), (by first | decide | omega), (show FRZ E G (hv [80, 81] [] (hv [80, 81] [] G G6) G69) newMany c from fun i h0 hi hx => ⟨rfl, rfl, rfl, rfl, rfl, rfl⟩), (Or.inl (by first | decide | omega)), ⟨0, rm_cast r72 k76, Or.inl (show pCh TT nn sr 1 ≠ 0 from by rw [← k76]; omega)⟩⟩
    · skip
      refine r_ex hX hP 3 (pc' := 19) (st' := [(2, (Ad E 1)), (0, 3), (2, (Ad E 1))]) (lo' := [(0, (2, (Ad E 1))), (1, (0, c))]) rfl ?_
      refine r_getI hX hP rfl fl_12_352 hS (fun af79 af79e af79a af79b => ?_)
      have k80 := rm_at r10
      have k80 := af79e.trans k80
      refine r_callV gd hX hP rfl cv_12_388 hS (d' := 0) (mc' := 0) (ms' := 0) (as' := [(0, 3), (0, af79)]) (st := []) (by first | decide | omega) (by first | decide | omega) (by first | decide | omega) rfl rfl (Nat.le_of_ble_eq_true rfl) (c_X12_failR E S (hv [80, 81] [] G G6) 3 af79 hS (by first | decide | omega) (by first | decide | omega) (by first | decide | omega) (by first | decide | omega) TT nn (pNa TT nn sr) r10 (by first | decide | omega)) ?_
      rintro _ _ _ ⟨rfl, ⟨G81, rfl⟩, rfl, bah82, bah82e, f83, r84⟩
      have k85 := rm_bad r84
      have k85 := bah82e.trans k85
      refine r_peekI hX (tl1 80 rfl (by decide)) hS (fun o86 o86e o86a o86b => ?_)
      obtain rfl : bah82 = o86 := bah82e.trans o86e.symm
      refine r_ex hX hP 1 (pc' := 26) (st' := [(2, (Ad E 1))]) (lo' := [(0, (2, (Ad E 1))), (1, (0, c))]) rfl ?_
      refine r_callV gd hX hP rfl cv_12_478 hS (d' := 0) (mc' := 0) (ms' := 0) (as' := []) (st := []) (by first | decide | omega) (by first | decide | omega) (by first | decide | omega) rfl rfl (Nat.le_of_ble_eq_true rfl) (c_X12_namedR E S (hv [80, 81] [] (hv [80, 81] [] G G6) G81)  hS TT nn (pFl TT nn 3 (pNa TT nn sr)) r84 (by first | decide | omega)) ?_
      rintro _ _ _ ⟨rfl, rfl, z87, rfl, z87a, z87b, f88, r89⟩
      refine r_if_lt hX hP rfl (tgt := 41) rfl (by first | decide | omega) (by first | decide | omega) (fun c90 => ?_) (fun c90 => ?_)
      · skip
        refine r_ex hX hP 1 (pc' := 42) (st' := [(2, (Ad E 1))]) (lo' := [(0, (2, (Ad E 1))), (1, (0, c))]) rfl ?_
        refine r_getKI hX hP rfl fl_12_382 hS (x := bah82) bah82e ?_
        refine r_if_le hX hP rfl (tgt := 49) rfl (by first | decide | omega) (by first | decide | omega) (fun c91 => ?_) (fun c91 => ?_)
        · skip
          exfalso; omega
        · skip
          have k92 : (pFl TT nn 3 (pNa TT nn sr)) = pCh TT nn sr := by first | (exfalso; omega) | (unfold pCh; (repeat (first | rw [if_pos (by first | decide | omega)] | rw [if_neg (by first | decide | omega)])); try (first | rfl | exact pFl_id TT nn (by first | decide | omega)))
          refine r_labC hX (tl1 95 rfl (by decide)) hS (fun s93 => ?_)
          refine r_apeekI hX al_64 s93 (i := c) (by first | decide | omega) (by first | decide | omega) (fun nek94 nek94e nek94a nek94b => ?_)
          exact r_retV hX hP rfl rfl (by first | decide | omega) (by first | decide | omega) ⟨rfl, ⟨_, (hq_call (hq_call (hq_refl _ _ _) rfl) rfl).symm⟩, rfl, bah82, bah82e, newMany, newMany_e, kd, kd_e, nek94, nek94e, tw, tw_e, (by first | decide | omega), (by first | decide | omega), (by first | decide | omega), (show FRZ E G (hv [80, 81] [] (hv [80, 81] [] G G6) G81) newMany c from fun i h0 hi hx => ⟨rfl, rfl, rfl, rfl, rfl, rfl⟩), (Or.inl (by first | decide | omega)), ⟨0, rm_cast r89 k92, Or.inl (show pCh TT nn sr 1 ≠ 0 from by rw [← k92]; omega)⟩⟩
      · skip
        have k95 := congrArg (tkS TT nn) (pFl_0 TT nn 3 (pNa TT nn sr))
        refine r_ex hX hP 3 (pc' := 35) (st' := [(2, (Ad E 1)), (0, 5), (2, (Ad E 1))]) (lo' := [(0, (2, (Ad E 1))), (1, (0, c))]) rfl ?_
        refine r_getKI hX hP rfl fl_12_352 hS (x := af79) af79e ?_
        refine r_callV gd hX hP rfl cv_12_388 hS (d' := 0) (mc' := 0) (ms' := 0) (as' := [(0, 5), (0, af79)]) (st := []) (by first | decide | omega) (by first | decide | omega) (by first | decide | omega) rfl rfl (Nat.le_of_ble_eq_true rfl) (c_X12_failR E S (hv [80, 81] [] (hv [80, 81] [] G G6) G81) 5 af79 hS (by first | decide | omega) (by first | decide | omega) (by first | decide | omega) (by first | decide | omega) TT nn (pFl TT nn 3 (pNa TT nn sr)) r89 (by first | decide | omega)) ?_
        rintro _ _ _ ⟨rfl, ⟨G96, rfl⟩, rfl, bah97, bah97e, f98, r99⟩
        have k100 := rm_bad r99
        have k100 := bah97e.trans k100
        refine r_peekI hX (tl1 80 rfl (by decide)) hS (fun o101 o101e o101a o101b => ?_)
        obtain rfl : bah97 = o101 := bah97e.trans o101e.symm
        refine r_ex hX hP 1 (pc' := 42) (st' := [(2, (Ad E 1))]) (lo' := [(0, (2, (Ad E 1))), (1, (0, c))]) rfl ?_
        refine r_getKI hX hP rfl fl_12_382 hS (x := bah97) bah97e ?_
        refine r_if_le hX hP rfl (tgt := 49) rfl (by first | decide | omega) (by first | decide | omega) (fun c102 => ?_) (fun c102 => ?_)
        · skip
          exfalso; omega
        · skip
          have k103 : pFl TT nn 5 (pFl TT nn 3 (pNa TT nn sr)) = pCh TT nn sr := by first | (exfalso; omega) | (unfold pCh; (repeat (first | rw [if_pos (by first | decide | omega)] | rw [if_neg (by first | decide | omega)])); try (first | rfl | exact pFl_id TT nn (by first | decide | omega)))
          refine r_labC hX (tl1 95 rfl (by decide)) hS (fun s104 => ?_)
          refine r_apeekI hX al_64 s104 (i := c) (by first | decide | omega) (by first | decide | omega) (fun nek105 nek105e nek105a nek105b => ?_)
          exact r_retV hX hP rfl rfl (by first | decide | omega) (by first | decide | omega) ⟨rfl, ⟨_, (hq_call (hq_call (hq_call (hq_refl _ _ _) rfl) rfl) rfl).symm⟩, rfl, bah97, bah97e, newMany, newMany_e, kd, kd_e, nek105, nek105e, tw, tw_e, (by first | decide | omega), (by first | decide | omega), (by first | decide | omega), (show FRZ E G (hv [80, 81] [] (hv [80, 81] [] (hv [80, 81] [] G G6) G81) G96) newMany c from fun i h0 hi hx => ⟨rfl, rfl, rfl, rfl, rfl, rfl⟩), (Or.inl (by first | decide | omega)), ⟨0, rm_cast r99 k103, Or.inl (show pCh TT nn sr 1 ≠ 0 from by rw [← k103]; omega)⟩⟩
  · skip
    have k106 : pNa TT nn sr = pCh TT nn sr := by first | (exfalso; omega) | (unfold pCh; (repeat (first | rw [if_pos (by first | decide | omega)] | rw [if_neg (by first | decide | omega)])); try (first | rfl | exact pFl_id TT nn (by first | decide | omega)))
    refine r_labC hX (tl1 95 rfl (by decide)) hS (fun s107 => ?_)
    refine r_apeekI hX al_64 s107 (i := c) (by first | decide | omega) (by first | decide | omega) (fun nek108 nek108e nek108a nek108b => ?_)
    exact r_retV hX hP rfl rfl (by first | decide | omega) (by first | decide | omega) ⟨rfl, ⟨_, (hq_call (hq_refl _ _ _) rfl).symm⟩, rfl, bah8, bah8e, newMany, newMany_e, kd, kd_e, nek108, nek108e, tw, tw_e, (by first | decide | omega), (by first | decide | omega), (by first | decide | omega), (show FRZ E G (hv [80, 81] [] G G6) newMany c from fun i h0 hi hx => ⟨rfl, rfl, rfl, rfl, rfl, rfl⟩), (Or.inl (by first | decide | omega)), ⟨0, rm_cast r10 k106, Or.inl (show pCh TT nn sr 1 ≠ 0 from by rw [← k106]; omega)⟩⟩
