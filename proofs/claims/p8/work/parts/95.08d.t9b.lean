set_option maxRecDepth 100000 in
set_option maxHeartbeats 4000000 in
theorem c_X12_readClauseR (E : En) (S : Sg) (G : Gh) (w ch : Int) (hS : S (Ad E 1) = 1) (newMany : Int) (newMany_e : newMany = G 1 (Ad E 1) 88) (bad : Int) (bad_e : bad = G 1 (Ad E 1) 80) (w_a : 0 ≤ w) (w_b : w ≤ 3) (ch_a : (-1) ≤ ch) (ch_b : ch ≤ 2) (pre0 : bad = 0) (dA : Nat) (hA : w ≤ 2 → RAR E S dA (w + 1)) (TT : Tp) (nn : Int) (sr : Rg) (rd : RdM E TT nn sr G) (pre1 : sr 1 = 0) (pre2 : sr 8 = w) (pre3 : 0 ≤ sr 9) (pre4 : ((ch = -1 ∧ pRw sr = 3) ∨ (0 ≤ ch ∧ pRw sr = ch))) (pre5 : (w ≠ 0 ∨ tkK TT nn (sr 0) ≠ 0)) (pre6 : (w = 0 ∨ tkK TT nn (sr 0) ≠ 125)) : Calls E mX12_readClause [(2, (Ad E 1)), (0, w), (0, ch)] S G (dA + 8) 0 0 (fun r S' G' => S = S' ∧ (∃ G1, hv [80, 81, 82, 83, 84, 85, 86, 87, 88, 89, 90, 91, 92] [62, 63, 64, 65, 66, 67, 68, 69, 70, 71] G G1 = G') ∧ r = none ∧ ∃ bad' : Int, bad' = G' 1 (Ad E 1) 80 ∧ ∃ n' : Int, n' = G' 1 (Ad E 1) 88 ∧ newMany ≤ n' ∧ (1 ≤ bad' ∨ newMany < n') ∧ FRZ E G G' newMany (-1) ∧ (1 ≤ bad' ∨ NI E G' newMany n' n') ∧ (∃ kq : Nat, RdM E TT nn (pIt TT nn kq sr) G' ∧ ((pIt TT nn kq sr) 1 ≠ 0 ∨ KP sr (pIt TT nn kq sr)))) := by
  refine calls_by [(0, (2, (Ad E 1))), (1, (0, w)), (2, (0, ch))] rfl rfl (Nat.le_of_ble_eq_true rfl) (fun X hX => ?_)
  have hP := hPX12_readClause
  refine r_peekI hX (tl1 88 rfl (by decide)) hS (fun newMany_o newMany_oe newMany_oa newMany_ob => ?_)
  obtain rfl : newMany = newMany_o := newMany_e.trans newMany_oe.symm
  refine r_peekI hX (tl1 80 rfl (by decide)) hS (fun bad_o bad_oe bad_oa bad_ob => ?_)
  obtain rfl : bad = bad_o := bad_e.trans bad_oe.symm
  have k1 := rm_nm rd
  have k1 := k1.imp id (fun w => newMany_e.trans w)
  have k2 := rm_bad rd
  have k2 := bad_e.trans k2
  refine r_ex hX hP 1 (pc' := 1) (st' := [(2, (Ad E 1))]) (lo' := [(0, (2, (Ad E 1))), (1, (0, w)), (2, (0, ch))]) rfl ?_
  refine r_callV gd hX hP rfl cv_12_434 hS (d' := 2) (mc' := 0) (ms' := 0) (as' := []) (st := []) (by first | decide | omega) (by first | decide | omega) (by first | decide | omega) rfl rfl (Nat.le_of_ble_eq_true rfl) (c_X12_clauseKindR E S G  hS TT nn sr rd) ?_
  rintro _ _ _ ⟨rfl, rfl, z3, rfl, z3a, z3b, f4, r5⟩
  refine r_ex hX hP 2 (pc' := 6) (st' := [(0, z3)]) (lo' := [(0, (2, (Ad E 1))), (1, (0, w)), (2, (0, ch)), (3, (0, z3))]) rfl ?_
  refine r_if_ge hX hP rfl (tgt := 13) rfl (by first | decide | omega) (by first | decide | omega) (fun c6 => ?_) (fun c6 => ?_)
  · skip
    refine r_ex hX hP 1 (pc' := 14) (st' := [(2, (Ad E 1))]) (lo' := [(0, (2, (Ad E 1))), (1, (0, w)), (2, (0, ch)), (3, (0, z3))]) rfl ?_
    refine r_getKI hX hP rfl fl_12_382 hS (x := bad) bad_e ?_
    refine r_if_le hX hP rfl (tgt := 21) rfl (by first | decide | omega) (by first | decide | omega) (fun c7 => ?_) (fun c7 => ?_)
    · skip
      have hc4 : ch < 0 ∨ ch < sr 4 := by have := pRw_or sr; omega
      clear pre5 pre6
      have or8 := faA_or sr
      have j44 : ∀ (bad_j44 : Int) (Gj44 : Gh), bad_j44 = (hv [80, 81] [] G Gj44) 1 (Ad E 1) 80 → 0 ≤ bad_j44 → bad_j44 ≤ 6 → bad_j44 = faA sr → RdM E TT nn (fc TT nn bad_j44 sr) (hv [80, 81] [] G Gj44) → X 0 0 44 [] [(0, (2, (Ad E 1))), (1, (0, w)), (2, (0, ch)), (3, (0, z3))] S (hv [80, 81] [] G Gj44) := by
        intro bad_j44 Gj44 bad_j44_e yj44_0 yj44_1 yj44_2 yj44_3
        clear or8
        have k9 := fc_1 TT nn (w := bad_j44) (s := sr) (by first | decide | omega)
        have k10 := rm_bad yj44_3
        have k10 := bad_j44_e.trans k10
        have k11 : ∀ j : Int, 3 ≤ j → fc TT nn bad_j44 sr j = sr j := fun j hj => fc_hi TT nn sr hj
        have k12 := k11 3 (by decide)
        have k13 := k11 4 (by decide)
        have k14 := k11 5 (by decide)
        have k15 := k11 6 (by decide)
        have k16 := k11 7 (by decide)
        have k17 := k11 8 (by decide)
        have k18 := n3_cong (s := sr) (t := fc TT nn bad_j44 sr) (b := 40) (k11 40 (by decide)) (k11 41 (by decide)) (k11 42 (by decide)) ch
        have or19 := faB_or z3 sr
        have j66 : ∀ (bad_j66 : Int) (Gj66 : Gh), bad_j66 = (hv [80, 81] [] (hv [80, 81] [] G Gj44) Gj66) 1 (Ad E 1) 80 → 0 ≤ bad_j66 → bad_j66 ≤ 6 → bad_j66 = faB z3 sr → RdM E TT nn (fc TT nn bad_j66 sr) (hv [80, 81] [] (hv [80, 81] [] G Gj44) Gj66) → X 0 0 66 [] [(0, (2, (Ad E 1))), (1, (0, w)), (2, (0, ch)), (3, (0, z3))] S (hv [80, 81] [] (hv [80, 81] [] G Gj44) Gj66) := by
          intro bad_j66 Gj66 bad_j66_e yj66_0 yj66_1 yj66_2 yj66_3
          clear yj44_2
          clear or19
          have k20 := fc_1 TT nn (w := bad_j66) (s := sr) (by first | decide | omega)
          have k21 := rm_bad yj66_3
          have k21 := bad_j66_e.trans k21
          have k22 : ∀ j : Int, 3 ≤ j → fc TT nn bad_j66 sr j = sr j := fun j hj => fc_hi TT nn sr hj
          have k23 := k22 3 (by decide)
          have k24 := k22 4 (by decide)
          have k25 := k22 5 (by decide)
          have k26 := k22 6 (by decide)
          have k27 := k22 7 (by decide)
          have k28 := k22 8 (by decide)
          have k29 := n3_cong (s := sr) (t := fc TT nn bad_j66 sr) (b := 40) (k22 40 (by decide)) (k22 41 (by decide)) (k22 42 (by decide)) ch
          have or30 := faC_or z3 sr
          have j92 : ∀ (bad_j92 : Int) (Gj92 : Gh), bad_j92 = (hv [80, 81] [] (hv [80, 81] [] (hv [80, 81] [] G Gj44) Gj66) Gj92) 1 (Ad E 1) 80 → 0 ≤ bad_j92 → bad_j92 ≤ 6 → bad_j92 = faC z3 sr → RdM E TT nn (fc TT nn bad_j92 sr) (hv [80, 81] [] (hv [80, 81] [] (hv [80, 81] [] G Gj44) Gj66) Gj92) → X 0 0 92 [] [(0, (2, (Ad E 1))), (1, (0, w)), (2, (0, ch)), (3, (0, z3))] S (hv [80, 81] [] (hv [80, 81] [] (hv [80, 81] [] G Gj44) Gj66) Gj92) := by
            intro bad_j92 Gj92 bad_j92_e yj92_0 yj92_1 yj92_2 yj92_3
            clear yj66_2
            clear or30
            have k31 := fc_1 TT nn (w := bad_j92) (s := sr) (by first | decide | omega)
            have k32 := rm_bad yj92_3
            have k32 := bad_j92_e.trans k32
            have k33 : ∀ j : Int, 3 ≤ j → fc TT nn bad_j92 sr j = sr j := fun j hj => fc_hi TT nn sr hj
            have k34 := k33 3 (by decide)
            have k35 := k33 4 (by decide)
            have k36 := k33 5 (by decide)
            have k37 := k33 6 (by decide)
            have k38 := k33 7 (by decide)
            have k39 := k33 8 (by decide)
            have k40 := n3_cong (s := sr) (t := fc TT nn bad_j92 sr) (b := 40) (k33 40 (by decide)) (k33 41 (by decide)) (k33 42 (by decide)) ch
            have or41 := faD_or z3 ch sr
            have j126 : ∀ (bad_j126 : Int) (Gj126 : Gh), bad_j126 = (hv [80, 81] [] (hv [80, 81] [] (hv [80, 81] [] (hv [80, 81] [] G Gj44) Gj66) Gj92) Gj126) 1 (Ad E 1) 80 → 0 ≤ bad_j126 → bad_j126 ≤ 6 → bad_j126 = faD z3 ch sr → RdM E TT nn (fc TT nn bad_j126 sr) (hv [80, 81] [] (hv [80, 81] [] (hv [80, 81] [] (hv [80, 81] [] G Gj44) Gj66) Gj92) Gj126) → X 0 0 126 [] [(0, (2, (Ad E 1))), (1, (0, w)), (2, (0, ch)), (3, (0, z3))] S (hv [80, 81] [] (hv [80, 81] [] (hv [80, 81] [] (hv [80, 81] [] G Gj44) Gj66) Gj92) Gj126) := by
              intro bad_j126 Gj126 bad_j126_e yj126_0 yj126_1 yj126_2 yj126_3
              clear yj92_2
              clear or41
              have k42 := fc_1 TT nn (w := bad_j126) (s := sr) (by first | decide | omega)
              have k43 := rm_bad yj126_3
              have k43 := bad_j126_e.trans k43
              have k44 : ∀ j : Int, 3 ≤ j → fc TT nn bad_j126 sr j = sr j := fun j hj => fc_hi TT nn sr hj
              have k45 := k44 3 (by decide)
              have k46 := k44 4 (by decide)
              have k47 := k44 5 (by decide)
              have k48 := k44 6 (by decide)
              have k49 := k44 7 (by decide)
              have k50 := k44 8 (by decide)
              have k51 := n3_cong (s := sr) (t := fc TT nn bad_j126 sr) (b := 40) (k44 40 (by decide)) (k44 41 (by decide)) (k44 42 (by decide)) ch
              have or52 := faE_or z3 ch sr
              have j162 : ∀ (bad_j162 : Int) (Gj162 : Gh), bad_j162 = (hv [80, 81] [] (hv [80, 81] [] (hv [80, 81] [] (hv [80, 81] [] (hv [80, 81] [] G Gj44) Gj66) Gj92) Gj126) Gj162) 1 (Ad E 1) 80 → 0 ≤ bad_j162 → bad_j162 ≤ 6 → bad_j162 = faE z3 ch sr → RdM E TT nn (fc TT nn bad_j162 sr) (hv [80, 81] [] (hv [80, 81] [] (hv [80, 81] [] (hv [80, 81] [] (hv [80, 81] [] G Gj44) Gj66) Gj92) Gj126) Gj162) → X 0 0 162 [] [(0, (2, (Ad E 1))), (1, (0, w)), (2, (0, ch)), (3, (0, z3))] S (hv [80, 81] [] (hv [80, 81] [] (hv [80, 81] [] (hv [80, 81] [] (hv [80, 81] [] G Gj44) Gj66) Gj92) Gj126) Gj162) := by
                intro bad_j162 Gj162 bad_j162_e yj162_0 yj162_1 yj162_2 yj162_3
                clear yj126_2
                clear or52
                have k53 := fc_1 TT nn (w := bad_j162) (s := sr) (by first | decide | omega)
                have k54 := rm_bad yj162_3
                have k54 := bad_j162_e.trans k54
                have k55 : ∀ j : Int, 3 ≤ j → fc TT nn bad_j162 sr j = sr j := fun j hj => fc_hi TT nn sr hj
                have k56 := k55 3 (by decide)
                have k57 := k55 4 (by decide)
                have k58 := k55 5 (by decide)
                have k59 := k55 6 (by decide)
                have k60 := k55 7 (by decide)
                have k61 := k55 8 (by decide)
                have k62 := n3_cong (s := sr) (t := fc TT nn bad_j162 sr) (b := 40) (k55 40 (by decide)) (k55 41 (by decide)) (k55 42 (by decide)) ch
                refine r_ex hX hP 1 (pc' := 163) (st' := [(2, (Ad E 1))]) (lo' := [(0, (2, (Ad E 1))), (1, (0, w)), (2, (0, ch)), (3, (0, z3))]) rfl ?_
                refine r_getKI hX hP rfl fl_12_382 hS (x := bad_j162) bad_j162_e ?_
                refine r_if_le hX hP rfl (tgt := 170) rfl (by first | decide | omega) (by first | decide | omega) (fun c63 => ?_) (fun c63 => ?_)
                · skip
                  have hE0 : faE z3 ch sr = 0 := by omega
                  have hwf : pWf z3 sr = 0 := (wf_faE (by first | decide | omega) (by first | decide | omega) pre4).trans hE0
                  have hcc := faE_0 hE0
                  have h30 : sr 3 < 30 ∧ sr 8 < 3 := ⟨hcc.1, hcc.2.1⟩
                  have hp8 : id (z3 ≠ 8 ∨ sr 5 = -1) := hcc.2.2.1
                  have hp7 : z3 ≠ 7 ∨ sr 8 ≤ 0 := hcc.2.2.2.1.imp And.left id
                  have hz9 : z3 ≠ 9 ∨ 0 ≤ ch := hcc.2.2.2.2.1.imp id And.left
                  have hq4 : id (z3 ≠ 9 ∨ ch < sr 4) := hcc.2.2.2.2.1.imp id (fun h => hc4.elim (fun q => absurd q (Int.not_lt.mpr h.1)) id)
                  have hq9 : id (z3 ≠ 9 ∨ ch = pRw sr) := hz9.imp id (fun h => pre4.elim (fun q => absurd h (by first | decide | omega)) (fun q => q.2.symm))
                  have hch : id ((ch = -1 ∧ pRw sr = 3) ∨ (0 ≤ ch ∧ pRw sr = ch)) := pre4
                  clear hcc hc4 hE0 yj162_2
                  have rd64 := rm_cast yj162_3 (show fc TT nn bad_j162 sr = sr from if_pos (by first | decide | omega))
                  have j198 : ∀ (Gj198 : Gh), RdM E TT nn (pTk z3 sr) (hv [91, 92] [] (hv [80, 81] [] (hv [80, 81] [] (hv [80, 81] [] (hv [80, 81] [] (hv [80, 81] [] G Gj44) Gj66) Gj92) Gj126) Gj162) Gj198) → X 0 0 198 [] [(0, (2, (Ad E 1))), (1, (0, w)), (2, (0, ch)), (3, (0, z3))] S (hv [91, 92] [] (hv [80, 81] [] (hv [80, 81] [] (hv [80, 81] [] (hv [80, 81] [] (hv [80, 81] [] G Gj44) Gj66) Gj92) Gj126) Gj162) Gj198) := by
                    intro Gj198 yj198_0
                    clear pre4
                    refine r_ex hX hP 1 (pc' := 199) (st' := [(2, (Ad E 1))]) (lo' := [(0, (2, (Ad E 1))), (1, (0, w)), (2, (0, ch)), (3, (0, z3))]) rfl ?_
                    refine r_getKI hX hP rfl fl_12_438 hS (x := newMany) newMany_e ?_
                    refine r_ex hX hP 3 (pc' := 206) (st' := [(2, (Ad E 1)), (2, (Ad E 1))]) (lo' := [(0, (2, (Ad E 1))), (1, (0, w)), (2, (0, ch)), (3, (0, z3)), (4, (0, newMany))]) rfl ?_
                    refine r_getKI hX hP rfl fl_12_438 hS (x := newMany) newMany_e ?_
                    refine r_ex hX hP 2 (pc' := 211) (st' := [(0, (newMany + 1)), (2, (Ad E 1))]) (lo' := [(0, (2, (Ad E 1))), (1, (0, w)), (2, (0, ch)), (3, (0, z3)), (4, (0, newMany))]) rfl ?_
                    refine r_putIK hX hP rfl fp_12_438 hS (by first | decide | omega) (by first | decide | omega) (fun h65 => ?_)
                    have rd66 : RdM E TT nn (ud (pTk z3 sr) 3 (sr 3 + 1)) (up (hv [91, 92] [] (hv [80, 81] [] (hv [80, 81] [] (hv [80, 81] [] (hv [80, 81] [] (hv [80, 81] [] G Gj44) Gj66) Gj92) Gj126) Gj162) Gj198) 1 (Ad E 1) 88 (newMany + 1)) := rm_mk (rm_tape yj198_0 : _) (rm_end yj198_0 : _) (rm_at yj198_0 : _) (rm_beh yj198_0 : _) (rm_sort yj198_0 : _) (rm_num yj198_0 : _) (rm_sgn yj198_0 : _) (rm_word yj198_0 : _) (rm_let yj198_0 : _) (rm_bad yj198_0 : _) (rm_bat yj198_0 : _) (show _ ∨ _ from Or.inr (h65.symm.trans (show (newMany + 1) = sr 3 + 1 from by omega))) (rm_nc yj198_0 : _) (rm_nd yj198_0 : _) (rm_ti yj198_0 : _) (rm_to yj198_0 : _) (rm_w0 yj198_0 : _) (rm_w1 yj198_0 : _) (rm_w2 yj198_0 : _) (rm_q0 yj198_0 : _) (rm_q1 yj198_0 : _) (rm_q2 yj198_0 : _) (rm_z0 yj198_0 : _) (rm_z1 yj198_0 : _) (rm_z2 yj198_0 : _) (rm_nv yj198_0 : _) (rm_p0 yj198_0 : _) (rm_p1 yj198_0 : _) (rm_n4 yj198_0 : _) (rm_c3 yj198_0 : _)
                    refine r_ex hX hP 1 (pc' := 215) (st' := [(2, (Ad E 1))]) (lo' := [(0, (2, (Ad E 1))), (1, (0, w)), (2, (0, ch)), (3, (0, z3)), (4, (0, newMany))]) rfl ?_
                    refine r_getC hX hP rfl fl_12_214 hS (fun s67 => ?_)
                    refine r_ex hX hP 2 (pc' := 221) (st' := [(0, z3), (0, newMany), (2, (Ad E 63))]) (lo' := [(0, (2, (Ad E 1))), (1, (0, w)), (2, (0, ch)), (3, (0, z3)), (4, (0, newMany))]) rfl ?_
                    refine r_iastK hX hP rfl al_63 s67 (by first | decide | omega) (by first | decide | omega) (by first | decide | omega) (by first | decide | omega) (fun h68 => ?_)
                    refine r_ex hX hP 1 (pc' := 223) (st' := [(2, (Ad E 1))]) (lo' := [(0, (2, (Ad E 1))), (1, (0, w)), (2, (0, ch)), (3, (0, z3)), (4, (0, newMany))]) rfl ?_
                    refine r_getC hX hP rfl fl_12_217 hS (fun s69 => ?_)
                    refine r_ex hX hP 2 (pc' := 229) (st' := [(0, 0), (0, newMany), (2, (Ad E 64))]) (lo' := [(0, (2, (Ad E 1))), (1, (0, w)), (2, (0, ch)), (3, (0, z3)), (4, (0, newMany))]) rfl ?_
                    refine r_iastK hX hP rfl al_64 s69 (by first | decide | omega) (by first | decide | omega) (by first | decide | omega) (by first | decide | omega) (fun h70 => ?_)
                    refine r_ex hX hP 1 (pc' := 231) (st' := [(2, (Ad E 1))]) (lo' := [(0, (2, (Ad E 1))), (1, (0, w)), (2, (0, ch)), (3, (0, z3)), (4, (0, newMany))]) rfl ?_
                    refine r_getC hX hP rfl fl_12_220 hS (fun s71 => ?_)
                    refine r_ex hX hP 2 (pc' := 237) (st' := [(0, 1), (0, newMany), (2, (Ad E 65))]) (lo' := [(0, (2, (Ad E 1))), (1, (0, w)), (2, (0, ch)), (3, (0, z3)), (4, (0, newMany))]) rfl ?_
                    refine r_iastK hX hP rfl al_65 s71 (by first | decide | omega) (by first | decide | omega) (by first | decide | omega) (by first | decide | omega) (fun h72 => ?_)
                    refine r_ex hX hP 1 (pc' := 239) (st' := [(2, (Ad E 1))]) (lo' := [(0, (2, (Ad E 1))), (1, (0, w)), (2, (0, ch)), (3, (0, z3)), (4, (0, newMany))]) rfl ?_
                    refine r_getC hX hP rfl fl_12_223 hS (fun s73 => ?_)
                    refine r_ex hX hP 2 (pc' := 245) (st' := [(0, 0), (0, newMany), (2, (Ad E 66))]) (lo' := [(0, (2, (Ad E 1))), (1, (0, w)), (2, (0, ch)), (3, (0, z3)), (4, (0, newMany))]) rfl ?_
                    refine r_iastK hX hP rfl al_66 s73 (by first | decide | omega) (by first | decide | omega) (by first | decide | omega) (by first | decide | omega) (fun h74 => ?_)
                    refine r_ex hX hP 1 (pc' := 247) (st' := [(2, (Ad E 1))]) (lo' := [(0, (2, (Ad E 1))), (1, (0, w)), (2, (0, ch)), (3, (0, z3)), (4, (0, newMany))]) rfl ?_
                    refine r_callV gd hX hP rfl cv_12_398 hS (d' := 1) (mc' := 0) (ms' := 0) (as' := []) (st := []) (by first | decide | omega) (by first | decide | omega) (by first | decide | omega) rfl rfl (Nat.le_of_ble_eq_true rfl) (c_X12_nextR E S (up (up (up (up (up (hv [91, 92] [] (hv [80, 81] [] (hv [80, 81] [] (hv [80, 81] [] (hv [80, 81] [] (hv [80, 81] [] G Gj44) Gj66) Gj92) Gj126) Gj162) Gj198) 1 (Ad E 1) 88 (newMany + 1)) 63 (Ad E 63) newMany z3) 64 (Ad E 64) newMany 0) 65 (Ad E 65) newMany 1) 66 (Ad E 66) newMany 0)  hS TT nn (ud (pTk z3 sr) 3 (sr 3 + 1)) rd66) ?_
                    rintro _ _ _ ⟨rfl, ⟨G75, rfl⟩, rfl, r76⟩
                    have k77 := (show (pAv TT nn (ud (pTk z3 sr) 3 (sr 3 + 1))) 1 = sr 1 from rfl)
                    have k78 := (show (pAv TT nn (ud (pTk z3 sr) 3 (sr 3 + 1))) 4 = sr 4 from rfl)
                    have k79 := (show (pAv TT nn (ud (pTk z3 sr) 3 (sr 3 + 1))) 5 = sr 5 from rfl)
                    have k80 := (show (pAv TT nn (ud (pTk z3 sr) 3 (sr 3 + 1))) 8 = sr 8 from rfl)
                    have k81 := (show (pAv TT nn (ud (pTk z3 sr) 3 (sr 3 + 1))) 10 = sr 10 from rfl)
                    refine r_ex hX hP 2 (pc' := 253) (st' := [(0, 6), (0, z3)]) (lo' := [(0, (2, (Ad E 1))), (1, (0, w)), (2, (0, ch)), (3, (0, z3)), (4, (0, newMany))]) rfl ?_
                    refine r_ic_ne hX hP rfl (tgt := 267) rfl (by first | decide | omega) (by first | decide | omega) (by first | decide | omega) (by first | decide | omega) (fun c82 => ?_) (fun c82 => ?_)
                    · skip
                      refine r_ex hX hP 2 (pc' := 270) (st' := [(0, 7), (0, z3)]) (lo' := [(0, (2, (Ad E 1))), (1, (0, w)), (2, (0, ch)), (3, (0, z3)), (4, (0, newMany))]) rfl ?_
                      refine r_ic_ne hX hP rfl (tgt := 282) rfl (by first | decide | omega) (by first | decide | omega) (by first | decide | omega) (by first | decide | omega) (fun c83 => ?_) (fun c83 => ?_)
                      · skip
                        refine r_ex hX hP 4 (pc' := 287) (st' := [(0, ch), (0, newMany), (0, z3), (2, (Ad E 1))]) (lo' := [(0, (2, (Ad E 1))), (1, (0, w)), (2, (0, ch)), (3, (0, z3)), (4, (0, newMany))]) rfl ?_
                        refine r_callV gd hX hP rfl cv_12_458 hS (d' := 3) (mc' := 0) (ms' := 0) (as' := [(0, z3), (0, newMany), (0, ch)]) (st := []) (by first | decide | omega) (by first | decide | omega) (by first | decide | omega) rfl rfl (Nat.le_of_ble_eq_true rfl) (c_X12_readPlainR E S (hv [82, 83, 84, 85, 86, 87] [] (up (up (up (up (up (hv [91, 92] [] (hv [80, 81] [] (hv [80, 81] [] (hv [80, 81] [] (hv [80, 81] [] (hv [80, 81] [] G Gj44) Gj66) Gj92) Gj126) Gj162) Gj198) 1 (Ad E 1) 88 (newMany + 1)) 63 (Ad E 63) newMany z3) 64 (Ad E 64) newMany 0) 65 (Ad E 65) newMany 1) 66 (Ad E 66) newMany 0) G75) z3 newMany ch hS 1 h72 (by first | decide | omega) (by first | decide | omega) (by first | decide | omega) (by first | decide | omega) (by first | decide | omega) (by first | decide | omega) (by first | decide | omega) (by first | decide | omega) (by first | decide | omega) (by first | decide | omega) TT nn (pAv TT nn (ud (pTk z3 sr) 3 (sr 3 + 1))) r76 pre1 hp8 hq4) ?_
                        rintro _ _ _ ⟨rfl, ⟨G84, rfl⟩, rfl, bah85, bah85e, oneh86, oneh86e, twoh87, twoh87e, f89, q88, r90⟩
                        have k91 := rm_bad r90
                        have k91 := bah85e.trans k91
                        refine r_apeekI hX al_64 s69 (i := newMany) (by first | decide | omega) (by first | decide | omega) (fun o92 o92e o92a o92b => ?_)
                        obtain rfl : oneh86 = o92 := oneh86e.trans o92e.symm
                        refine r_apeekI hX al_65 s71 (i := newMany) (by first | decide | omega) (by first | decide | omega) (fun o93 o93e o93a o93b => ?_)
                        obtain rfl : twoh87 = o93 := twoh87e.trans o93e.symm
                        refine r_peekI hX (tl1 80 rfl (by decide)) hS (fun o94 o94e o94a o94b => ?_)
                        obtain rfl : bah85 = o94 := bah85e.trans o94e.symm
                        refine r_ex hX hP 2 (pc' := 293) (st' := [(0, 59), (2, (Ad E 1))]) (lo' := [(0, (2, (Ad E 1))), (1, (0, w)), (2, (0, ch)), (3, (0, z3)), (4, (0, newMany))]) rfl ?_
                        refine r_callV gd hX hP rfl cv_12_427 hS (d' := 2) (mc' := 0) (ms' := 0) (as' := [(0, 59)]) (st := []) (by first | decide | omega) (by first | decide | omega) (by first | decide | omega) rfl rfl (Nat.le_of_ble_eq_true rfl) (c_X12_signR E S (hv [80, 81, 82, 83, 84, 85, 86, 87, 90] [64, 65, 66, 70, 71] (hv [82, 83, 84, 85, 86, 87] [] (up (up (up (up (up (hv [91, 92] [] (hv [80, 81] [] (hv [80, 81] [] (hv [80, 81] [] (hv [80, 81] [] (hv [80, 81] [] G Gj44) Gj66) Gj92) Gj126) Gj162) Gj198) 1 (Ad E 1) 88 (newMany + 1)) 63 (Ad E 63) newMany z3) 64 (Ad E 64) newMany 0) 65 (Ad E 65) newMany 1) 66 (Ad E 66) newMany 0) G75) G84) 59 hS bah85 bah85e (by first | decide | omega) (by first | decide | omega) (by first | decide | omega) TT nn (qPl TT nn z3 ch (pAv TT nn (ud (pTk z3 sr) 3 (sr 3 + 1)))) r90) ?_
                        rintro _ _ _ ⟨rfl, ⟨G95, rfl⟩, rfl, bah96, bah96e, f97, r98⟩
                        have k99 := rm_bad r98
                        have k99 := bah96e.trans k99
                        refine r_peekI hX (tl1 80 rfl (by decide)) hS (fun o100 o100e o100a o100b => ?_)
                        obtain rfl : bah96 = o100 := bah96e.trans o100e.symm
                        refine r_ex hX hP 1 (pc' := 297) (st' := [(2, (Ad E 1))]) (lo' := [(0, (2, (Ad E 1))), (1, (0, w)), (2, (0, ch)), (3, (0, z3)), (4, (0, newMany))]) rfl ?_
                        refine r_getC hX hP rfl fl_12_229 hS (fun s101 => ?_)
                        refine r_ex hX hP 2 (pc' := 303) (st' := [(2, (Ad E 1)), (0, newMany), (2, (Ad E 68))]) (lo' := [(0, (2, (Ad E 1))), (1, (0, w)), (2, (0, ch)), (3, (0, z3)), (4, (0, newMany))]) rfl ?_
                        refine r_getKI hX hP rfl fl_12_438 hS (x := (newMany + 1)) h65 ?_
                        refine r_iastK hX hP rfl al_68 s101 (by first | decide | omega) (by first | decide | omega) (by first | decide | omega) (by first | decide | omega) (fun h102 => ?_)
                        have k103w : pWf (pCw TT nn (sr 0)) sr = 0 := by rw [show pCw TT nn (sr 0) = z3 from by omega]; exact hwf
                        have k103 := sp_ki TT nn (s := sr) (by first | decide | omega) (by first | decide | omega) k103w
                        rw [show pCw TT nn (sr 0) = z3 from by omega] at k103
                        have k103p : pRw (pAv TT nn (ud sr 3 (sr 3 + 1))) = pRw sr := rfl
                        have k103q : qPl TT nn z3 ch (pAv TT nn (ud (pTk z3 sr) 3 (sr 3 + 1))) = qPl TT nn z3 (pRw (pAv TT nn (ud sr 3 (sr 3 + 1)))) (pAv TT nn (ud (pTk z3 sr) 3 (sr 3 + 1))) := qPl_ch TT nn hq9
                        have k103e := plain_eqr TT nn (k := z3) (r := (pAv TT nn (ud (pTk z3 sr) 3 (sr 3 + 1)))) (b := (pAv TT nn (ud sr 3 (sr 3 + 1)))) ⟨rfl, rfl, rfl⟩ (cl_hi TT nn z3 sr) (show sr 1 = 0 from by omega) (by first | decide | omega) (by first | decide | omega)
                        have k103r := rm_eqr (rm_cast r98 (by rw [k103q])) k103e
                        refine r_labC hX (tl1 98 rfl (by decide)) hS (fun s104 => ?_)
                        refine r_apeekI hX al_67 s104 (i := newMany) (by first | decide | omega) (by first | decide | omega) (fun nek105 nek105e nek105a nek105b => ?_)
                        exact r_retV hX hP rfl rfl (by first | decide | omega) (by first | decide | omega) ⟨rfl, ⟨_, (hq_up (hq_call (hq_call (hq_call (hq_up (hq_up (hq_up (hq_up (hq_up (hq_loop (hq_loop (hq_loop (hq_loop (hq_loop (hq_loop (hq_refl _ _ _) rfl) rfl) rfl) rfl) rfl) rfl) rfl) rfl) rfl) rfl) rfl) rfl) rfl) rfl) rfl).symm⟩, rfl, bah96, bah96e, (newMany + 1), h65, (by first | decide | omega), (by first | decide | omega), (frz_trans (m := newMany) (x := -1) (frz_trans (m := newMany) (x := -1) (show FRZ E G (hv [82, 83, 84, 85, 86, 87] [] (up (up (up (up (up (hv [91, 92] [] (hv [80, 81] [] (hv [80, 81] [] (hv [80, 81] [] (hv [80, 81] [] (hv [80, 81] [] G Gj44) Gj66) Gj92) Gj126) Gj162) Gj198) 1 (Ad E 1) 88 (newMany + 1)) 63 (Ad E 63) newMany z3) 64 (Ad E 64) newMany 0) 65 (Ad E 65) newMany 1) 66 (Ad E 66) newMany 0) G75) newMany (-1) from fun i h0 hi hx => ⟨((show (up (up (hv [91, 92] [] (hv [80, 81] [] (hv [80, 81] [] (hv [80, 81] [] (hv [80, 81] [] (hv [80, 81] [] G Gj44) Gj66) Gj92) Gj126) Gj162) Gj198) 1 (Ad E 1) 88 (newMany + 1)) 63 (Ad E 63) newMany z3) 63 (Ad E 63) i = _ from up_ne (fun q => absurd q.2.2 (by first | decide | omega))).trans rfl), ((show (up (up (up (hv [91, 92] [] (hv [80, 81] [] (hv [80, 81] [] (hv [80, 81] [] (hv [80, 81] [] (hv [80, 81] [] G Gj44) Gj66) Gj92) Gj126) Gj162) Gj198) 1 (Ad E 1) 88 (newMany + 1)) 63 (Ad E 63) newMany z3) 64 (Ad E 64) newMany 0) 64 (Ad E 64) i = _ from up_ne (fun q => absurd q.2.2 (by first | decide | omega))).trans rfl), ((show (up (up (up (up (hv [91, 92] [] (hv [80, 81] [] (hv [80, 81] [] (hv [80, 81] [] (hv [80, 81] [] (hv [80, 81] [] G Gj44) Gj66) Gj92) Gj126) Gj162) Gj198) 1 (Ad E 1) 88 (newMany + 1)) 63 (Ad E 63) newMany z3) 64 (Ad E 64) newMany 0) 65 (Ad E 65) newMany 1) 65 (Ad E 65) i = _ from up_ne (fun q => absurd q.2.2 (by first | decide | omega))).trans rfl), ((show (up (up (up (up (up (hv [91, 92] [] (hv [80, 81] [] (hv [80, 81] [] (hv [80, 81] [] (hv [80, 81] [] (hv [80, 81] [] G Gj44) Gj66) Gj92) Gj126) Gj162) Gj198) 1 (Ad E 1) 88 (newMany + 1)) 63 (Ad E 63) newMany z3) 64 (Ad E 64) newMany 0) 65 (Ad E 65) newMany 1) 66 (Ad E 66) newMany 0) 66 (Ad E 66) i = _ from up_ne (fun q => absurd q.2.2 (by first | decide | omega))).trans rfl), rfl, rfl⟩) q88 (by first | decide | omega) (fun i _ h _ => by omega)) (show FRZ E (hv [80, 81, 82, 83, 84, 85, 86, 87, 90] [64, 65, 66, 70, 71] (hv [82, 83, 84, 85, 86, 87] [] (up (up (up (up (up (hv [91, 92] [] (hv [80, 81] [] (hv [80, 81] [] (hv [80, 81] [] (hv [80, 81] [] (hv [80, 81] [] G Gj44) Gj66) Gj92) Gj126) Gj162) Gj198) 1 (Ad E 1) 88 (newMany + 1)) 63 (Ad E 63) newMany z3) 64 (Ad E 64) newMany 0) 65 (Ad E 65) newMany 1) 66 (Ad E 66) newMany 0) G75) G84) (up (hv [80, 81, 82, 83, 84, 85, 86, 87] [] (hv [80, 81, 82, 83, 84, 85, 86, 87, 90] [64, 65, 66, 70, 71] (hv [82, 83, 84, 85, 86, 87] [] (up (up (up (up (up (hv [91, 92] [] (hv [80, 81] [] (hv [80, 81] [] (hv [80, 81] [] (hv [80, 81] [] (hv [80, 81] [] G Gj44) Gj66) Gj92) Gj126) Gj162) Gj198) 1 (Ad E 1) 88 (newMany + 1)) 63 (Ad E 63) newMany z3) 64 (Ad E 64) newMany 0) 65 (Ad E 65) newMany 1) 66 (Ad E 66) newMany 0) G75) G84) G95) 68 (Ad E 68) newMany (newMany + 1)) newMany (-1) from fun i h0 hi hx => ⟨rfl, rfl, rfl, rfl, rfl, ((show (up (hv [80, 81, 82, 83, 84, 85, 86, 87] [] (hv [80, 81, 82, 83, 84, 85, 86, 87, 90] [64, 65, 66, 70, 71] (hv [82, 83, 84, 85, 86, 87] [] (up (up (up (up (up (hv [91, 92] [] (hv [80, 81] [] (hv [80, 81] [] (hv [80, 81] [] (hv [80, 81] [] (hv [80, 81] [] G Gj44) Gj66) Gj92) Gj126) Gj162) Gj198) 1 (Ad E 1) 88 (newMany + 1)) 63 (Ad E 63) newMany z3) 64 (Ad E 64) newMany 0) 65 (Ad E 65) newMany 1) 66 (Ad E 66) newMany 0) G75) G84) G95) 68 (Ad E 68) newMany (newMany + 1)) 68 (Ad E 68) i = _ from up_ne (fun q => absurd q.2.2 (by first | decide | omega))).trans rfl)⟩) (Int.le_refl _) (fun i _ _ h => h)), ((Int.lt_or_le 0 bah96).elim (fun hb => Or.inl (by first | decide | omega)) (fun hb => Or.inr (ni_app (ni_one h68 oneh86e twoh87e nek105e h102 (by unfold ClK; omega)) (ni_nil (by first | decide | omega))))), ⟨1, rm_cast k103r k103.symm, by rw [pIt_one, k103]; exact Or.inr (pl_kp TT nn (by first | decide | omega) (by first | decide | omega) (by first | decide | omega))⟩⟩
                      · skip
                        have rd106 := rm_cast r76 (show pAv TT nn (ud (pTk z3 sr) 3 (sr 3 + 1)) = pAv TT nn (ud sr 3 (sr 3 + 1)) from by rw [tk_id (show z3 ≠ 1 from by omega)])
                        refine r_ex hX hP 2 (pc' := 276) (st' := [(0, newMany), (2, (Ad E 1))]) (lo' := [(0, (2, (Ad E 1))), (1, (0, w)), (2, (0, ch)), (3, (0, z3)), (4, (0, newMany))]) rfl ?_
                        refine r_callV gd hX hP rfl cv_12_455 hS (d' := dA + 6) (mc' := 0) (ms' := 0) (as' := [(0, newMany)]) (st := []) (by first | decide | omega) (by first | decide | omega) (by first | decide | omega) rfl rfl (Nat.le_of_ble_eq_true rfl) (c_X12_readChoiceR E S (hv [82, 83, 84, 85, 86, 87] [] (up (up (up (up (up (hv [91, 92] [] (hv [80, 81] [] (hv [80, 81] [] (hv [80, 81] [] (hv [80, 81] [] (hv [80, 81] [] G Gj44) Gj66) Gj92) Gj126) Gj162) Gj198) 1 (Ad E 1) 88 (newMany + 1)) 63 (Ad E 63) newMany z3) 64 (Ad E 64) newMany 0) 65 (Ad E 65) newMany 1) 66 (Ad E 66) newMany 0) G75) newMany hS (newMany + 1) h65 z3 h68 1 h72 (by first | decide | omega) (by first | decide | omega) (by first | decide | omega) dA (ra_atR (hA (by first | decide | omega)) (by first | decide | omega)) TT nn (pAv TT nn (ud sr 3 (sr 3 + 1))) rd106 pre1 (pre2.trans (by first | decide | omega)) pre3) ?_
                        rintro _ _ _ ⟨rfl, ⟨G107, rfl⟩, rfl, bah108, bah108e, neh109, neh109e, indh110, indh110e, oneh111, oneh111e, twoh112, twoh112e, f115, f116, f117, q113, q114, r118⟩
                        obtain ⟨q119, rd120, c121⟩ := r118
                        have k122 := rm_bad rd120
                        have k122 := bah108e.trans k122
                        have k123 := rm_nm rd120
                        have k123 := k123.imp id (fun w => neh109e.trans w)
                        refine r_apeekI hX al_63 s67 (i := newMany) (by first | decide | omega) (by first | decide | omega) (fun o124 o124e o124a o124b => ?_)
                        obtain rfl : indh110 = o124 := indh110e.trans o124e.symm
                        refine r_apeekI hX al_64 s69 (i := newMany) (by first | decide | omega) (by first | decide | omega) (fun o125 o125e o125a o125b => ?_)
                        obtain rfl : oneh111 = o125 := oneh111e.trans o125e.symm
                        refine r_apeekI hX al_65 s71 (i := newMany) (by first | decide | omega) (by first | decide | omega) (fun o126 o126e o126a o126b => ?_)
                        obtain rfl : twoh112 = o126 := twoh112e.trans o126e.symm
                        refine r_peekI hX (tl1 80 rfl (by decide)) hS (fun o127 o127e o127a o127b => ?_)
                        obtain rfl : bah108 = o127 := bah108e.trans o127e.symm
                        refine r_peekI hX (tl1 88 rfl (by decide)) hS (fun o128 o128e o128a o128b => ?_)
                        obtain rfl : neh109 = o128 := neh109e.trans o128e.symm
                        refine r_ex hX hP 2 (pc' := 297) (st' := [(2, (Ad E 1))]) (lo' := [(0, (2, (Ad E 1))), (1, (0, w)), (2, (0, ch)), (3, (0, z3)), (4, (0, newMany))]) rfl ?_
                        refine r_getC hX hP rfl fl_12_229 hS (fun s129 => ?_)
                        refine r_ex hX hP 2 (pc' := 303) (st' := [(2, (Ad E 1)), (0, newMany), (2, (Ad E 68))]) (lo' := [(0, (2, (Ad E 1))), (1, (0, w)), (2, (0, ch)), (3, (0, z3)), (4, (0, newMany))]) rfl ?_
                        refine r_getKI hX hP rfl fl_12_438 hS (x := neh109) neh109e ?_
                        refine r_iastK hX hP rfl al_68 s129 (by first | decide | omega) (by first | decide | omega) (by first | decide | omega) (by first | decide | omega) (fun h130 => ?_)
                        have k131w : pWf (pCw TT nn (sr 0)) sr = 0 := by rw [show pCw TT nn (sr 0) = z3 from by omega]; exact hwf
                        have k131 := sp_ki TT nn (s := sr) (by first | decide | omega) (by first | decide | omega) k131w
                        rw [show pCw TT nn (sr 0) = z3 from by omega] at k131
                        have k131k : pKi TT nn z3 (pAv TT nn (ud sr 3 (sr 3 + 1))) = (pCh TT nn (pAv TT nn (ud sr 3 (sr 3 + 1)))) := by unfold pKi; rw [show z3 = 7 from by omega]; rfl
                        have k131i : pIt TT nn (1 + q119) sr = pIt TT nn q119 (pCh TT nn (pAv TT nn (ud sr 3 (sr 3 + 1)))) := by rw [pIt_add, pIt_one, k131, k131k]
                        refine r_labC hX (tl1 98 rfl (by decide)) hS (fun s132 => ?_)
                        refine r_apeekI hX al_67 s132 (i := newMany) (by first | decide | omega) (by first | decide | omega) (fun nek133 nek133e nek133a nek133b => ?_)
                        exact r_retV hX hP rfl rfl (by first | decide | omega) (by first | decide | omega) ⟨rfl, ⟨_, (hq_up (hq_call (hq_call (hq_up (hq_up (hq_up (hq_up (hq_up (hq_loop (hq_loop (hq_loop (hq_loop (hq_loop (hq_loop (hq_refl _ _ _) rfl) rfl) rfl) rfl) rfl) rfl) rfl) rfl) rfl) rfl) rfl) rfl) rfl) rfl).symm⟩, rfl, bah108, bah108e, neh109, neh109e, (by first | decide | omega), (by first | decide | omega), (frz_trans (m := newMany) (x := -1) (frz_trans (m := newMany) (x := -1) (show FRZ E G (hv [82, 83, 84, 85, 86, 87] [] (up (up (up (up (up (hv [91, 92] [] (hv [80, 81] [] (hv [80, 81] [] (hv [80, 81] [] (hv [80, 81] [] (hv [80, 81] [] G Gj44) Gj66) Gj92) Gj126) Gj162) Gj198) 1 (Ad E 1) 88 (newMany + 1)) 63 (Ad E 63) newMany z3) 64 (Ad E 64) newMany 0) 65 (Ad E 65) newMany 1) 66 (Ad E 66) newMany 0) G75) newMany (-1) from fun i h0 hi hx => ⟨((show (up (up (hv [91, 92] [] (hv [80, 81] [] (hv [80, 81] [] (hv [80, 81] [] (hv [80, 81] [] (hv [80, 81] [] G Gj44) Gj66) Gj92) Gj126) Gj162) Gj198) 1 (Ad E 1) 88 (newMany + 1)) 63 (Ad E 63) newMany z3) 63 (Ad E 63) i = _ from up_ne (fun q => absurd q.2.2 (by first | decide | omega))).trans rfl), ((show (up (up (up (hv [91, 92] [] (hv [80, 81] [] (hv [80, 81] [] (hv [80, 81] [] (hv [80, 81] [] (hv [80, 81] [] G Gj44) Gj66) Gj92) Gj126) Gj162) Gj198) 1 (Ad E 1) 88 (newMany + 1)) 63 (Ad E 63) newMany z3) 64 (Ad E 64) newMany 0) 64 (Ad E 64) i = _ from up_ne (fun q => absurd q.2.2 (by first | decide | omega))).trans rfl), ((show (up (up (up (up (hv [91, 92] [] (hv [80, 81] [] (hv [80, 81] [] (hv [80, 81] [] (hv [80, 81] [] (hv [80, 81] [] G Gj44) Gj66) Gj92) Gj126) Gj162) Gj198) 1 (Ad E 1) 88 (newMany + 1)) 63 (Ad E 63) newMany z3) 64 (Ad E 64) newMany 0) 65 (Ad E 65) newMany 1) 65 (Ad E 65) i = _ from up_ne (fun q => absurd q.2.2 (by first | decide | omega))).trans rfl), ((show (up (up (up (up (up (hv [91, 92] [] (hv [80, 81] [] (hv [80, 81] [] (hv [80, 81] [] (hv [80, 81] [] (hv [80, 81] [] G Gj44) Gj66) Gj92) Gj126) Gj162) Gj198) 1 (Ad E 1) 88 (newMany + 1)) 63 (Ad E 63) newMany z3) 64 (Ad E 64) newMany 0) 65 (Ad E 65) newMany 1) 66 (Ad E 66) newMany 0) 66 (Ad E 66) i = _ from up_ne (fun q => absurd q.2.2 (by first | decide | omega))).trans rfl), rfl, rfl⟩) q113 (by first | decide | omega) (fun i _ h _ => by omega)) (show FRZ E (hv [80, 81, 82, 83, 84, 85, 86, 87, 88, 89, 90, 91, 92] [62, 63, 64, 65, 66, 67, 68, 69, 70, 71] (hv [82, 83, 84, 85, 86, 87] [] (up (up (up (up (up (hv [91, 92] [] (hv [80, 81] [] (hv [80, 81] [] (hv [80, 81] [] (hv [80, 81] [] (hv [80, 81] [] G Gj44) Gj66) Gj92) Gj126) Gj162) Gj198) 1 (Ad E 1) 88 (newMany + 1)) 63 (Ad E 63) newMany z3) 64 (Ad E 64) newMany 0) 65 (Ad E 65) newMany 1) 66 (Ad E 66) newMany 0) G75) G107) (up (hv [80, 81, 82, 83, 84, 85, 86, 87, 88, 89, 90, 91, 92] [62, 63, 64, 65, 66, 67, 68, 69, 70, 71] (hv [82, 83, 84, 85, 86, 87] [] (up (up (up (up (up (hv [91, 92] [] (hv [80, 81] [] (hv [80, 81] [] (hv [80, 81] [] (hv [80, 81] [] (hv [80, 81] [] G Gj44) Gj66) Gj92) Gj126) Gj162) Gj198) 1 (Ad E 1) 88 (newMany + 1)) 63 (Ad E 63) newMany z3) 64 (Ad E 64) newMany 0) 65 (Ad E 65) newMany 1) 66 (Ad E 66) newMany 0) G75) G107) 68 (Ad E 68) newMany neh109) newMany (-1) from fun i h0 hi hx => ⟨rfl, rfl, rfl, rfl, rfl, ((show (up (hv [80, 81, 82, 83, 84, 85, 86, 87, 88, 89, 90, 91, 92] [62, 63, 64, 65, 66, 67, 68, 69, 70, 71] (hv [82, 83, 84, 85, 86, 87] [] (up (up (up (up (up (hv [91, 92] [] (hv [80, 81] [] (hv [80, 81] [] (hv [80, 81] [] (hv [80, 81] [] (hv [80, 81] [] G Gj44) Gj66) Gj92) Gj126) Gj162) Gj198) 1 (Ad E 1) 88 (newMany + 1)) 63 (Ad E 63) newMany z3) 64 (Ad E 64) newMany 0) 65 (Ad E 65) newMany 1) 66 (Ad E 66) newMany 0) G75) G107) 68 (Ad E 68) newMany neh109) 68 (Ad E 68) i = _ from up_ne (fun q => absurd q.2.2 (by first | decide | omega))).trans rfl)⟩) (Int.le_refl _) (fun i _ _ h => h)), ((Int.lt_or_le 0 bah108).elim (fun hb => Or.inl (by first | decide | omega)) (fun hb => Or.inr (ni_app (ni_one indh110e oneh111e twoh112e nek133e h130 (by have hq := (q114.resolve_left (by first | decide | omega)).2; unfold ClK; omega)) (ni_frz (q114.resolve_left (by first | decide | omega)).1 (show FRZ E (hv [80, 81, 82, 83, 84, 85, 86, 87, 88, 89, 90, 91, 92] [62, 63, 64, 65, 66, 67, 68, 69, 70, 71] (hv [82, 83, 84, 85, 86, 87] [] (up (up (up (up (up (hv [91, 92] [] (hv [80, 81] [] (hv [80, 81] [] (hv [80, 81] [] (hv [80, 81] [] (hv [80, 81] [] G Gj44) Gj66) Gj92) Gj126) Gj162) Gj198) 1 (Ad E 1) 88 (newMany + 1)) 63 (Ad E 63) newMany z3) 64 (Ad E 64) newMany 0) 65 (Ad E 65) newMany 1) 66 (Ad E 66) newMany 0) G75) G107) (up (hv [80, 81, 82, 83, 84, 85, 86, 87, 88, 89, 90, 91, 92] [62, 63, 64, 65, 66, 67, 68, 69, 70, 71] (hv [82, 83, 84, 85, 86, 87] [] (up (up (up (up (up (hv [91, 92] [] (hv [80, 81] [] (hv [80, 81] [] (hv [80, 81] [] (hv [80, 81] [] (hv [80, 81] [] G Gj44) Gj66) Gj92) Gj126) Gj162) Gj198) 1 (Ad E 1) 88 (newMany + 1)) 63 (Ad E 63) newMany z3) 64 (Ad E 64) newMany 0) 65 (Ad E 65) newMany 1) 66 (Ad E 66) newMany 0) G75) G107) 68 (Ad E 68) newMany neh109) 1000 newMany from fun i h0 hi hx => ⟨rfl, rfl, rfl, rfl, rfl, ((show (up (hv [80, 81, 82, 83, 84, 85, 86, 87, 88, 89, 90, 91, 92] [62, 63, 64, 65, 66, 67, 68, 69, 70, 71] (hv [82, 83, 84, 85, 86, 87] [] (up (up (up (up (up (hv [91, 92] [] (hv [80, 81] [] (hv [80, 81] [] (hv [80, 81] [] (hv [80, 81] [] (hv [80, 81] [] G Gj44) Gj66) Gj92) Gj126) Gj162) Gj198) 1 (Ad E 1) 88 (newMany + 1)) 63 (Ad E 63) newMany z3) 64 (Ad E 64) newMany 0) 65 (Ad E 65) newMany 1) 66 (Ad E 66) newMany 0) G75) G107) 68 (Ad E 68) newMany neh109) 68 (Ad E 68) i = _ from up_ne (fun q => absurd q.2.2 (by first | decide | omega))).trans rfl)⟩) (by first | decide | omega) (by first | decide | omega) (fun i _ _ => by omega) (Int.le_refl _))))), ⟨1 + q119, rm_cast rd120 k131i.symm, by rw [k131i]; exact c121.imp id (fun h => kp_b TT nn h)⟩⟩
                    · skip
                      have rd134 := rm_cast r76 (show pAv TT nn (ud (pTk z3 sr) 3 (sr 3 + 1)) = pAv TT nn (ud sr 3 (sr 3 + 1)) from by rw [tk_id (show z3 ≠ 1 from by omega)])
                      refine r_ex hX hP 4 (pc' := 261) (st' := [(0, ch), (0, w), (0, newMany), (2, (Ad E 1))]) (lo' := [(0, (2, (Ad E 1))), (1, (0, w)), (2, (0, ch)), (3, (0, z3)), (4, (0, newMany))]) rfl ?_
                      refine r_callV gd hX hP rfl cv_12_451 hS (d' := dA + 6) (mc' := 0) (ms' := 0) (as' := [(0, newMany), (0, w), (0, ch)]) (st := []) (by first | decide | omega) (by first | decide | omega) (by first | decide | omega) rfl rfl (Nat.le_of_ble_eq_true rfl) (c_X12_readWhenR E S (hv [82, 83, 84, 85, 86, 87] [] (up (up (up (up (up (hv [91, 92] [] (hv [80, 81] [] (hv [80, 81] [] (hv [80, 81] [] (hv [80, 81] [] (hv [80, 81] [] G Gj44) Gj66) Gj92) Gj126) Gj162) Gj198) 1 (Ad E 1) 88 (newMany + 1)) 63 (Ad E 63) newMany z3) 64 (Ad E 64) newMany 0) 65 (Ad E 65) newMany 1) 66 (Ad E 66) newMany 0) G75) newMany w ch hS (newMany + 1) h65 z3 h68 (by first | decide | omega) (by first | decide | omega) (by first | decide | omega) (by first | decide | omega) (by first | decide | omega) (by first | decide | omega) (by first | decide | omega) dA (hA (by first | decide | omega)) TT nn (pAv TT nn (ud sr 3 (sr 3 + 1))) rd134 pre1 pre2 pre3 hch) ?_
                      rintro _ _ _ ⟨rfl, ⟨G135, rfl⟩, rfl, bah136, bah136e, neh137, neh137e, indh138, indh138e, midh139, midh139e, f142, f143, q140, q141, r144⟩
                      obtain ⟨q145, rd146, c147⟩ := r144
                      have k148 := rm_bad rd146
                      have k148 := bah136e.trans k148
                      have k149 := rm_nm rd146
                      have k149 := k149.imp id (fun w => neh137e.trans w)
                      refine r_apeekI hX al_63 s67 (i := newMany) (by first | decide | omega) (by first | decide | omega) (fun o150 o150e o150a o150b => ?_)
                      obtain rfl : indh138 = o150 := indh138e.trans o150e.symm
                      refine r_labC hX (tl1 98 rfl (by decide)) hS (fun s151 => ?_)
                      refine r_apeekI hX al_67 s151 (i := newMany) (by first | decide | omega) (by first | decide | omega) (fun o152 o152e o152a o152b => ?_)
                      obtain rfl : midh139 = o152 := midh139e.trans o152e.symm
                      refine r_peekI hX (tl1 80 rfl (by decide)) hS (fun o153 o153e o153a o153b => ?_)
                      obtain rfl : bah136 = o153 := bah136e.trans o153e.symm
                      refine r_peekI hX (tl1 88 rfl (by decide)) hS (fun o154 o154e o154a o154b => ?_)
                      obtain rfl : neh137 = o154 := neh137e.trans o154e.symm
                      refine r_ex hX hP 2 (pc' := 297) (st' := [(2, (Ad E 1))]) (lo' := [(0, (2, (Ad E 1))), (1, (0, w)), (2, (0, ch)), (3, (0, z3)), (4, (0, newMany))]) rfl ?_
                      refine r_getC hX hP rfl fl_12_229 hS (fun s155 => ?_)
                      refine r_ex hX hP 2 (pc' := 303) (st' := [(2, (Ad E 1)), (0, newMany), (2, (Ad E 68))]) (lo' := [(0, (2, (Ad E 1))), (1, (0, w)), (2, (0, ch)), (3, (0, z3)), (4, (0, newMany))]) rfl ?_
                      refine r_getKI hX hP rfl fl_12_438 hS (x := neh137) neh137e ?_
                      refine r_iastK hX hP rfl al_68 s155 (by first | decide | omega) (by first | decide | omega) (by first | decide | omega) (by first | decide | omega) (fun h156 => ?_)
                      have k157w : pWf (pCw TT nn (sr 0)) sr = 0 := by rw [show pCw TT nn (sr 0) = z3 from by omega]; exact hwf
                      have k157 := sp_ki TT nn (s := sr) (by first | decide | omega) (by first | decide | omega) k157w
                      rw [show pCw TT nn (sr 0) = z3 from by omega] at k157
                      have k157k : pKi TT nn z3 (pAv TT nn (ud sr 3 (sr 3 + 1))) = (pWh TT nn (pAv TT nn (ud sr 3 (sr 3 + 1)))) := by unfold pKi; rw [show z3 = 6 from by omega]; rfl
                      have k157i : pIt TT nn (1 + q145) sr = pIt TT nn q145 (pWh TT nn (pAv TT nn (ud sr 3 (sr 3 + 1)))) := by rw [pIt_add, pIt_one, k157, k157k]
                      refine r_apeekI hX al_64 s69 (i := newMany) (by first | decide | omega) (by first | decide | omega) (fun nek158 nek158e nek158a nek158b => ?_)
                      refine r_apeekI hX al_65 s71 (i := newMany) (by first | decide | omega) (by first | decide | omega) (fun nek159 nek159e nek159a nek159b => ?_)
                      exact r_retV hX hP rfl rfl (by first | decide | omega) (by first | decide | omega) ⟨rfl, ⟨_, (hq_up (hq_call (hq_call (hq_up (hq_up (hq_up (hq_up (hq_up (hq_loop (hq_loop (hq_loop (hq_loop (hq_loop (hq_loop (hq_refl _ _ _) rfl) rfl) rfl) rfl) rfl) rfl) rfl) rfl) rfl) rfl) rfl) rfl) rfl) rfl).symm⟩, rfl, bah136, bah136e, neh137, neh137e, (by first | decide | omega), (by first | decide | omega), (frz_trans (m := newMany) (x := -1) (frz_trans (m := newMany) (x := -1) (show FRZ E G (hv [82, 83, 84, 85, 86, 87] [] (up (up (up (up (up (hv [91, 92] [] (hv [80, 81] [] (hv [80, 81] [] (hv [80, 81] [] (hv [80, 81] [] (hv [80, 81] [] G Gj44) Gj66) Gj92) Gj126) Gj162) Gj198) 1 (Ad E 1) 88 (newMany + 1)) 63 (Ad E 63) newMany z3) 64 (Ad E 64) newMany 0) 65 (Ad E 65) newMany 1) 66 (Ad E 66) newMany 0) G75) newMany (-1) from fun i h0 hi hx => ⟨((show (up (up (hv [91, 92] [] (hv [80, 81] [] (hv [80, 81] [] (hv [80, 81] [] (hv [80, 81] [] (hv [80, 81] [] G Gj44) Gj66) Gj92) Gj126) Gj162) Gj198) 1 (Ad E 1) 88 (newMany + 1)) 63 (Ad E 63) newMany z3) 63 (Ad E 63) i = _ from up_ne (fun q => absurd q.2.2 (by first | decide | omega))).trans rfl), ((show (up (up (up (hv [91, 92] [] (hv [80, 81] [] (hv [80, 81] [] (hv [80, 81] [] (hv [80, 81] [] (hv [80, 81] [] G Gj44) Gj66) Gj92) Gj126) Gj162) Gj198) 1 (Ad E 1) 88 (newMany + 1)) 63 (Ad E 63) newMany z3) 64 (Ad E 64) newMany 0) 64 (Ad E 64) i = _ from up_ne (fun q => absurd q.2.2 (by first | decide | omega))).trans rfl), ((show (up (up (up (up (hv [91, 92] [] (hv [80, 81] [] (hv [80, 81] [] (hv [80, 81] [] (hv [80, 81] [] (hv [80, 81] [] G Gj44) Gj66) Gj92) Gj126) Gj162) Gj198) 1 (Ad E 1) 88 (newMany + 1)) 63 (Ad E 63) newMany z3) 64 (Ad E 64) newMany 0) 65 (Ad E 65) newMany 1) 65 (Ad E 65) i = _ from up_ne (fun q => absurd q.2.2 (by first | decide | omega))).trans rfl), ((show (up (up (up (up (up (hv [91, 92] [] (hv [80, 81] [] (hv [80, 81] [] (hv [80, 81] [] (hv [80, 81] [] (hv [80, 81] [] G Gj44) Gj66) Gj92) Gj126) Gj162) Gj198) 1 (Ad E 1) 88 (newMany + 1)) 63 (Ad E 63) newMany z3) 64 (Ad E 64) newMany 0) 65 (Ad E 65) newMany 1) 66 (Ad E 66) newMany 0) 66 (Ad E 66) i = _ from up_ne (fun q => absurd q.2.2 (by first | decide | omega))).trans rfl), rfl, rfl⟩) q140 (by first | decide | omega) (fun i _ h _ => by omega)) (show FRZ E (hv [80, 81, 82, 83, 84, 85, 86, 87, 88, 89, 90, 91, 92] [62, 63, 64, 65, 66, 67, 68, 69, 70, 71] (hv [82, 83, 84, 85, 86, 87] [] (up (up (up (up (up (hv [91, 92] [] (hv [80, 81] [] (hv [80, 81] [] (hv [80, 81] [] (hv [80, 81] [] (hv [80, 81] [] G Gj44) Gj66) Gj92) Gj126) Gj162) Gj198) 1 (Ad E 1) 88 (newMany + 1)) 63 (Ad E 63) newMany z3) 64 (Ad E 64) newMany 0) 65 (Ad E 65) newMany 1) 66 (Ad E 66) newMany 0) G75) G135) (up (hv [80, 81, 82, 83, 84, 85, 86, 87, 88, 89, 90, 91, 92] [62, 63, 64, 65, 66, 67, 68, 69, 70, 71] (hv [82, 83, 84, 85, 86, 87] [] (up (up (up (up (up (hv [91, 92] [] (hv [80, 81] [] (hv [80, 81] [] (hv [80, 81] [] (hv [80, 81] [] (hv [80, 81] [] G Gj44) Gj66) Gj92) Gj126) Gj162) Gj198) 1 (Ad E 1) 88 (newMany + 1)) 63 (Ad E 63) newMany z3) 64 (Ad E 64) newMany 0) 65 (Ad E 65) newMany 1) 66 (Ad E 66) newMany 0) G75) G135) 68 (Ad E 68) newMany neh137) newMany (-1) from fun i h0 hi hx => ⟨rfl, rfl, rfl, rfl, rfl, ((show (up (hv [80, 81, 82, 83, 84, 85, 86, 87, 88, 89, 90, 91, 92] [62, 63, 64, 65, 66, 67, 68, 69, 70, 71] (hv [82, 83, 84, 85, 86, 87] [] (up (up (up (up (up (hv [91, 92] [] (hv [80, 81] [] (hv [80, 81] [] (hv [80, 81] [] (hv [80, 81] [] (hv [80, 81] [] G Gj44) Gj66) Gj92) Gj126) Gj162) Gj198) 1 (Ad E 1) 88 (newMany + 1)) 63 (Ad E 63) newMany z3) 64 (Ad E 64) newMany 0) 65 (Ad E 65) newMany 1) 66 (Ad E 66) newMany 0) G75) G135) 68 (Ad E 68) newMany neh137) 68 (Ad E 68) i = _ from up_ne (fun q => absurd q.2.2 (by first | decide | omega))).trans rfl)⟩) (Int.le_refl _) (fun i _ _ h => h)), ((Int.lt_or_le 0 bah136).elim (fun hb => Or.inl (by first | decide | omega)) (fun hb => Or.inr (ni_app (ni_one indh138e nek158e nek159e midh139e h156 (by have hq := (q141.resolve_left (by first | decide | omega)).2; unfold ClK; omega)) (ni_frz (q141.resolve_left (by first | decide | omega)).1 (show FRZ E (hv [80, 81, 82, 83, 84, 85, 86, 87, 88, 89, 90, 91, 92] [62, 63, 64, 65, 66, 67, 68, 69, 70, 71] (hv [82, 83, 84, 85, 86, 87] [] (up (up (up (up (up (hv [91, 92] [] (hv [80, 81] [] (hv [80, 81] [] (hv [80, 81] [] (hv [80, 81] [] (hv [80, 81] [] G Gj44) Gj66) Gj92) Gj126) Gj162) Gj198) 1 (Ad E 1) 88 (newMany + 1)) 63 (Ad E 63) newMany z3) 64 (Ad E 64) newMany 0) 65 (Ad E 65) newMany 1) 66 (Ad E 66) newMany 0) G75) G135) (up (hv [80, 81, 82, 83, 84, 85, 86, 87, 88, 89, 90, 91, 92] [62, 63, 64, 65, 66, 67, 68, 69, 70, 71] (hv [82, 83, 84, 85, 86, 87] [] (up (up (up (up (up (hv [91, 92] [] (hv [80, 81] [] (hv [80, 81] [] (hv [80, 81] [] (hv [80, 81] [] (hv [80, 81] [] G Gj44) Gj66) Gj92) Gj126) Gj162) Gj198) 1 (Ad E 1) 88 (newMany + 1)) 63 (Ad E 63) newMany z3) 64 (Ad E 64) newMany 0) 65 (Ad E 65) newMany 1) 66 (Ad E 66) newMany 0) G75) G135) 68 (Ad E 68) newMany neh137) 1000 newMany from fun i h0 hi hx => ⟨rfl, rfl, rfl, rfl, rfl, ((show (up (hv [80, 81, 82, 83, 84, 85, 86, 87, 88, 89, 90, 91, 92] [62, 63, 64, 65, 66, 67, 68, 69, 70, 71] (hv [82, 83, 84, 85, 86, 87] [] (up (up (up (up (up (hv [91, 92] [] (hv [80, 81] [] (hv [80, 81] [] (hv [80, 81] [] (hv [80, 81] [] (hv [80, 81] [] G Gj44) Gj66) Gj92) Gj126) Gj162) Gj198) 1 (Ad E 1) 88 (newMany + 1)) 63 (Ad E 63) newMany z3) 64 (Ad E 64) newMany 0) 65 (Ad E 65) newMany 1) 66 (Ad E 66) newMany 0) G75) G135) 68 (Ad E 68) newMany neh137) 68 (Ad E 68) i = _ from up_ne (fun q => absurd q.2.2 (by first | decide | omega))).trans rfl)⟩) (by first | decide | omega) (by first | decide | omega) (fun i _ _ => by omega) (Int.le_refl _))))), ⟨1 + q145, rm_cast rd146 k157i.symm, by rw [k157i]; exact c147.imp id (fun h => kp_b TT nn h)⟩⟩
                  refine r_ex hX hP 2 (pc' := 172) (st' := [(0, 1), (0, z3)]) (lo' := [(0, (2, (Ad E 1))), (1, (0, w)), (2, (0, ch)), (3, (0, z3))]) rfl ?_
                  refine r_ic_ne hX hP rfl (tgt := 184) rfl (by first | decide | omega) (by first | decide | omega) (by first | decide | omega) (by first | decide | omega) (fun c160 => ?_) (fun c160 => ?_)
                  · skip
                    refine r_ex hX hP 2 (pc' := 186) (st' := [(0, 1), (0, z3)]) (lo' := [(0, (2, (Ad E 1))), (1, (0, w)), (2, (0, ch)), (3, (0, z3))]) rfl ?_
                    refine r_ic_ne hX hP rfl (tgt := 198) rfl (by first | decide | omega) (by first | decide | omega) (by first | decide | omega) (by first | decide | omega) (fun c161 => ?_) (fun c161 => ?_)
                    · skip
                      refine r_eqG (X := X) (hq_refl [91, 92] [] _) ?_
                      have k162to : sr 1 ≠ 0 ∨ (hv [80, 81] [] (hv [80, 81] [] (hv [80, 81] [] (hv [80, 81] [] (hv [80, 81] [] G Gj44) Gj66) Gj92) Gj126) Gj162) 1 (Ad E 1) 92 = (if z3 = 1 then (if pRw sr = 3 then 1 else sr 7) else sr 7) := by have q : sr 1 ≠ 0 ∨ (hv [80, 81] [] (hv [80, 81] [] (hv [80, 81] [] (hv [80, 81] [] (hv [80, 81] [] G Gj44) Gj66) Gj92) Gj126) Gj162) 1 (Ad E 1) 92 = sr 7 := (rm_to rd64 : _); (repeat' split) <;> omega
                      have k162ti : sr 1 ≠ 0 ∨ (hv [80, 81] [] (hv [80, 81] [] (hv [80, 81] [] (hv [80, 81] [] (hv [80, 81] [] G Gj44) Gj66) Gj92) Gj126) Gj162) 1 (Ad E 1) 91 = (if z3 = 1 then (if pRw sr = 3 then sr 6 else 1) else sr 6) := by have q : sr 1 ≠ 0 ∨ (hv [80, 81] [] (hv [80, 81] [] (hv [80, 81] [] (hv [80, 81] [] (hv [80, 81] [] G Gj44) Gj66) Gj92) Gj126) Gj162) 1 (Ad E 1) 91 = sr 6 := (rm_ti rd64 : _); (repeat' split) <;> omega
                      have rd163 : RdM E TT nn (pTk z3 sr) (hv [80, 81] [] (hv [80, 81] [] (hv [80, 81] [] (hv [80, 81] [] (hv [80, 81] [] G Gj44) Gj66) Gj92) Gj126) Gj162) := rm_mk (rm_tape rd64 : _) (rm_end rd64 : _) (rm_at rd64 : _) (rm_beh rd64 : _) (rm_sort rd64 : _) (rm_num rd64 : _) (rm_sgn rd64 : _) (rm_word rd64 : _) (rm_let rd64 : _) (rm_bad rd64 : _) (rm_bat rd64 : _) (rm_nm rd64 : _) (rm_nc rd64 : _) (rm_nd rd64 : _) k162ti k162to (rm_w0 rd64 : _) (rm_w1 rd64 : _) (rm_w2 rd64 : _) (rm_q0 rd64 : _) (rm_q1 rd64 : _) (rm_q2 rd64 : _) (rm_z0 rd64 : _) (rm_z1 rd64 : _) (rm_z2 rd64 : _) (rm_nv rd64 : _) (rm_p0 rd64 : _) (rm_p1 rd64 : _) (rm_n4 rd64 : _) (rm_c3 rd64 : _)
                      exact j198 _ (rd163)
                    · skip
                      refine r_ex hX hP 1 (pc' := 190) (st' := [(0, ch)]) (lo' := [(0, (2, (Ad E 1))), (1, (0, w)), (2, (0, ch)), (3, (0, z3))]) rfl ?_
                      refine r_if_lt hX hP rfl (tgt := 198) rfl (by first | decide | omega) (by first | decide | omega) (fun c164 => ?_) (fun c164 => ?_)
                      · skip
                        refine r_eqG (X := X) (hq_refl [91, 92] [] _) ?_
                        have k165to : sr 1 ≠ 0 ∨ (hv [80, 81] [] (hv [80, 81] [] (hv [80, 81] [] (hv [80, 81] [] (hv [80, 81] [] G Gj44) Gj66) Gj92) Gj126) Gj162) 1 (Ad E 1) 92 = (if z3 = 1 then (if pRw sr = 3 then 1 else sr 7) else sr 7) := by have q : sr 1 ≠ 0 ∨ (hv [80, 81] [] (hv [80, 81] [] (hv [80, 81] [] (hv [80, 81] [] (hv [80, 81] [] G Gj44) Gj66) Gj92) Gj126) Gj162) 1 (Ad E 1) 92 = sr 7 := (rm_to rd64 : _); (repeat' split) <;> omega
                        have k165ti : sr 1 ≠ 0 ∨ (hv [80, 81] [] (hv [80, 81] [] (hv [80, 81] [] (hv [80, 81] [] (hv [80, 81] [] G Gj44) Gj66) Gj92) Gj126) Gj162) 1 (Ad E 1) 91 = (if z3 = 1 then (if pRw sr = 3 then sr 6 else 1) else sr 6) := by have q : sr 1 ≠ 0 ∨ (hv [80, 81] [] (hv [80, 81] [] (hv [80, 81] [] (hv [80, 81] [] (hv [80, 81] [] G Gj44) Gj66) Gj92) Gj126) Gj162) 1 (Ad E 1) 91 = sr 6 := (rm_ti rd64 : _); (repeat' split) <;> omega
                        have rd166 : RdM E TT nn (pTk z3 sr) (hv [80, 81] [] (hv [80, 81] [] (hv [80, 81] [] (hv [80, 81] [] (hv [80, 81] [] G Gj44) Gj66) Gj92) Gj126) Gj162) := rm_mk (rm_tape rd64 : _) (rm_end rd64 : _) (rm_at rd64 : _) (rm_beh rd64 : _) (rm_sort rd64 : _) (rm_num rd64 : _) (rm_sgn rd64 : _) (rm_word rd64 : _) (rm_let rd64 : _) (rm_bad rd64 : _) (rm_bat rd64 : _) (rm_nm rd64 : _) (rm_nc rd64 : _) (rm_nd rd64 : _) k165ti k165to (rm_w0 rd64 : _) (rm_w1 rd64 : _) (rm_w2 rd64 : _) (rm_q0 rd64 : _) (rm_q1 rd64 : _) (rm_q2 rd64 : _) (rm_z0 rd64 : _) (rm_z1 rd64 : _) (rm_z2 rd64 : _) (rm_nv rd64 : _) (rm_p0 rd64 : _) (rm_p1 rd64 : _) (rm_n4 rd64 : _) (rm_c3 rd64 : _)
                        exact j198 _ (rd166)
                      · skip
                        refine r_ex hX hP 2 (pc' := 195) (st' := [(0, 1), (2, (Ad E 1))]) (lo' := [(0, (2, (Ad E 1))), (1, (0, w)), (2, (0, ch)), (3, (0, z3))]) rfl ?_
                        refine r_putIK hX hP rfl fp_12_444 hS (by first | decide | omega) (by first | decide | omega) (fun h167 => ?_)
                        refine r_eqG (X := X) (hq_up (hq_refl [91, 92] [] _) rfl) ?_
                        have k168to : sr 1 ≠ 0 ∨ (up (hv [80, 81] [] (hv [80, 81] [] (hv [80, 81] [] (hv [80, 81] [] (hv [80, 81] [] G Gj44) Gj66) Gj92) Gj126) Gj162) 1 (Ad E 1) 91 1) 1 (Ad E 1) 92 = (if z3 = 1 then (if pRw sr = 3 then 1 else sr 7) else sr 7) := by have q : sr 1 ≠ 0 ∨ (up (hv [80, 81] [] (hv [80, 81] [] (hv [80, 81] [] (hv [80, 81] [] (hv [80, 81] [] G Gj44) Gj66) Gj92) Gj126) Gj162) 1 (Ad E 1) 91 1) 1 (Ad E 1) 92 = sr 7 := (rm_to rd64 : _); (repeat' split) <;> omega
                        have k168ti : sr 1 ≠ 0 ∨ (up (hv [80, 81] [] (hv [80, 81] [] (hv [80, 81] [] (hv [80, 81] [] (hv [80, 81] [] G Gj44) Gj66) Gj92) Gj126) Gj162) 1 (Ad E 1) 91 1) 1 (Ad E 1) 91 = (if z3 = 1 then (if pRw sr = 3 then sr 6 else 1) else sr 6) := by have q : 1 = (up (hv [80, 81] [] (hv [80, 81] [] (hv [80, 81] [] (hv [80, 81] [] (hv [80, 81] [] G Gj44) Gj66) Gj92) Gj126) Gj162) 1 (Ad E 1) 91 1) 1 (Ad E 1) 91 := h167; (repeat' split) <;> omega
                        have rd169 : RdM E TT nn (pTk z3 sr) (up (hv [80, 81] [] (hv [80, 81] [] (hv [80, 81] [] (hv [80, 81] [] (hv [80, 81] [] G Gj44) Gj66) Gj92) Gj126) Gj162) 1 (Ad E 1) 91 1) := rm_mk (rm_tape rd64 : _) (rm_end rd64 : _) (rm_at rd64 : _) (rm_beh rd64 : _) (rm_sort rd64 : _) (rm_num rd64 : _) (rm_sgn rd64 : _) (rm_word rd64 : _) (rm_let rd64 : _) (rm_bad rd64 : _) (rm_bat rd64 : _) (rm_nm rd64 : _) (rm_nc rd64 : _) (rm_nd rd64 : _) k168ti k168to (rm_w0 rd64 : _) (rm_w1 rd64 : _) (rm_w2 rd64 : _) (rm_q0 rd64 : _) (rm_q1 rd64 : _) (rm_q2 rd64 : _) (rm_z0 rd64 : _) (rm_z1 rd64 : _) (rm_z2 rd64 : _) (rm_nv rd64 : _) (rm_p0 rd64 : _) (rm_p1 rd64 : _) (rm_n4 rd64 : _) (rm_c3 rd64 : _)
                        exact j198 _ (rd169)
                  · skip
                    refine r_ex hX hP 1 (pc' := 176) (st' := [(0, ch)]) (lo' := [(0, (2, (Ad E 1))), (1, (0, w)), (2, (0, ch)), (3, (0, z3))]) rfl ?_
                    refine r_if_ge hX hP rfl (tgt := 184) rfl (by first | decide | omega) (by first | decide | omega) (fun c170 => ?_) (fun c170 => ?_)
                    · skip
                      refine r_ex hX hP 2 (pc' := 186) (st' := [(0, 1), (0, z3)]) (lo' := [(0, (2, (Ad E 1))), (1, (0, w)), (2, (0, ch)), (3, (0, z3))]) rfl ?_
                      refine r_ic_ne hX hP rfl (tgt := 198) rfl (by first | decide | omega) (by first | decide | omega) (by first | decide | omega) (by first | decide | omega) (fun c171 => ?_) (fun c171 => ?_)
                      · skip
                        exfalso; omega
                      · skip
                        refine r_ex hX hP 1 (pc' := 190) (st' := [(0, ch)]) (lo' := [(0, (2, (Ad E 1))), (1, (0, w)), (2, (0, ch)), (3, (0, z3))]) rfl ?_
                        refine r_if_lt hX hP rfl (tgt := 198) rfl (by first | decide | omega) (by first | decide | omega) (fun c172 => ?_) (fun c172 => ?_)
                        · skip
                          exfalso; omega
                        · skip
                          refine r_ex hX hP 2 (pc' := 195) (st' := [(0, 1), (2, (Ad E 1))]) (lo' := [(0, (2, (Ad E 1))), (1, (0, w)), (2, (0, ch)), (3, (0, z3))]) rfl ?_
                          refine r_putIK hX hP rfl fp_12_444 hS (by first | decide | omega) (by first | decide | omega) (fun h173 => ?_)
                          refine r_eqG (X := X) (hq_up (hq_refl [91, 92] [] _) rfl) ?_
                          have k174to : sr 1 ≠ 0 ∨ (up (hv [80, 81] [] (hv [80, 81] [] (hv [80, 81] [] (hv [80, 81] [] (hv [80, 81] [] G Gj44) Gj66) Gj92) Gj126) Gj162) 1 (Ad E 1) 91 1) 1 (Ad E 1) 92 = (if z3 = 1 then (if pRw sr = 3 then 1 else sr 7) else sr 7) := by have q : sr 1 ≠ 0 ∨ (up (hv [80, 81] [] (hv [80, 81] [] (hv [80, 81] [] (hv [80, 81] [] (hv [80, 81] [] G Gj44) Gj66) Gj92) Gj126) Gj162) 1 (Ad E 1) 91 1) 1 (Ad E 1) 92 = sr 7 := (rm_to rd64 : _); (repeat' split) <;> omega
                          have k174ti : sr 1 ≠ 0 ∨ (up (hv [80, 81] [] (hv [80, 81] [] (hv [80, 81] [] (hv [80, 81] [] (hv [80, 81] [] G Gj44) Gj66) Gj92) Gj126) Gj162) 1 (Ad E 1) 91 1) 1 (Ad E 1) 91 = (if z3 = 1 then (if pRw sr = 3 then sr 6 else 1) else sr 6) := by have q : 1 = (up (hv [80, 81] [] (hv [80, 81] [] (hv [80, 81] [] (hv [80, 81] [] (hv [80, 81] [] G Gj44) Gj66) Gj92) Gj126) Gj162) 1 (Ad E 1) 91 1) 1 (Ad E 1) 91 := h173; (repeat' split) <;> omega
                          have rd175 : RdM E TT nn (pTk z3 sr) (up (hv [80, 81] [] (hv [80, 81] [] (hv [80, 81] [] (hv [80, 81] [] (hv [80, 81] [] G Gj44) Gj66) Gj92) Gj126) Gj162) 1 (Ad E 1) 91 1) := rm_mk (rm_tape rd64 : _) (rm_end rd64 : _) (rm_at rd64 : _) (rm_beh rd64 : _) (rm_sort rd64 : _) (rm_num rd64 : _) (rm_sgn rd64 : _) (rm_word rd64 : _) (rm_let rd64 : _) (rm_bad rd64 : _) (rm_bat rd64 : _) (rm_nm rd64 : _) (rm_nc rd64 : _) (rm_nd rd64 : _) k174ti k174to (rm_w0 rd64 : _) (rm_w1 rd64 : _) (rm_w2 rd64 : _) (rm_q0 rd64 : _) (rm_q1 rd64 : _) (rm_q2 rd64 : _) (rm_z0 rd64 : _) (rm_z1 rd64 : _) (rm_z2 rd64 : _) (rm_nv rd64 : _) (rm_p0 rd64 : _) (rm_p1 rd64 : _) (rm_n4 rd64 : _) (rm_c3 rd64 : _)
                          exact j198 _ (rd175)
                    · skip
                      refine r_ex hX hP 2 (pc' := 181) (st' := [(0, 1), (2, (Ad E 1))]) (lo' := [(0, (2, (Ad E 1))), (1, (0, w)), (2, (0, ch)), (3, (0, z3))]) rfl ?_
                      refine r_putIK hX hP rfl fp_12_448 hS (by first | decide | omega) (by first | decide | omega) (fun h176 => ?_)
                      refine r_ex hX hP 2 (pc' := 186) (st' := [(0, 1), (0, z3)]) (lo' := [(0, (2, (Ad E 1))), (1, (0, w)), (2, (0, ch)), (3, (0, z3))]) rfl ?_
                      refine r_ic_ne hX hP rfl (tgt := 198) rfl (by first | decide | omega) (by first | decide | omega) (by first | decide | omega) (by first | decide | omega) (fun c177 => ?_) (fun c177 => ?_)
                      · skip
                        exfalso; omega
                      · skip
                        refine r_ex hX hP 1 (pc' := 190) (st' := [(0, ch)]) (lo' := [(0, (2, (Ad E 1))), (1, (0, w)), (2, (0, ch)), (3, (0, z3))]) rfl ?_
                        refine r_if_lt hX hP rfl (tgt := 198) rfl (by first | decide | omega) (by first | decide | omega) (fun c178 => ?_) (fun c178 => ?_)
                        · skip
                          refine r_eqG (X := X) (hq_up (hq_refl [91, 92] [] _) rfl) ?_
                          have k179to : sr 1 ≠ 0 ∨ (up (hv [80, 81] [] (hv [80, 81] [] (hv [80, 81] [] (hv [80, 81] [] (hv [80, 81] [] G Gj44) Gj66) Gj92) Gj126) Gj162) 1 (Ad E 1) 92 1) 1 (Ad E 1) 92 = (if z3 = 1 then (if pRw sr = 3 then 1 else sr 7) else sr 7) := by have q : 1 = (up (hv [80, 81] [] (hv [80, 81] [] (hv [80, 81] [] (hv [80, 81] [] (hv [80, 81] [] G Gj44) Gj66) Gj92) Gj126) Gj162) 1 (Ad E 1) 92 1) 1 (Ad E 1) 92 := h176; (repeat' split) <;> omega
                          have k179ti : sr 1 ≠ 0 ∨ (up (hv [80, 81] [] (hv [80, 81] [] (hv [80, 81] [] (hv [80, 81] [] (hv [80, 81] [] G Gj44) Gj66) Gj92) Gj126) Gj162) 1 (Ad E 1) 92 1) 1 (Ad E 1) 91 = (if z3 = 1 then (if pRw sr = 3 then sr 6 else 1) else sr 6) := by have q : sr 1 ≠ 0 ∨ (up (hv [80, 81] [] (hv [80, 81] [] (hv [80, 81] [] (hv [80, 81] [] (hv [80, 81] [] G Gj44) Gj66) Gj92) Gj126) Gj162) 1 (Ad E 1) 92 1) 1 (Ad E 1) 91 = sr 6 := (rm_ti rd64 : _); (repeat' split) <;> omega
                          have rd180 : RdM E TT nn (pTk z3 sr) (up (hv [80, 81] [] (hv [80, 81] [] (hv [80, 81] [] (hv [80, 81] [] (hv [80, 81] [] G Gj44) Gj66) Gj92) Gj126) Gj162) 1 (Ad E 1) 92 1) := rm_mk (rm_tape rd64 : _) (rm_end rd64 : _) (rm_at rd64 : _) (rm_beh rd64 : _) (rm_sort rd64 : _) (rm_num rd64 : _) (rm_sgn rd64 : _) (rm_word rd64 : _) (rm_let rd64 : _) (rm_bad rd64 : _) (rm_bat rd64 : _) (rm_nm rd64 : _) (rm_nc rd64 : _) (rm_nd rd64 : _) k179ti k179to (rm_w0 rd64 : _) (rm_w1 rd64 : _) (rm_w2 rd64 : _) (rm_q0 rd64 : _) (rm_q1 rd64 : _) (rm_q2 rd64 : _) (rm_z0 rd64 : _) (rm_z1 rd64 : _) (rm_z2 rd64 : _) (rm_nv rd64 : _) (rm_p0 rd64 : _) (rm_p1 rd64 : _) (rm_n4 rd64 : _) (rm_c3 rd64 : _)
                          exact j198 _ (rd180)
                        · skip
                          exfalso; omega
                · skip
                  have k181w : pWf (pCw TT nn (sr 0)) sr = bad_j162 := by rw [show pCw TT nn (sr 0) = z3 from by omega, wf_faE (by first | decide | omega) (by first | decide | omega) pre4]; exact yj162_2.symm
                  have k181 := sp_fl TT nn (s := sr) (w := bad_j162) (by first | decide | omega) (by first | decide | omega) k181w (by first | decide | omega)
                  have k181f : fc TT nn bad_j162 sr = pFl TT nn bad_j162 sr := if_neg (by first | decide | omega)
                  exact r_retV hX hP rfl rfl (by first | decide | omega) (by first | decide | omega) ⟨rfl, ⟨_, (hq_loop (hq_loop (hq_loop (hq_loop (hq_loop (hq_refl _ _ _) rfl) rfl) rfl) rfl) rfl).symm⟩, rfl, bad_j162, bad_j162_e, newMany, newMany_e, (by first | decide | omega), (by first | decide | omega), (show FRZ E G (hv [80, 81] [] (hv [80, 81] [] (hv [80, 81] [] (hv [80, 81] [] (hv [80, 81] [] G Gj44) Gj66) Gj92) Gj126) Gj162) newMany (-1) from fun i h0 hi hx => ⟨rfl, rfl, rfl, rfl, rfl, rfl⟩), (Or.inl (by first | decide | omega)), ⟨1, rm_cast yj162_3 (k181f.trans k181.symm), Or.inl (by rw [pIt_one, k181, pFl_1 TT nn (by first | decide | omega)]; omega)⟩⟩
              refine r_ex hX hP 2 (pc' := 128) (st' := [(0, 1), (0, z3)]) (lo' := [(0, (2, (Ad E 1))), (1, (0, w)), (2, (0, ch)), (3, (0, z3))]) rfl ?_
              refine r_ic_ne hX hP rfl (tgt := 162) rfl (by first | decide | omega) (by first | decide | omega) (by first | decide | omega) (by first | decide | omega) (fun c182 => ?_) (fun c182 => ?_)
              · skip
                refine r_eqG (X := X) (hq_refl [80, 81] [] _) ?_
                exact j162 bad_j126 _ bad_j126_e (by first | decide | omega) (by first | decide | omega) (by first | decide | omega) (yj126_3)
              · skip
                refine r_ex hX hP 1 (pc' := 132) (st' := [(0, ch)]) (lo' := [(0, (2, (Ad E 1))), (1, (0, w)), (2, (0, ch)), (3, (0, z3))]) rfl ?_
                refine r_if_ge hX hP rfl (tgt := 145) rfl (by first | decide | omega) (by first | decide | omega) (fun c183 => ?_) (fun c183 => ?_)
                · skip
                  refine r_ex hX hP 1 (pc' := 146) (st' := [(2, (Ad E 1))]) (lo' := [(0, (2, (Ad E 1))), (1, (0, w)), (2, (0, ch)), (3, (0, z3))]) rfl ?_
                  refine r_getI hX hP rfl fl_12_448 hS (fun tf184 tf184e tf184a tf184b => ?_)
                  have k185 := rm_to yj126_3
                  have k185 := k185.imp id (fun w => tf184e.trans w)
                  refine r_if_eq hX hP rfl (tgt := 162) rfl (by first | decide | omega) (by first | decide | omega) (fun c186 => ?_) (fun c186 => ?_)
                  · skip
                    refine r_eqG (X := X) (hq_refl [80, 81] [] _) ?_
                    exact j162 bad_j126 _ bad_j126_e (by first | decide | omega) (by first | decide | omega) (by first | decide | omega) (yj126_3)
                  · skip
                    refine r_ex hX hP 3 (pc' := 156) (st' := [(2, (Ad E 1)), (0, 6), (2, (Ad E 1))]) (lo' := [(0, (2, (Ad E 1))), (1, (0, w)), (2, (0, ch)), (3, (0, z3))]) rfl ?_
                    refine r_getI hX hP rfl fl_12_352 hS (fun af187 af187e af187a af187b => ?_)
                    have k188 := rm_at yj126_3
                    have k188 := af187e.trans k188
                    refine r_callV gd hX hP rfl cv_12_388 hS (d' := 0) (mc' := 0) (ms' := 0) (as' := [(0, 6), (0, af187)]) (st := []) (by first | decide | omega) (by first | decide | omega) (by first | decide | omega) rfl rfl (Nat.le_of_ble_eq_true rfl) (c_X12_failR E S (hv [80, 81] [] (hv [80, 81] [] (hv [80, 81] [] (hv [80, 81] [] G Gj44) Gj66) Gj92) Gj126) 6 af187 hS (by first | decide | omega) (by first | decide | omega) (by first | decide | omega) (by first | decide | omega) TT nn (fc TT nn bad_j126 sr) yj126_3 (by first | decide | omega)) ?_
                    rintro _ _ _ ⟨rfl, ⟨G189, rfl⟩, rfl, bah190, bah190e, f191, r192⟩
                    have k193 := rm_bad r192
                    have k193 := bah190e.trans k193
                    refine r_peekI hX (tl1 80 rfl (by decide)) hS (fun o194 o194e o194a o194b => ?_)
                    obtain rfl : bah190 = o194 := bah190e.trans o194e.symm
                    refine r_eqG (X := X) (hq_call (hq_refl [80, 81] [] _) rfl) ?_
                    have k195 := fc_step TT nn (w := 6) (b := bad_j126) (b2 := bah190) (s := sr) (by first | decide | omega) (by decide) (show bah190 = pFl TT nn 6 (fc TT nn bad_j126 sr) 1 from by omega)
                    obtain ⟨k195a, k195b⟩ := k195
                    exact j162 bah190 _ bah190e (by first | decide | omega) (by first | decide | omega) (by first | decide | omega) ((rm_cast r192 k195a))
                · skip
                  refine r_ex hX hP 1 (pc' := 136) (st' := [(2, (Ad E 1))]) (lo' := [(0, (2, (Ad E 1))), (1, (0, w)), (2, (0, ch)), (3, (0, z3))]) rfl ?_
                  refine r_getI hX hP rfl fl_12_444 hS (fun tf196 tf196e tf196a tf196b => ?_)
                  have k197 := rm_ti yj126_3
                  have k197 := k197.imp id (fun w => tf196e.trans w)
                  refine r_if_eq hX hP rfl (tgt := 162) rfl (by first | decide | omega) (by first | decide | omega) (fun c198 => ?_) (fun c198 => ?_)
                  · skip
                    refine r_eqG (X := X) (hq_refl [80, 81] [] _) ?_
                    exact j162 bad_j126 _ bad_j126_e (by first | decide | omega) (by first | decide | omega) (by first | decide | omega) (yj126_3)
                  · skip
                    refine r_ex hX hP 4 (pc' := 156) (st' := [(2, (Ad E 1)), (0, 6), (2, (Ad E 1))]) (lo' := [(0, (2, (Ad E 1))), (1, (0, w)), (2, (0, ch)), (3, (0, z3))]) rfl ?_
                    refine r_getI hX hP rfl fl_12_352 hS (fun af199 af199e af199a af199b => ?_)
                    have k200 := rm_at yj126_3
                    have k200 := af199e.trans k200
                    refine r_callV gd hX hP rfl cv_12_388 hS (d' := 0) (mc' := 0) (ms' := 0) (as' := [(0, 6), (0, af199)]) (st := []) (by first | decide | omega) (by first | decide | omega) (by first | decide | omega) rfl rfl (Nat.le_of_ble_eq_true rfl) (c_X12_failR E S (hv [80, 81] [] (hv [80, 81] [] (hv [80, 81] [] (hv [80, 81] [] G Gj44) Gj66) Gj92) Gj126) 6 af199 hS (by first | decide | omega) (by first | decide | omega) (by first | decide | omega) (by first | decide | omega) TT nn (fc TT nn bad_j126 sr) yj126_3 (by first | decide | omega)) ?_
                    rintro _ _ _ ⟨rfl, ⟨G201, rfl⟩, rfl, bah202, bah202e, f203, r204⟩
                    have k205 := rm_bad r204
                    have k205 := bah202e.trans k205
                    refine r_peekI hX (tl1 80 rfl (by decide)) hS (fun o206 o206e o206a o206b => ?_)
                    obtain rfl : bah202 = o206 := bah202e.trans o206e.symm
                    refine r_eqG (X := X) (hq_call (hq_refl [80, 81] [] _) rfl) ?_
                    have k207 := fc_step TT nn (w := 6) (b := bad_j126) (b2 := bah202) (s := sr) (by first | decide | omega) (by decide) (show bah202 = pFl TT nn 6 (fc TT nn bad_j126 sr) 1 from by omega)
                    obtain ⟨k207a, k207b⟩ := k207
                    exact j162 bah202 _ bah202e (by first | decide | omega) (by first | decide | omega) (by first | decide | omega) ((rm_cast r204 k207a))
            refine r_ex hX hP 2 (pc' := 95) (st' := [(0, 9), (0, z3)]) (lo' := [(0, (2, (Ad E 1))), (1, (0, w)), (2, (0, ch)), (3, (0, z3))]) rfl ?_
            refine r_ic_ne hX hP rfl (tgt := 126) rfl (by first | decide | omega) (by first | decide | omega) (by first | decide | omega) (by first | decide | omega) (fun c208 => ?_) (fun c208 => ?_)
            · skip
              refine r_eqG (X := X) (hq_refl [80, 81] [] _) ?_
              exact j126 bad_j92 _ bad_j92_e (by first | decide | omega) (by first | decide | omega) (by first | decide | omega) (yj92_3)
            · skip
              refine r_ex hX hP 1 (pc' := 99) (st' := [(0, ch)]) (lo' := [(0, (2, (Ad E 1))), (1, (0, w)), (2, (0, ch)), (3, (0, z3))]) rfl ?_
              refine r_if_lt hX hP rfl (tgt := 116) rfl (by first | decide | omega) (by first | decide | omega) (fun c209 => ?_) (fun c209 => ?_)
              · skip
                refine r_ex hX hP 3 (pc' := 120) (st' := [(2, (Ad E 1)), (0, 6), (2, (Ad E 1))]) (lo' := [(0, (2, (Ad E 1))), (1, (0, w)), (2, (0, ch)), (3, (0, z3))]) rfl ?_
                refine r_getI hX hP rfl fl_12_352 hS (fun af210 af210e af210a af210b => ?_)
                have k211 := rm_at yj92_3
                have k211 := af210e.trans k211
                refine r_callV gd hX hP rfl cv_12_388 hS (d' := 0) (mc' := 0) (ms' := 0) (as' := [(0, 6), (0, af210)]) (st := []) (by first | decide | omega) (by first | decide | omega) (by first | decide | omega) rfl rfl (Nat.le_of_ble_eq_true rfl) (c_X12_failR E S (hv [80, 81] [] (hv [80, 81] [] (hv [80, 81] [] G Gj44) Gj66) Gj92) 6 af210 hS (by first | decide | omega) (by first | decide | omega) (by first | decide | omega) (by first | decide | omega) TT nn (fc TT nn bad_j92 sr) yj92_3 (by first | decide | omega)) ?_
                rintro _ _ _ ⟨rfl, ⟨G212, rfl⟩, rfl, bah213, bah213e, f214, r215⟩
                have k216 := rm_bad r215
                have k216 := bah213e.trans k216
                refine r_peekI hX (tl1 80 rfl (by decide)) hS (fun o217 o217e o217a o217b => ?_)
                obtain rfl : bah213 = o217 := bah213e.trans o217e.symm
                refine r_eqG (X := X) (hq_call (hq_refl [80, 81] [] _) rfl) ?_
                have k218 := fc_step TT nn (w := 6) (b := bad_j92) (b2 := bah213) (s := sr) (by first | decide | omega) (by decide) (show bah213 = pFl TT nn 6 (fc TT nn bad_j92 sr) 1 from by omega)
                obtain ⟨k218a, k218b⟩ := k218
                exact j126 bah213 _ bah213e (by first | decide | omega) (by first | decide | omega) (by first | decide | omega) ((rm_cast r215 k218a))
              · skip
                refine r_ex hX hP 2 (pc' := 104) (st' := [(0, 1), (0, w)]) (lo' := [(0, (2, (Ad E 1))), (1, (0, w)), (2, (0, ch)), (3, (0, z3))]) rfl ?_
                refine r_ic_ne hX hP rfl (tgt := 116) rfl (by first | decide | omega) (by first | decide | omega) (by first | decide | omega) (by first | decide | omega) (fun c219 => ?_) (fun c219 => ?_)
                · skip
                  refine r_ex hX hP 3 (pc' := 120) (st' := [(2, (Ad E 1)), (0, 6), (2, (Ad E 1))]) (lo' := [(0, (2, (Ad E 1))), (1, (0, w)), (2, (0, ch)), (3, (0, z3))]) rfl ?_
                  refine r_getI hX hP rfl fl_12_352 hS (fun af220 af220e af220a af220b => ?_)
                  have k221 := rm_at yj92_3
                  have k221 := af220e.trans k221
                  refine r_callV gd hX hP rfl cv_12_388 hS (d' := 0) (mc' := 0) (ms' := 0) (as' := [(0, 6), (0, af220)]) (st := []) (by first | decide | omega) (by first | decide | omega) (by first | decide | omega) rfl rfl (Nat.le_of_ble_eq_true rfl) (c_X12_failR E S (hv [80, 81] [] (hv [80, 81] [] (hv [80, 81] [] G Gj44) Gj66) Gj92) 6 af220 hS (by first | decide | omega) (by first | decide | omega) (by first | decide | omega) (by first | decide | omega) TT nn (fc TT nn bad_j92 sr) yj92_3 (by first | decide | omega)) ?_
                  rintro _ _ _ ⟨rfl, ⟨G222, rfl⟩, rfl, bah223, bah223e, f224, r225⟩
                  have k226 := rm_bad r225
                  have k226 := bah223e.trans k226
                  refine r_peekI hX (tl1 80 rfl (by decide)) hS (fun o227 o227e o227a o227b => ?_)
                  obtain rfl : bah223 = o227 := bah223e.trans o227e.symm
                  refine r_eqG (X := X) (hq_call (hq_refl [80, 81] [] _) rfl) ?_
                  have k228 := fc_step TT nn (w := 6) (b := bad_j92) (b2 := bah223) (s := sr) (by first | decide | omega) (by decide) (show bah223 = pFl TT nn 6 (fc TT nn bad_j92 sr) 1 from by omega)
                  obtain ⟨k228a, k228b⟩ := k228
                  exact j126 bah223 _ bah223e (by first | decide | omega) (by first | decide | omega) (by first | decide | omega) ((rm_cast r225 k228a))
                · skip
                  refine r_ex hX hP 1 (pc' := 108) (st' := [(2, (Ad E 1))]) (lo' := [(0, (2, (Ad E 1))), (1, (0, w)), (2, (0, ch)), (3, (0, z3))]) rfl ?_
                  refine r_getC hX hP rfl fl_12_235 hS (fun s229 => ?_)
                  refine r_ex hX hP 1 (pc' := 112) (st' := [(0, ch), (2, (Ad E 70))]) (lo' := [(0, (2, (Ad E 1))), (1, (0, w)), (2, (0, ch)), (3, (0, z3))]) rfl ?_
                  refine r_iald hX hP rfl al_70 s229 (by first | decide | omega) (by first | decide | omega) (fun x230 x230e x230a x230b => ?_)
                  have k231 := rm_qx yj92_3 x230e (by first | decide | omega) (by first | decide | omega)
                  refine r_if_lt hX hP rfl (tgt := 126) rfl (by first | decide | omega) (by first | decide | omega) (fun c232 => ?_) (fun c232 => ?_)
                  · skip
                    refine r_eqG (X := X) (hq_refl [80, 81] [] _) ?_
                    exact j126 bad_j92 _ bad_j92_e (by first | decide | omega) (by first | decide | omega) (by first | decide | omega) (yj92_3)
                  · skip
                    refine r_ex hX hP 3 (pc' := 120) (st' := [(2, (Ad E 1)), (0, 6), (2, (Ad E 1))]) (lo' := [(0, (2, (Ad E 1))), (1, (0, w)), (2, (0, ch)), (3, (0, z3))]) rfl ?_
                    refine r_getI hX hP rfl fl_12_352 hS (fun af233 af233e af233a af233b => ?_)
                    have k234 := rm_at yj92_3
                    have k234 := af233e.trans k234
                    refine r_callV gd hX hP rfl cv_12_388 hS (d' := 0) (mc' := 0) (ms' := 0) (as' := [(0, 6), (0, af233)]) (st := []) (by first | decide | omega) (by first | decide | omega) (by first | decide | omega) rfl rfl (Nat.le_of_ble_eq_true rfl) (c_X12_failR E S (hv [80, 81] [] (hv [80, 81] [] (hv [80, 81] [] G Gj44) Gj66) Gj92) 6 af233 hS (by first | decide | omega) (by first | decide | omega) (by first | decide | omega) (by first | decide | omega) TT nn (fc TT nn bad_j92 sr) yj92_3 (by first | decide | omega)) ?_
                    rintro _ _ _ ⟨rfl, ⟨G235, rfl⟩, rfl, bah236, bah236e, f237, r238⟩
                    have k239 := rm_bad r238
                    have k239 := bah236e.trans k239
                    refine r_peekI hX (tl1 80 rfl (by decide)) hS (fun o240 o240e o240a o240b => ?_)
                    obtain rfl : bah236 = o240 := bah236e.trans o240e.symm
                    refine r_eqG (X := X) (hq_call (hq_refl [80, 81] [] _) rfl) ?_
                    have k241 := fc_step TT nn (w := 6) (b := bad_j92) (b2 := bah236) (s := sr) (by first | decide | omega) (by decide) (show bah236 = pFl TT nn 6 (fc TT nn bad_j92 sr) 1 from by omega)
                    obtain ⟨k241a, k241b⟩ := k241
                    exact j126 bah236 _ bah236e (by first | decide | omega) (by first | decide | omega) (by first | decide | omega) ((rm_cast r238 k241a))
          refine r_ex hX hP 2 (pc' := 69) (st' := [(0, 7), (0, z3)]) (lo' := [(0, (2, (Ad E 1))), (1, (0, w)), (2, (0, ch)), (3, (0, z3))]) rfl ?_
          refine r_ic_eq hX hP rfl (tgt := 78) rfl (by first | decide | omega) (by first | decide | omega) (by first | decide | omega) (by first | decide | omega) (fun c242 => ?_) (fun c242 => ?_)
          · skip
            refine r_ex hX hP 1 (pc' := 79) (st' := [(0, w)]) (lo' := [(0, (2, (Ad E 1))), (1, (0, w)), (2, (0, ch)), (3, (0, z3))]) rfl ?_
            refine r_if_le hX hP rfl (tgt := 92) rfl (by first | decide | omega) (by first | decide | omega) (fun c243 => ?_) (fun c243 => ?_)
            · skip
              refine r_eqG (X := X) (hq_refl [80, 81] [] _) ?_
              exact j92 bad_j66 _ bad_j66_e (by first | decide | omega) (by first | decide | omega) (by first | decide | omega) (yj66_3)
            · skip
              refine r_ex hX hP 3 (pc' := 86) (st' := [(2, (Ad E 1)), (0, 6), (2, (Ad E 1))]) (lo' := [(0, (2, (Ad E 1))), (1, (0, w)), (2, (0, ch)), (3, (0, z3))]) rfl ?_
              refine r_getI hX hP rfl fl_12_352 hS (fun af244 af244e af244a af244b => ?_)
              have k245 := rm_at yj66_3
              have k245 := af244e.trans k245
              refine r_callV gd hX hP rfl cv_12_388 hS (d' := 0) (mc' := 0) (ms' := 0) (as' := [(0, 6), (0, af244)]) (st := []) (by first | decide | omega) (by first | decide | omega) (by first | decide | omega) rfl rfl (Nat.le_of_ble_eq_true rfl) (c_X12_failR E S (hv [80, 81] [] (hv [80, 81] [] G Gj44) Gj66) 6 af244 hS (by first | decide | omega) (by first | decide | omega) (by first | decide | omega) (by first | decide | omega) TT nn (fc TT nn bad_j66 sr) yj66_3 (by first | decide | omega)) ?_
              rintro _ _ _ ⟨rfl, ⟨G246, rfl⟩, rfl, bah247, bah247e, f248, r249⟩
              have k250 := rm_bad r249
              have k250 := bah247e.trans k250
              refine r_peekI hX (tl1 80 rfl (by decide)) hS (fun o251 o251e o251a o251b => ?_)
              obtain rfl : bah247 = o251 := bah247e.trans o251e.symm
              refine r_eqG (X := X) (hq_call (hq_refl [80, 81] [] _) rfl) ?_
              have k252 := fc_step TT nn (w := 6) (b := bad_j66) (b2 := bah247) (s := sr) (by first | decide | omega) (by decide) (show bah247 = pFl TT nn 6 (fc TT nn bad_j66 sr) 1 from by omega)
              obtain ⟨k252a, k252b⟩ := k252
              exact j92 bah247 _ bah247e (by first | decide | omega) (by first | decide | omega) (by first | decide | omega) ((rm_cast r249 k252a))
          · skip
            refine r_ex hX hP 2 (pc' := 75) (st' := [(0, 8), (0, z3)]) (lo' := [(0, (2, (Ad E 1))), (1, (0, w)), (2, (0, ch)), (3, (0, z3))]) rfl ?_
            refine r_ic_ne hX hP rfl (tgt := 92) rfl (by first | decide | omega) (by first | decide | omega) (by first | decide | omega) (by first | decide | omega) (fun c253 => ?_) (fun c253 => ?_)
            · skip
              refine r_eqG (X := X) (hq_refl [80, 81] [] _) ?_
              exact j92 bad_j66 _ bad_j66_e (by first | decide | omega) (by first | decide | omega) (by first | decide | omega) (yj66_3)
            · skip
              refine r_ex hX hP 1 (pc' := 79) (st' := [(0, w)]) (lo' := [(0, (2, (Ad E 1))), (1, (0, w)), (2, (0, ch)), (3, (0, z3))]) rfl ?_
              refine r_if_le hX hP rfl (tgt := 92) rfl (by first | decide | omega) (by first | decide | omega) (fun c254 => ?_) (fun c254 => ?_)
              · skip
                refine r_eqG (X := X) (hq_refl [80, 81] [] _) ?_
                exact j92 bad_j66 _ bad_j66_e (by first | decide | omega) (by first | decide | omega) (by first | decide | omega) (yj66_3)
              · skip
                refine r_ex hX hP 3 (pc' := 86) (st' := [(2, (Ad E 1)), (0, 6), (2, (Ad E 1))]) (lo' := [(0, (2, (Ad E 1))), (1, (0, w)), (2, (0, ch)), (3, (0, z3))]) rfl ?_
                refine r_getI hX hP rfl fl_12_352 hS (fun af255 af255e af255a af255b => ?_)
                have k256 := rm_at yj66_3
                have k256 := af255e.trans k256
                refine r_callV gd hX hP rfl cv_12_388 hS (d' := 0) (mc' := 0) (ms' := 0) (as' := [(0, 6), (0, af255)]) (st := []) (by first | decide | omega) (by first | decide | omega) (by first | decide | omega) rfl rfl (Nat.le_of_ble_eq_true rfl) (c_X12_failR E S (hv [80, 81] [] (hv [80, 81] [] G Gj44) Gj66) 6 af255 hS (by first | decide | omega) (by first | decide | omega) (by first | decide | omega) (by first | decide | omega) TT nn (fc TT nn bad_j66 sr) yj66_3 (by first | decide | omega)) ?_
                rintro _ _ _ ⟨rfl, ⟨G257, rfl⟩, rfl, bah258, bah258e, f259, r260⟩
                have k261 := rm_bad r260
                have k261 := bah258e.trans k261
                refine r_peekI hX (tl1 80 rfl (by decide)) hS (fun o262 o262e o262a o262b => ?_)
                obtain rfl : bah258 = o262 := bah258e.trans o262e.symm
                refine r_eqG (X := X) (hq_call (hq_refl [80, 81] [] _) rfl) ?_
                have k263 := fc_step TT nn (w := 6) (b := bad_j66) (b2 := bah258) (s := sr) (by first | decide | omega) (by decide) (show bah258 = pFl TT nn 6 (fc TT nn bad_j66 sr) 1 from by omega)
                obtain ⟨k263a, k263b⟩ := k263
                exact j92 bah258 _ bah258e (by first | decide | omega) (by first | decide | omega) (by first | decide | omega) ((rm_cast r260 k263a))
        refine r_ex hX hP 2 (pc' := 47) (st' := [(0, 8), (0, z3)]) (lo' := [(0, (2, (Ad E 1))), (1, (0, w)), (2, (0, ch)), (3, (0, z3))]) rfl ?_
        refine r_ic_ne hX hP rfl (tgt := 66) rfl (by first | decide | omega) (by first | decide | omega) (by first | decide | omega) (by first | decide | omega) (fun c264 => ?_) (fun c264 => ?_)
        · skip
          refine r_eqG (X := X) (hq_refl [80, 81] [] _) ?_
          exact j66 bad_j44 _ bad_j44_e (by first | decide | omega) (by first | decide | omega) (by first | decide | omega) (yj44_3)
        · skip
          refine r_ex hX hP 1 (pc' := 51) (st' := [(2, (Ad E 1))]) (lo' := [(0, (2, (Ad E 1))), (1, (0, w)), (2, (0, ch)), (3, (0, z3))]) rfl ?_
          refine r_getI hX hP rfl fl_12_441 hS (fun nf265 nf265e nf265a nf265b => ?_)
          have k266 := rm_nd yj44_3
          have k266 := k266.imp id (fun w => nf265e.trans w)
          refine r_if_lt hX hP rfl (tgt := 66) rfl (by first | decide | omega) (by first | decide | omega) (fun c267 => ?_) (fun c267 => ?_)
          · skip
            refine r_eqG (X := X) (hq_refl [80, 81] [] _) ?_
            exact j66 bad_j44 _ bad_j44_e (by first | decide | omega) (by first | decide | omega) (by first | decide | omega) (yj44_3)
          · skip
            refine r_ex hX hP 3 (pc' := 60) (st' := [(2, (Ad E 1)), (0, 5), (2, (Ad E 1))]) (lo' := [(0, (2, (Ad E 1))), (1, (0, w)), (2, (0, ch)), (3, (0, z3))]) rfl ?_
            refine r_getI hX hP rfl fl_12_352 hS (fun af268 af268e af268a af268b => ?_)
            have k269 := rm_at yj44_3
            have k269 := af268e.trans k269
            refine r_callV gd hX hP rfl cv_12_388 hS (d' := 0) (mc' := 0) (ms' := 0) (as' := [(0, 5), (0, af268)]) (st := []) (by first | decide | omega) (by first | decide | omega) (by first | decide | omega) rfl rfl (Nat.le_of_ble_eq_true rfl) (c_X12_failR E S (hv [80, 81] [] G Gj44) 5 af268 hS (by first | decide | omega) (by first | decide | omega) (by first | decide | omega) (by first | decide | omega) TT nn (fc TT nn bad_j44 sr) yj44_3 (by first | decide | omega)) ?_
            rintro _ _ _ ⟨rfl, ⟨G270, rfl⟩, rfl, bah271, bah271e, f272, r273⟩
            have k274 := rm_bad r273
            have k274 := bah271e.trans k274
            refine r_peekI hX (tl1 80 rfl (by decide)) hS (fun o275 o275e o275a o275b => ?_)
            obtain rfl : bah271 = o275 := bah271e.trans o275e.symm
            refine r_eqG (X := X) (hq_call (hq_refl [80, 81] [] _) rfl) ?_
            have k276 := fc_step TT nn (w := 5) (b := bad_j44) (b2 := bah271) (s := sr) (by first | decide | omega) (by decide) (show bah271 = pFl TT nn 5 (fc TT nn bad_j44 sr) 1 from by omega)
            obtain ⟨k276a, k276b⟩ := k276
            exact j66 bah271 _ bah271e (by first | decide | omega) (by first | decide | omega) (by first | decide | omega) ((rm_cast r273 k276a))
      refine r_ex hX hP 1 (pc' := 22) (st' := [(2, (Ad E 1))]) (lo' := [(0, (2, (Ad E 1))), (1, (0, w)), (2, (0, ch)), (3, (0, z3))]) rfl ?_
      refine r_getKI hX hP rfl fl_12_438 hS (x := newMany) newMany_e ?_
      refine r_ex hX hP 1 (pc' := 27) (st' := [(0, 30), (0, newMany)]) (lo' := [(0, (2, (Ad E 1))), (1, (0, w)), (2, (0, ch)), (3, (0, z3))]) rfl ?_
      refine r_ic_eq hX hP rfl (tgt := 35) rfl (by first | decide | omega) (by first | decide | omega) (by first | decide | omega) (by first | decide | omega) (fun c277 => ?_) (fun c277 => ?_)
      · skip
        refine r_ex hX hP 3 (pc' := 38) (st' := [(2, (Ad E 1)), (0, 3), (2, (Ad E 1))]) (lo' := [(0, (2, (Ad E 1))), (1, (0, w)), (2, (0, ch)), (3, (0, z3))]) rfl ?_
        refine r_getI hX hP rfl fl_12_352 hS (fun af278 af278e af278a af278b => ?_)
        have k279 := rm_at r5
        have k279 := af278e.trans k279
        refine r_callV gd hX hP rfl cv_12_388 hS (d' := 0) (mc' := 0) (ms' := 0) (as' := [(0, 3), (0, af278)]) (st := []) (by first | decide | omega) (by first | decide | omega) (by first | decide | omega) rfl rfl (Nat.le_of_ble_eq_true rfl) (c_X12_failR E S G 3 af278 hS (by first | decide | omega) (by first | decide | omega) (by first | decide | omega) (by first | decide | omega) TT nn sr r5 (by first | decide | omega)) ?_
        rintro _ _ _ ⟨rfl, ⟨G280, rfl⟩, rfl, bah281, bah281e, f282, r283⟩
        have k284 := rm_bad r283
        have k284 := bah281e.trans k284
        refine r_peekI hX (tl1 80 rfl (by decide)) hS (fun o285 o285e o285a o285b => ?_)
        obtain rfl : bah281 = o285 := bah281e.trans o285e.symm
        refine r_eqG (X := X) (hq_call (hq_refl [80, 81] [] _) rfl) ?_
        have k286 := fc_step TT nn (w := 3) (b := 0) (b2 := bah281) (s := sr) (by first | decide | omega) (by decide) (show bah281 = pFl TT nn 3 (fc TT nn 0 sr) 1 from by have e : fc TT nn 0 sr = sr := rfl; rw [e]; omega)
        obtain ⟨k286a, k286b⟩ := k286
        exact j44 bah281 _ bah281e (by first | decide | omega) (by first | decide | omega) (by first | decide | omega) ((rm_cast r283 (show pFl TT nn 3 sr = fc TT nn bah281 sr from k286a)))
      · skip
        refine r_ex hX hP 2 (pc' := 32) (st' := [(0, 3), (0, w)]) (lo' := [(0, (2, (Ad E 1))), (1, (0, w)), (2, (0, ch)), (3, (0, z3))]) rfl ?_
        refine r_ic_lt hX hP rfl (tgt := 44) rfl (by first | decide | omega) (by first | decide | omega) (by first | decide | omega) (by first | decide | omega) (fun c287 => ?_) (fun c287 => ?_)
        · skip
          refine r_eqG (X := X) (hq_refl [80, 81] [] _) ?_
          have k288 : sr = fc TT nn 0 sr := rfl
          exact j44 bad _ bad_e (by first | decide | omega) (by first | decide | omega) (by first | decide | omega) ((rm_cast r5 (show sr = fc TT nn bad sr from (if_pos (show bad = 0 from by omega)).symm)))
        · skip
          refine r_ex hX hP 3 (pc' := 38) (st' := [(2, (Ad E 1)), (0, 3), (2, (Ad E 1))]) (lo' := [(0, (2, (Ad E 1))), (1, (0, w)), (2, (0, ch)), (3, (0, z3))]) rfl ?_
          refine r_getI hX hP rfl fl_12_352 hS (fun af289 af289e af289a af289b => ?_)
          have k290 := rm_at r5
          have k290 := af289e.trans k290
          refine r_callV gd hX hP rfl cv_12_388 hS (d' := 0) (mc' := 0) (ms' := 0) (as' := [(0, 3), (0, af289)]) (st := []) (by first | decide | omega) (by first | decide | omega) (by first | decide | omega) rfl rfl (Nat.le_of_ble_eq_true rfl) (c_X12_failR E S G 3 af289 hS (by first | decide | omega) (by first | decide | omega) (by first | decide | omega) (by first | decide | omega) TT nn sr r5 (by first | decide | omega)) ?_
          rintro _ _ _ ⟨rfl, ⟨G291, rfl⟩, rfl, bah292, bah292e, f293, r294⟩
          have k295 := rm_bad r294
          have k295 := bah292e.trans k295
          refine r_peekI hX (tl1 80 rfl (by decide)) hS (fun o296 o296e o296a o296b => ?_)
          obtain rfl : bah292 = o296 := bah292e.trans o296e.symm
          refine r_eqG (X := X) (hq_call (hq_refl [80, 81] [] _) rfl) ?_
          have k297 := fc_step TT nn (w := 3) (b := 0) (b2 := bah292) (s := sr) (by first | decide | omega) (by decide) (show bah292 = pFl TT nn 3 (fc TT nn 0 sr) 1 from by have e : fc TT nn 0 sr = sr := rfl; rw [e]; omega)
          obtain ⟨k297a, k297b⟩ := k297
          exact j44 bah292 _ bah292e (by first | decide | omega) (by first | decide | omega) (by first | decide | omega) ((rm_cast r294 (show pFl TT nn 3 sr = fc TT nn bah292 sr from k297a)))
    · skip
      exfalso; omega
  · skip
    refine r_ex hX hP 1 (pc' := 10) (st' := [(2, (Ad E 1))]) (lo' := [(0, (2, (Ad E 1))), (1, (0, w)), (2, (0, ch)), (3, (0, z3))]) rfl ?_
    refine r_callV gd hX hP rfl cv_12_395 hS (d' := 1) (mc' := 0) (ms' := 0) (as' := []) (st := []) (by first | decide | omega) (by first | decide | omega) (by first | decide | omega) rfl rfl (Nat.le_of_ble_eq_true rfl) (c_X12_wrongR E S G  hS TT nn sr r5) ?_
    rintro _ _ _ ⟨rfl, ⟨G298, rfl⟩, rfl, bah299, bah299e, f300, r301⟩
    have k302 := rm_bad r301
    have k302 := bah299e.trans k302
    refine r_peekI hX (tl1 80 rfl (by decide)) hS (fun o303 o303e o303a o303b => ?_)
    obtain rfl : bah299 = o303 := bah299e.trans o303e.symm
    refine r_ex hX hP 1 (pc' := 14) (st' := [(2, (Ad E 1))]) (lo' := [(0, (2, (Ad E 1))), (1, (0, w)), (2, (0, ch)), (3, (0, z3))]) rfl ?_
    refine r_getKI hX hP rfl fl_12_382 hS (x := bah299) bah299e ?_
    refine r_if_le hX hP rfl (tgt := 21) rfl (by first | decide | omega) (by first | decide | omega) (fun c304 => ?_) (fun c304 => ?_)
    · skip
      exfalso; omega
    · skip
      have k305 := sp_wr TT nn (s := sr) (by first | decide | omega) (by first | decide | omega) (by first | decide | omega) (by first | decide | omega)
      exact r_retV hX hP rfl rfl (by first | decide | omega) (by first | decide | omega) ⟨rfl, ⟨_, (hq_call (hq_refl _ _ _) rfl).symm⟩, rfl, bah299, bah299e, newMany, newMany_e, (by first | decide | omega), (by first | decide | omega), (show FRZ E G (hv [80, 81] [] G G298) newMany (-1) from fun i h0 hi hx => ⟨rfl, rfl, rfl, rfl, rfl, rfl⟩), (Or.inl (by first | decide | omega)), ⟨1, rm_cast r301 k305.symm, Or.inl (by rw [pIt_one, k305]; exact pWr_1 TT nn (by first | decide | omega))⟩⟩
