set_option maxRecDepth 100000 in
set_option maxHeartbeats 4000000 in
theorem c_X12_bringsOne (E : En) (S : Sg) (G : Gh) (i isin sh : Int) (hS : S (Ad E 1) = 1) (two_i : Int) (two_i_e : two_i = G 31 (Ad E 31) i) (i_a : 0 ≤ i) (i_b : i ≤ 479) (isin_a : 0 ≤ isin) (isin_b : isin ≤ 1) (sh_a : (-9223372036854775808) ≤ sh) (sh_b : sh ≤ 9223372036854775807) (pre0 : 1 ≤ two_i) : Calls E mX12_bringsOne [(2, (Ad E 1)), (0, i), (0, isin), (1, sh)] S G 0 0 0 (fun r S' G' => S = S' ∧ (∃ G1, hv [120, 122, 123, 124] [89] G G1 = G') ∧ r = none ∧ True) := by
  refine calls_by [(0, (2, (Ad E 1))), (1, (0, i)), (2, (0, isin)), (3, (1, sh))] rfl rfl (Nat.le_of_ble_eq_true rfl) (fun X hX => ?_)
  have hP := hPX12_bringsOne
  refine r_labC hX (tl1 43 rfl (by decide)) hS (fun s1 => ?_)
  refine r_apeekI hX al_31 s1 (i := i) (by first | decide | omega) (by first | decide | omega) (fun two_i_o two_i_oe two_i_oa two_i_ob => ?_)
  obtain rfl : two_i = two_i_o := two_i_e.trans two_i_oe.symm
  refine r_ex hX hP 2 (pc' := 2) (st' := [(2, (Ad E 1)), (1, sh)]) (lo' := [(0, (2, (Ad E 1))), (1, (0, i)), (2, (0, isin)), (3, (1, sh))]) rfl ?_
  refine r_getC hX hP rfl fl_12_104 hS (fun s2 => ?_)
  refine r_ex hX hP 1 (pc' := 6) (st' := [(0, i), (2, (Ad E 30)), (1, sh)]) (lo' := [(0, (2, (Ad E 1))), (1, (0, i)), (2, (0, isin)), (3, (1, sh))]) rfl ?_
  refine r_iald hX hP rfl al_30 s2 (by first | decide | omega) (by first | decide | omega) (fun x3 x3e x3a x3b => ?_)
  refine r_i2l hX hP rfl (by first | decide | omega) (by first | decide | omega) ?_
  refine r_ex hX hP 1 (pc' := 9) (st' := [(1, (sh * x3))]) (lo' := [(0, (2, (Ad E 1))), (1, (0, i)), (2, (0, isin)), (3, (1, sh))]) rfl ?_
  refine r_hvL hX (fun w4 w4a w4b w4e => ?_)
  refine r_ex hX hP 1 (pc' := 10) (st' := [(2, (Ad E 1)), (1, w4)]) (lo' := [(0, (2, (Ad E 1))), (1, (0, i)), (2, (0, isin)), (3, (1, sh))]) rfl ?_
  refine r_getC hX hP rfl fl_12_107 hS (fun _ => ?_)
  refine r_ex hX hP 1 (pc' := 14) (st' := [(0, i), (2, (Ad E 31)), (1, w4)]) (lo' := [(0, (2, (Ad E 1))), (1, (0, i)), (2, (0, isin)), (3, (1, sh))]) rfl ?_
  refine r_ialdK hX hP rfl al_31 s1 (by first | decide | omega) (by first | decide | omega) (x := two_i) two_i_e ?_
  refine r_i2l hX hP rfl (by first | decide | omega) (by first | decide | omega) ?_
  refine r_ldiv hX hP rfl (by first | decide | omega) (by first | decide | omega) (by first | decide | omega) (by first | decide | omega) (by first | decide | omega) ?_
  obtain ⟨q5, q5e⟩ : ∃ q : Int, q = (Int.tdiv w4 two_i) := ⟨_, rfl⟩
  rw [← q5e]
  have q5b := td_gen q5e (by first | decide | omega)
  refine r_hvL hX (fun w6 w6a w6b w6e => ?_)
  refine r_ex hX hP 2 (pc' := 20) (st' := [(2, (Ad E 1))]) (lo' := [(0, (2, (Ad E 1))), (1, (0, i)), (2, (0, isin)), (3, (1, sh)), (5, (1, w6))]) rfl ?_
  refine r_getC hX hP rfl fl_12_101 hS (fun s7 => ?_)
  refine r_ex hX hP 1 (pc' := 24) (st' := [(0, i), (2, (Ad E 29))]) (lo' := [(0, (2, (Ad E 1))), (1, (0, i)), (2, (0, isin)), (3, (1, sh)), (5, (1, w6))]) rfl ?_
  refine r_iald hX hP rfl al_29 s7 (by first | decide | omega) (by first | decide | omega) (fun x8 x8e x8a x8b => ?_)
  refine r_if_ne hX hP rfl (tgt := 146) rfl (by first | decide | omega) (by first | decide | omega) (fun c9 => ?_) (fun c9 => ?_)
  · skip
    refine r_ex hX hP 1 (pc' := 147) (st' := [(2, (Ad E 1))]) (lo' := [(0, (2, (Ad E 1))), (1, (0, i)), (2, (0, isin)), (3, (1, sh)), (5, (1, w6))]) rfl ?_
    refine r_getC hX hP rfl fl_12_101 hS (fun _ => ?_)
    refine r_ex hX hP 1 (pc' := 151) (st' := [(0, i), (2, (Ad E 29))]) (lo' := [(0, (2, (Ad E 1))), (1, (0, i)), (2, (0, isin)), (3, (1, sh)), (5, (1, w6))]) rfl ?_
    refine r_ialdK hX hP rfl al_29 s7 (by first | decide | omega) (by first | decide | omega) (x := x8) x8e ?_
    refine r_ex hX hP 1 (pc' := 153) (st' := [(0, 1), (0, x8)]) (lo' := [(0, (2, (Ad E 1))), (1, (0, i)), (2, (0, isin)), (3, (1, sh)), (5, (1, w6))]) rfl ?_
    refine r_ic_ne hX hP rfl (tgt := 188) rfl (by first | decide | omega) (by first | decide | omega) (by first | decide | omega) (by first | decide | omega) (fun c10 => ?_) (fun c10 => ?_)
    · skip
      refine r_ex hX hP 1 (pc' := 189) (st' := [(2, (Ad E 1))]) (lo' := [(0, (2, (Ad E 1))), (1, (0, i)), (2, (0, isin)), (3, (1, sh)), (5, (1, w6))]) rfl ?_
      refine r_getC hX hP rfl fl_12_101 hS (fun _ => ?_)
      refine r_ex hX hP 1 (pc' := 193) (st' := [(0, i), (2, (Ad E 29))]) (lo' := [(0, (2, (Ad E 1))), (1, (0, i)), (2, (0, isin)), (3, (1, sh)), (5, (1, w6))]) rfl ?_
      refine r_ialdK hX hP rfl al_29 s7 (by first | decide | omega) (by first | decide | omega) (x := x8) x8e ?_
      refine r_ex hX hP 1 (pc' := 195) (st' := [(0, 2), (0, x8)]) (lo' := [(0, (2, (Ad E 1))), (1, (0, i)), (2, (0, isin)), (3, (1, sh)), (5, (1, w6))]) rfl ?_
      refine r_ic_eq hX hP rfl (tgt := 208) rfl (by first | decide | omega) (by first | decide | omega) (by first | decide | omega) (by first | decide | omega) (fun c11 => ?_) (fun c11 => ?_)
      · skip
        refine r_ex hX hP 2 (pc' := 210) (st' := [(2, (Ad E 1)), (2, (Ad E 1))]) (lo' := [(0, (2, (Ad E 1))), (1, (0, i)), (2, (0, isin)), (3, (1, sh)), (5, (1, w6))]) rfl ?_
        refine r_getL hX hP rfl fl_12_615 hS (fun gf12 gf12e gf12a gf12b => ?_)
        refine r_ex hX hP 1 (pc' := 214) (st' := [(2, (Ad E 1)), (1, gf12), (2, (Ad E 1))]) (lo' := [(0, (2, (Ad E 1))), (1, (0, i)), (2, (0, isin)), (3, (1, sh)), (5, (1, w6))]) rfl ?_
        refine r_getC hX hP rfl fl_12_101 hS (fun _ => ?_)
        refine r_ex hX hP 1 (pc' := 218) (st' := [(0, i), (2, (Ad E 29)), (1, gf12), (2, (Ad E 1))]) (lo' := [(0, (2, (Ad E 1))), (1, (0, i)), (2, (0, isin)), (3, (1, sh)), (5, (1, w6))]) rfl ?_
        refine r_ialdK hX hP rfl al_29 s7 (by first | decide | omega) (by first | decide | omega) (x := x8) x8e ?_
        refine r_ex hX hP 1 (pc' := 220) (st' := [(0, 2), (0, x8), (1, gf12), (2, (Ad E 1))]) (lo' := [(0, (2, (Ad E 1))), (1, (0, i)), (2, (0, isin)), (3, (1, sh)), (5, (1, w6))]) rfl ?_
        refine r_ic_ne hX hP rfl (tgt := 228) rfl (by first | decide | omega) (by first | decide | omega) (by first | decide | omega) (by first | decide | omega) (fun c13 => ?_) (fun c13 => ?_)
        · skip
          exfalso; omega
        · skip
          refine r_ex hX hP 3 (pc' := 232) (st' := [(1, (gf12 + w6)), (2, (Ad E 1))]) (lo' := [(0, (2, (Ad E 1))), (1, (0, i)), (2, (0, isin)), (3, (1, sh)), (5, (1, w6))]) rfl ?_
          refine r_hvL hX (fun w14 w14a w14b w14e => ?_)
          refine r_putLK hX hP rfl fp_12_615 hS (by first | decide | omega) (by first | decide | omega) (fun h15 => ?_)
          refine r_ex hX hP 1 (pc' := 258) (st' := []) (lo' := [(0, (2, (Ad E 1))), (1, (0, i)), (2, (0, isin)), (3, (1, sh)), (5, (1, w6))]) rfl ?_
          exact r_retV hX hP rfl rfl (by first | decide | omega) (by first | decide | omega) ⟨rfl, ⟨_, (hq_up (hq_refl _ _ _) rfl).symm⟩, rfl, trivial⟩
      · skip
        refine r_ex hX hP 1 (pc' := 199) (st' := [(2, (Ad E 1))]) (lo' := [(0, (2, (Ad E 1))), (1, (0, i)), (2, (0, isin)), (3, (1, sh)), (5, (1, w6))]) rfl ?_
        refine r_getC hX hP rfl fl_12_101 hS (fun _ => ?_)
        refine r_ex hX hP 1 (pc' := 203) (st' := [(0, i), (2, (Ad E 29))]) (lo' := [(0, (2, (Ad E 1))), (1, (0, i)), (2, (0, isin)), (3, (1, sh)), (5, (1, w6))]) rfl ?_
        refine r_ialdK hX hP rfl al_29 s7 (by first | decide | omega) (by first | decide | omega) (x := x8) x8e ?_
        refine r_ex hX hP 1 (pc' := 205) (st' := [(0, 3), (0, x8)]) (lo' := [(0, (2, (Ad E 1))), (1, (0, i)), (2, (0, isin)), (3, (1, sh)), (5, (1, w6))]) rfl ?_
        refine r_ic_ne hX hP rfl (tgt := 238) rfl (by first | decide | omega) (by first | decide | omega) (by first | decide | omega) (by first | decide | omega) (fun c16 => ?_) (fun c16 => ?_)
        · skip
          refine r_ex hX hP 1 (pc' := 239) (st' := [(2, (Ad E 1))]) (lo' := [(0, (2, (Ad E 1))), (1, (0, i)), (2, (0, isin)), (3, (1, sh)), (5, (1, w6))]) rfl ?_
          refine r_getC hX hP rfl fl_12_101 hS (fun _ => ?_)
          refine r_ex hX hP 1 (pc' := 243) (st' := [(0, i), (2, (Ad E 29))]) (lo' := [(0, (2, (Ad E 1))), (1, (0, i)), (2, (0, isin)), (3, (1, sh)), (5, (1, w6))]) rfl ?_
          refine r_ialdK hX hP rfl al_29 s7 (by first | decide | omega) (by first | decide | omega) (x := x8) x8e ?_
          refine r_ex hX hP 1 (pc' := 245) (st' := [(0, 5), (0, x8)]) (lo' := [(0, (2, (Ad E 1))), (1, (0, i)), (2, (0, isin)), (3, (1, sh)), (5, (1, w6))]) rfl ?_
          refine r_ic_ne hX hP rfl (tgt := 258) rfl (by first | decide | omega) (by first | decide | omega) (by first | decide | omega) (by first | decide | omega) (fun c17 => ?_) (fun c17 => ?_)
          · skip
            exact r_retV hX hP rfl rfl (by first | decide | omega) (by first | decide | omega) ⟨rfl, ⟨_, (hq_refl _ _ _).symm⟩, rfl, trivial⟩
          · skip
            refine r_ex hX hP 2 (pc' := 250) (st' := [(2, (Ad E 1)), (2, (Ad E 1))]) (lo' := [(0, (2, (Ad E 1))), (1, (0, i)), (2, (0, isin)), (3, (1, sh)), (5, (1, w6))]) rfl ?_
            refine r_getC hX hP rfl fl_12_104 hS (fun _ => ?_)
            refine r_ex hX hP 1 (pc' := 254) (st' := [(0, i), (2, (Ad E 30)), (2, (Ad E 1))]) (lo' := [(0, (2, (Ad E 1))), (1, (0, i)), (2, (0, isin)), (3, (1, sh)), (5, (1, w6))]) rfl ?_
            refine r_ialdK hX hP rfl al_30 s2 (by first | decide | omega) (by first | decide | omega) (x := x3) x3e ?_
            refine r_putIK hX hP rfl fp_12_566 hS (by first | decide | omega) (by first | decide | omega) (fun h18 => ?_)
            exact r_retV hX hP rfl rfl (by first | decide | omega) (by first | decide | omega) ⟨rfl, ⟨_, (hq_up (hq_refl _ _ _) rfl).symm⟩, rfl, trivial⟩
        · skip
          refine r_ex hX hP 2 (pc' := 210) (st' := [(2, (Ad E 1)), (2, (Ad E 1))]) (lo' := [(0, (2, (Ad E 1))), (1, (0, i)), (2, (0, isin)), (3, (1, sh)), (5, (1, w6))]) rfl ?_
          refine r_getL hX hP rfl fl_12_615 hS (fun gf19 gf19e gf19a gf19b => ?_)
          refine r_ex hX hP 1 (pc' := 214) (st' := [(2, (Ad E 1)), (1, gf19), (2, (Ad E 1))]) (lo' := [(0, (2, (Ad E 1))), (1, (0, i)), (2, (0, isin)), (3, (1, sh)), (5, (1, w6))]) rfl ?_
          refine r_getC hX hP rfl fl_12_101 hS (fun _ => ?_)
          refine r_ex hX hP 1 (pc' := 218) (st' := [(0, i), (2, (Ad E 29)), (1, gf19), (2, (Ad E 1))]) (lo' := [(0, (2, (Ad E 1))), (1, (0, i)), (2, (0, isin)), (3, (1, sh)), (5, (1, w6))]) rfl ?_
          refine r_ialdK hX hP rfl al_29 s7 (by first | decide | omega) (by first | decide | omega) (x := x8) x8e ?_
          refine r_ex hX hP 1 (pc' := 220) (st' := [(0, 2), (0, x8), (1, gf19), (2, (Ad E 1))]) (lo' := [(0, (2, (Ad E 1))), (1, (0, i)), (2, (0, isin)), (3, (1, sh)), (5, (1, w6))]) rfl ?_
          refine r_ic_ne hX hP rfl (tgt := 228) rfl (by first | decide | omega) (by first | decide | omega) (by first | decide | omega) (by first | decide | omega) (fun c20 => ?_) (fun c20 => ?_)
          · skip
            refine r_ex hX hP 2 (pc' := 231) (st' := [(1, (-w6)), (1, gf19), (2, (Ad E 1))]) (lo' := [(0, (2, (Ad E 1))), (1, (0, i)), (2, (0, isin)), (3, (1, sh)), (5, (1, w6))]) rfl ?_
            refine r_hvL hX (fun w21 w21a w21b w21e => ?_)
            refine r_ex hX hP 1 (pc' := 232) (st' := [(1, (gf19 + w21)), (2, (Ad E 1))]) (lo' := [(0, (2, (Ad E 1))), (1, (0, i)), (2, (0, isin)), (3, (1, sh)), (5, (1, w6))]) rfl ?_
            refine r_hvL hX (fun w22 w22a w22b w22e => ?_)
            refine r_putLK hX hP rfl fp_12_615 hS (by first | decide | omega) (by first | decide | omega) (fun h23 => ?_)
            refine r_ex hX hP 1 (pc' := 258) (st' := []) (lo' := [(0, (2, (Ad E 1))), (1, (0, i)), (2, (0, isin)), (3, (1, sh)), (5, (1, w6))]) rfl ?_
            exact r_retV hX hP rfl rfl (by first | decide | omega) (by first | decide | omega) ⟨rfl, ⟨_, (hq_up (hq_refl _ _ _) rfl).symm⟩, rfl, trivial⟩
          · skip
            exfalso; omega
    · skip
      refine r_ex hX hP 1 (pc' := 157) (st' := [(0, isin)]) (lo' := [(0, (2, (Ad E 1))), (1, (0, i)), (2, (0, isin)), (3, (1, sh)), (5, (1, w6))]) rfl ?_
      refine r_if_eq hX hP rfl (tgt := 174) rfl (by first | decide | omega) (by first | decide | omega) (fun c24 => ?_) (fun c24 => ?_)
      · skip
        refine r_ex hX hP 2 (pc' := 176) (st' := [(2, (Ad E 1)), (2, (Ad E 1))]) (lo' := [(0, (2, (Ad E 1))), (1, (0, i)), (2, (0, isin)), (3, (1, sh)), (5, (1, w6))]) rfl ?_
        refine r_getL hX hP rfl fl_12_621 hS (fun gf25 gf25e gf25a gf25b => ?_)
        refine r_ex hX hP 2 (pc' := 182) (st' := [(1, (gf25 + w6)), (2, (Ad E 1))]) (lo' := [(0, (2, (Ad E 1))), (1, (0, i)), (2, (0, isin)), (3, (1, sh)), (5, (1, w6))]) rfl ?_
        refine r_hvL hX (fun w26 w26a w26b w26e => ?_)
        refine r_putLK hX hP rfl fp_12_621 hS (by first | decide | omega) (by first | decide | omega) (fun h27 => ?_)
        refine r_ex hX hP 1 (pc' := 258) (st' := []) (lo' := [(0, (2, (Ad E 1))), (1, (0, i)), (2, (0, isin)), (3, (1, sh)), (5, (1, w6))]) rfl ?_
        exact r_retV hX hP rfl rfl (by first | decide | omega) (by first | decide | omega) ⟨rfl, ⟨_, (hq_up (hq_refl _ _ _) rfl).symm⟩, rfl, trivial⟩
      · skip
        refine r_ex hX hP 2 (pc' := 162) (st' := [(2, (Ad E 1)), (2, (Ad E 1))]) (lo' := [(0, (2, (Ad E 1))), (1, (0, i)), (2, (0, isin)), (3, (1, sh)), (5, (1, w6))]) rfl ?_
        refine r_getL hX hP rfl fl_12_618 hS (fun gf28 gf28e gf28a gf28b => ?_)
        refine r_ex hX hP 2 (pc' := 168) (st' := [(1, (gf28 + w6)), (2, (Ad E 1))]) (lo' := [(0, (2, (Ad E 1))), (1, (0, i)), (2, (0, isin)), (3, (1, sh)), (5, (1, w6))]) rfl ?_
        refine r_hvL hX (fun w29 w29a w29b w29e => ?_)
        refine r_putLK hX hP rfl fp_12_618 hS (by first | decide | omega) (by first | decide | omega) (fun h30 => ?_)
        refine r_ex hX hP 1 (pc' := 258) (st' := []) (lo' := [(0, (2, (Ad E 1))), (1, (0, i)), (2, (0, isin)), (3, (1, sh)), (5, (1, w6))]) rfl ?_
        exact r_retV hX hP rfl rfl (by first | decide | omega) (by first | decide | omega) ⟨rfl, ⟨_, (hq_up (hq_refl _ _ _) rfl).symm⟩, rfl, trivial⟩
  · skip
    refine r_ex hX hP 2 (pc' := 30) (st' := [(2, (Ad E 1)), (1, sh)]) (lo' := [(0, (2, (Ad E 1))), (1, (0, i)), (2, (0, isin)), (3, (1, sh)), (5, (1, w6))]) rfl ?_
    refine r_getC hX hP rfl fl_12_104 hS (fun _ => ?_)
    refine r_ex hX hP 1 (pc' := 34) (st' := [(0, i), (2, (Ad E 30)), (1, sh)]) (lo' := [(0, (2, (Ad E 1))), (1, (0, i)), (2, (0, isin)), (3, (1, sh)), (5, (1, w6))]) rfl ?_
    refine r_ialdK hX hP rfl al_30 s2 (by first | decide | omega) (by first | decide | omega) (x := x3) x3e ?_
    refine r_i2l hX hP rfl (by first | decide | omega) (by first | decide | omega) ?_
    refine r_ex hX hP 1 (pc' := 37) (st' := [(1, (sh * x3))]) (lo' := [(0, (2, (Ad E 1))), (1, (0, i)), (2, (0, isin)), (3, (1, sh)), (5, (1, w6))]) rfl ?_
    refine r_hvL hX (fun w31 w31a w31b w31e => ?_)
    refine r_ex hX hP 1 (pc' := 38) (st' := [(2, (Ad E 1)), (1, w31)]) (lo' := [(0, (2, (Ad E 1))), (1, (0, i)), (2, (0, isin)), (3, (1, sh)), (5, (1, w6))]) rfl ?_
    refine r_getC hX hP rfl fl_12_107 hS (fun _ => ?_)
    refine r_ex hX hP 1 (pc' := 42) (st' := [(0, i), (2, (Ad E 31)), (1, w31)]) (lo' := [(0, (2, (Ad E 1))), (1, (0, i)), (2, (0, isin)), (3, (1, sh)), (5, (1, w6))]) rfl ?_
    refine r_ialdK hX hP rfl al_31 s1 (by first | decide | omega) (by first | decide | omega) (x := two_i) two_i_e ?_
    refine r_i2l hX hP rfl (by first | decide | omega) (by first | decide | omega) ?_
    refine r_lrem hX hP rfl (by first | decide | omega) (by first | decide | omega) (by first | decide | omega) (by first | decide | omega) (by first | decide | omega) ?_
    obtain ⟨q32, q32e⟩ : ∃ q : Int, q = (Int.tmod w31 two_i) := ⟨_, rfl⟩
    rw [← q32e]
    have q32b := tm_gen q32e (by first | decide | omega)
    refine r_ex hX hP 2 (pc' := 48) (st' := [(2, (Ad E 1))]) (lo' := [(0, (2, (Ad E 1))), (1, (0, i)), (2, (0, isin)), (3, (1, sh)), (5, (1, w6)), (7, (1, q32))]) rfl ?_
    refine r_getC hX hP rfl fl_12_292 hS (fun s33 => ?_)
    refine r_ex hX hP 1 (pc' := 52) (st' := [(2, (Ad E 1)), (2, (Ad E 89))]) (lo' := [(0, (2, (Ad E 1))), (1, (0, i)), (2, (0, isin)), (3, (1, sh)), (5, (1, w6)), (7, (1, q32))]) rfl ?_
    refine r_getC hX hP rfl fl_12_110 hS (fun s34 => ?_)
    refine r_ex hX hP 1 (pc' := 56) (st' := [(0, i), (2, (Ad E 32)), (2, (Ad E 89))]) (lo' := [(0, (2, (Ad E 1))), (1, (0, i)), (2, (0, isin)), (3, (1, sh)), (5, (1, w6)), (7, (1, q32))]) rfl ?_
    refine r_iald hX hP rfl al_32 s34 (by first | decide | omega) (by first | decide | omega) (fun x35 x35e x35a x35b => ?_)
    refine r_ex hX hP 1 (pc' := 58) (st' := [(0, x35), (2, (Ad E 89)), (0, x35), (2, (Ad E 89))]) (lo' := [(0, (2, (Ad E 1))), (1, (0, i)), (2, (0, isin)), (3, (1, sh)), (5, (1, w6)), (7, (1, q32))]) rfl ?_
    refine r_lald hX hP rfl al_89 s33 (by first | decide | omega) (by first | decide | omega) (fun x36 x36e x36a x36b => ?_)
    refine r_ex hX hP 2 (pc' := 62) (st' := [(2, (Ad E 1)), (1, w6), (1, x36), (0, x35), (2, (Ad E 89))]) (lo' := [(0, (2, (Ad E 1))), (1, (0, i)), (2, (0, isin)), (3, (1, sh)), (5, (1, w6)), (7, (1, q32))]) rfl ?_
    refine r_getI hX hP rfl fl_12_566 hS (fun rf37 rf37e rf37a rf37b => ?_)
    refine r_ex hX hP 1 (pc' := 67) (st' := [(0, (-2)), (0, rf37), (1, w6), (1, x36), (0, x35), (2, (Ad E 89))]) (lo' := [(0, (2, (Ad E 1))), (1, (0, i)), (2, (0, isin)), (3, (1, sh)), (5, (1, w6)), (7, (1, q32))]) rfl ?_
    refine r_ic_ne hX hP rfl (tgt := 77) rfl (by first | decide | omega) (by first | decide | omega) (by first | decide | omega) (by first | decide | omega) (fun c38 => ?_) (fun c38 => ?_)
    · skip
      refine r_ex hX hP 1 (pc' := 78) (st' := [(2, (Ad E 1)), (1, w6), (1, x36), (0, x35), (2, (Ad E 89))]) (lo' := [(0, (2, (Ad E 1))), (1, (0, i)), (2, (0, isin)), (3, (1, sh)), (5, (1, w6)), (7, (1, q32))]) rfl ?_
      refine r_getKI hX hP rfl fl_12_566 hS (x := rf37) rf37e ?_
      refine r_ex hX hP 1 (pc' := 83) (st' := [(0, (-3)), (0, rf37), (1, w6), (1, x36), (0, x35), (2, (Ad E 89))]) (lo' := [(0, (2, (Ad E 1))), (1, (0, i)), (2, (0, isin)), (3, (1, sh)), (5, (1, w6)), (7, (1, q32))]) rfl ?_
      refine r_ic_ne hX hP rfl (tgt := 107) rfl (by first | decide | omega) (by first | decide | omega) (by first | decide | omega) (by first | decide | omega) (fun c39 => ?_) (fun c39 => ?_)
      · skip
        refine r_ex hX hP 3 (pc' := 110) (st' := [(1, (x36 + (w6 + 0))), (0, x35), (2, (Ad E 89))]) (lo' := [(0, (2, (Ad E 1))), (1, (0, i)), (2, (0, isin)), (3, (1, sh)), (5, (1, w6)), (7, (1, q32))]) rfl ?_
        refine r_hvL hX (fun w40 w40a w40b w40e => ?_)
        refine r_lastK hX hP rfl al_89 s33 (by first | decide | omega) (by first | decide | omega) (by first | decide | omega) (by first | decide | omega) (fun h41 => ?_)
        refine r_ex hX hP 1 (pc' := 112) (st' := [(2, (Ad E 1))]) (lo' := [(0, (2, (Ad E 1))), (1, (0, i)), (2, (0, isin)), (3, (1, sh)), (5, (1, w6)), (7, (1, q32))]) rfl ?_
        refine r_getKI hX hP rfl fl_12_566 hS (x := rf37) rf37e ?_
        refine r_if_lt hX hP rfl (tgt := 143) rfl (by first | decide | omega) (by first | decide | omega) (fun c42 => ?_) (fun c42 => ?_)
        · skip
          refine r_ex hX hP 1 (pc' := 258) (st' := []) (lo' := [(0, (2, (Ad E 1))), (1, (0, i)), (2, (0, isin)), (3, (1, sh)), (5, (1, w6)), (7, (1, q32))]) rfl ?_
          exact r_retV hX hP rfl rfl (by first | decide | omega) (by first | decide | omega) ⟨rfl, ⟨_, (hq_up (hq_refl _ _ _) rfl).symm⟩, rfl, trivial⟩
        · skip
          refine r_ex hX hP 2 (pc' := 120) (st' := [(2, (Ad E 1)), (2, (Ad E 1))]) (lo' := [(0, (2, (Ad E 1))), (1, (0, i)), (2, (0, isin)), (3, (1, sh)), (5, (1, w6)), (7, (1, q32))]) rfl ?_
          refine r_getL hX hP rfl fl_12_615 hS (fun gf43 gf43e gf43a gf43b => ?_)
          refine r_ex hX hP 1 (pc' := 124) (st' := [(2, (Ad E 1)), (1, gf43), (2, (Ad E 1))]) (lo' := [(0, (2, (Ad E 1))), (1, (0, i)), (2, (0, isin)), (3, (1, sh)), (5, (1, w6)), (7, (1, q32))]) rfl ?_
          refine r_getKI hX hP rfl fl_12_566 hS (x := rf37) rf37e ?_
          refine r_i2l hX hP rfl (by first | decide | omega) (by first | decide | omega) ?_
          refine r_ex hX hP 2 (pc' := 131) (st' := [(1, (rf37 * q32)), (1, gf43), (2, (Ad E 1))]) (lo' := [(0, (2, (Ad E 1))), (1, (0, i)), (2, (0, isin)), (3, (1, sh)), (5, (1, w6)), (7, (1, q32))]) rfl ?_
          refine r_hvL hX (fun w44 w44a w44b w44e => ?_)
          refine r_ex hX hP 1 (pc' := 132) (st' := [(2, (Ad E 1)), (1, w44), (1, gf43), (2, (Ad E 1))]) (lo' := [(0, (2, (Ad E 1))), (1, (0, i)), (2, (0, isin)), (3, (1, sh)), (5, (1, w6)), (7, (1, q32))]) rfl ?_
          refine r_getC hX hP rfl fl_12_107 hS (fun _ => ?_)
          refine r_ex hX hP 1 (pc' := 136) (st' := [(0, i), (2, (Ad E 31)), (1, w44), (1, gf43), (2, (Ad E 1))]) (lo' := [(0, (2, (Ad E 1))), (1, (0, i)), (2, (0, isin)), (3, (1, sh)), (5, (1, w6)), (7, (1, q32))]) rfl ?_
          refine r_ialdK hX hP rfl al_31 s1 (by first | decide | omega) (by first | decide | omega) (x := two_i) two_i_e ?_
          refine r_i2l hX hP rfl (by first | decide | omega) (by first | decide | omega) ?_
          refine r_ldiv hX hP rfl (by first | decide | omega) (by first | decide | omega) (by first | decide | omega) (by first | decide | omega) (by first | decide | omega) ?_
          obtain ⟨q45, q45e⟩ : ∃ q : Int, q = (Int.tdiv w44 two_i) := ⟨_, rfl⟩
          rw [← q45e]
          have q45b := td_gen q45e (by first | decide | omega)
          refine r_hvL hX (fun w46 w46a w46b w46e => ?_)
          refine r_ex hX hP 1 (pc' := 140) (st' := [(1, (gf43 + w46)), (2, (Ad E 1))]) (lo' := [(0, (2, (Ad E 1))), (1, (0, i)), (2, (0, isin)), (3, (1, sh)), (5, (1, w6)), (7, (1, q32))]) rfl ?_
          refine r_hvL hX (fun w47 w47a w47b w47e => ?_)
          refine r_putLK hX hP rfl fp_12_615 hS (by first | decide | omega) (by first | decide | omega) (fun h48 => ?_)
          refine r_ex hX hP 1 (pc' := 258) (st' := []) (lo' := [(0, (2, (Ad E 1))), (1, (0, i)), (2, (0, isin)), (3, (1, sh)), (5, (1, w6)), (7, (1, q32))]) rfl ?_
          exact r_retV hX hP rfl rfl (by first | decide | omega) (by first | decide | omega) ⟨rfl, ⟨_, (hq_up (hq_up (hq_refl _ _ _) rfl) rfl).symm⟩, rfl, trivial⟩
      · skip
        refine r_ldc2 hX hP rfl (v := 2) (tbg sg10 113 rfl rfl) ?_
        refine r_ex hX hP 3 (pc' := 93) (st' := [(2, (Ad E 1)), (1, (2 * q32)), (1, w6), (1, x36), (0, x35), (2, (Ad E 89))]) (lo' := [(0, (2, (Ad E 1))), (1, (0, i)), (2, (0, isin)), (3, (1, sh)), (5, (1, w6)), (7, (1, q32))]) rfl ?_
        refine r_getC hX hP rfl fl_12_107 hS (fun _ => ?_)
        refine r_ex hX hP 1 (pc' := 97) (st' := [(0, i), (2, (Ad E 31)), (1, (2 * q32)), (1, w6), (1, x36), (0, x35), (2, (Ad E 89))]) (lo' := [(0, (2, (Ad E 1))), (1, (0, i)), (2, (0, isin)), (3, (1, sh)), (5, (1, w6)), (7, (1, q32))]) rfl ?_
        refine r_ialdK hX hP rfl al_31 s1 (by first | decide | omega) (by first | decide | omega) (x := two_i) two_i_e ?_
        refine r_i2l hX hP rfl (by first | decide | omega) (by first | decide | omega) ?_
        refine r_lc_lt hX hP rfl rfl (tgt := 107) rfl (by first | decide | omega) (by first | decide | omega) (by first | decide | omega) (by first | decide | omega) (fun c49 => ?_) (fun c49 => ?_)
        · skip
          refine r_ex hX hP 3 (pc' := 110) (st' := [(1, (x36 + (w6 + 0))), (0, x35), (2, (Ad E 89))]) (lo' := [(0, (2, (Ad E 1))), (1, (0, i)), (2, (0, isin)), (3, (1, sh)), (5, (1, w6)), (7, (1, q32))]) rfl ?_
          refine r_hvL hX (fun w50 w50a w50b w50e => ?_)
          refine r_lastK hX hP rfl al_89 s33 (by first | decide | omega) (by first | decide | omega) (by first | decide | omega) (by first | decide | omega) (fun h51 => ?_)
          refine r_ex hX hP 1 (pc' := 112) (st' := [(2, (Ad E 1))]) (lo' := [(0, (2, (Ad E 1))), (1, (0, i)), (2, (0, isin)), (3, (1, sh)), (5, (1, w6)), (7, (1, q32))]) rfl ?_
          refine r_getKI hX hP rfl fl_12_566 hS (x := rf37) rf37e ?_
          refine r_if_lt hX hP rfl (tgt := 143) rfl (by first | decide | omega) (by first | decide | omega) (fun c52 => ?_) (fun c52 => ?_)
          · skip
            refine r_ex hX hP 1 (pc' := 258) (st' := []) (lo' := [(0, (2, (Ad E 1))), (1, (0, i)), (2, (0, isin)), (3, (1, sh)), (5, (1, w6)), (7, (1, q32))]) rfl ?_
            exact r_retV hX hP rfl rfl (by first | decide | omega) (by first | decide | omega) ⟨rfl, ⟨_, (hq_up (hq_refl _ _ _) rfl).symm⟩, rfl, trivial⟩
          · skip
            exfalso; omega
        · skip
          refine r_ex hX hP 3 (pc' := 109) (st' := [(1, (w6 + 1)), (1, x36), (0, x35), (2, (Ad E 89))]) (lo' := [(0, (2, (Ad E 1))), (1, (0, i)), (2, (0, isin)), (3, (1, sh)), (5, (1, w6)), (7, (1, q32))]) rfl ?_
          refine r_hvL hX (fun w53 w53a w53b w53e => ?_)
          refine r_ex hX hP 1 (pc' := 110) (st' := [(1, (x36 + w53)), (0, x35), (2, (Ad E 89))]) (lo' := [(0, (2, (Ad E 1))), (1, (0, i)), (2, (0, isin)), (3, (1, sh)), (5, (1, w6)), (7, (1, q32))]) rfl ?_
          refine r_hvL hX (fun w54 w54a w54b w54e => ?_)
          refine r_lastK hX hP rfl al_89 s33 (by first | decide | omega) (by first | decide | omega) (by first | decide | omega) (by first | decide | omega) (fun h55 => ?_)
          refine r_ex hX hP 1 (pc' := 112) (st' := [(2, (Ad E 1))]) (lo' := [(0, (2, (Ad E 1))), (1, (0, i)), (2, (0, isin)), (3, (1, sh)), (5, (1, w6)), (7, (1, q32))]) rfl ?_
          refine r_getKI hX hP rfl fl_12_566 hS (x := rf37) rf37e ?_
          refine r_if_lt hX hP rfl (tgt := 143) rfl (by first | decide | omega) (by first | decide | omega) (fun c56 => ?_) (fun c56 => ?_)
          · skip
            refine r_ex hX hP 1 (pc' := 258) (st' := []) (lo' := [(0, (2, (Ad E 1))), (1, (0, i)), (2, (0, isin)), (3, (1, sh)), (5, (1, w6)), (7, (1, q32))]) rfl ?_
            exact r_retV hX hP rfl rfl (by first | decide | omega) (by first | decide | omega) ⟨rfl, ⟨_, (hq_up (hq_refl _ _ _) rfl).symm⟩, rfl, trivial⟩
          · skip
            exfalso; omega
    · skip
      refine r_ex hX hP 2 (pc' := 73) (st' := [(1, 0), (1, q32), (1, w6), (1, x36), (0, x35), (2, (Ad E 89))]) (lo' := [(0, (2, (Ad E 1))), (1, (0, i)), (2, (0, isin)), (3, (1, sh)), (5, (1, w6)), (7, (1, q32))]) rfl ?_
      refine r_lc_gt hX hP rfl rfl (tgt := 103) rfl (by first | decide | omega) (by first | decide | omega) (by first | decide | omega) (by first | decide | omega) (fun c57 => ?_) (fun c57 => ?_)
      · skip
        refine r_ex hX hP 3 (pc' := 109) (st' := [(1, (w6 + 1)), (1, x36), (0, x35), (2, (Ad E 89))]) (lo' := [(0, (2, (Ad E 1))), (1, (0, i)), (2, (0, isin)), (3, (1, sh)), (5, (1, w6)), (7, (1, q32))]) rfl ?_
        refine r_hvL hX (fun w58 w58a w58b w58e => ?_)
        refine r_ex hX hP 1 (pc' := 110) (st' := [(1, (x36 + w58)), (0, x35), (2, (Ad E 89))]) (lo' := [(0, (2, (Ad E 1))), (1, (0, i)), (2, (0, isin)), (3, (1, sh)), (5, (1, w6)), (7, (1, q32))]) rfl ?_
        refine r_hvL hX (fun w59 w59a w59b w59e => ?_)
        refine r_lastK hX hP rfl al_89 s33 (by first | decide | omega) (by first | decide | omega) (by first | decide | omega) (by first | decide | omega) (fun h60 => ?_)
        refine r_ex hX hP 1 (pc' := 112) (st' := [(2, (Ad E 1))]) (lo' := [(0, (2, (Ad E 1))), (1, (0, i)), (2, (0, isin)), (3, (1, sh)), (5, (1, w6)), (7, (1, q32))]) rfl ?_
        refine r_getKI hX hP rfl fl_12_566 hS (x := rf37) rf37e ?_
        refine r_if_lt hX hP rfl (tgt := 143) rfl (by first | decide | omega) (by first | decide | omega) (fun c61 => ?_) (fun c61 => ?_)
        · skip
          refine r_ex hX hP 1 (pc' := 258) (st' := []) (lo' := [(0, (2, (Ad E 1))), (1, (0, i)), (2, (0, isin)), (3, (1, sh)), (5, (1, w6)), (7, (1, q32))]) rfl ?_
          exact r_retV hX hP rfl rfl (by first | decide | omega) (by first | decide | omega) ⟨rfl, ⟨_, (hq_up (hq_refl _ _ _) rfl).symm⟩, rfl, trivial⟩
        · skip
          exfalso; omega
      · skip
        refine r_ex hX hP 1 (pc' := 78) (st' := [(2, (Ad E 1)), (1, w6), (1, x36), (0, x35), (2, (Ad E 89))]) (lo' := [(0, (2, (Ad E 1))), (1, (0, i)), (2, (0, isin)), (3, (1, sh)), (5, (1, w6)), (7, (1, q32))]) rfl ?_
        refine r_getKI hX hP rfl fl_12_566 hS (x := rf37) rf37e ?_
        refine r_ex hX hP 1 (pc' := 83) (st' := [(0, (-3)), (0, rf37), (1, w6), (1, x36), (0, x35), (2, (Ad E 89))]) (lo' := [(0, (2, (Ad E 1))), (1, (0, i)), (2, (0, isin)), (3, (1, sh)), (5, (1, w6)), (7, (1, q32))]) rfl ?_
        refine r_ic_ne hX hP rfl (tgt := 107) rfl (by first | decide | omega) (by first | decide | omega) (by first | decide | omega) (by first | decide | omega) (fun c62 => ?_) (fun c62 => ?_)
        · skip
          refine r_ex hX hP 3 (pc' := 110) (st' := [(1, (x36 + (w6 + 0))), (0, x35), (2, (Ad E 89))]) (lo' := [(0, (2, (Ad E 1))), (1, (0, i)), (2, (0, isin)), (3, (1, sh)), (5, (1, w6)), (7, (1, q32))]) rfl ?_
          refine r_hvL hX (fun w63 w63a w63b w63e => ?_)
          refine r_lastK hX hP rfl al_89 s33 (by first | decide | omega) (by first | decide | omega) (by first | decide | omega) (by first | decide | omega) (fun h64 => ?_)
          refine r_ex hX hP 1 (pc' := 112) (st' := [(2, (Ad E 1))]) (lo' := [(0, (2, (Ad E 1))), (1, (0, i)), (2, (0, isin)), (3, (1, sh)), (5, (1, w6)), (7, (1, q32))]) rfl ?_
          refine r_getKI hX hP rfl fl_12_566 hS (x := rf37) rf37e ?_
          refine r_if_lt hX hP rfl (tgt := 143) rfl (by first | decide | omega) (by first | decide | omega) (fun c65 => ?_) (fun c65 => ?_)
          · skip
            refine r_ex hX hP 1 (pc' := 258) (st' := []) (lo' := [(0, (2, (Ad E 1))), (1, (0, i)), (2, (0, isin)), (3, (1, sh)), (5, (1, w6)), (7, (1, q32))]) rfl ?_
            exact r_retV hX hP rfl rfl (by first | decide | omega) (by first | decide | omega) ⟨rfl, ⟨_, (hq_up (hq_refl _ _ _) rfl).symm⟩, rfl, trivial⟩
          · skip
            exfalso; omega
        · skip
          exfalso; omega
set_option maxRecDepth 100000 in
set_option maxHeartbeats 4000000 in
theorem c_X12_brings (E : En) (S : Sg) : ∀ (nR : Nat) (G : Gh) (e fr to isin ch sh : Int) (hS : S (Ad E 1) = 1) (events : Int) (events_e : events = G 1 (Ad E 1) 9) (cm : Int) (cm_e : cm = G 26 (Ad E 26) e) (e_a : 0 ≤ e) (e_b : e ≤ 15) (fr_a : 0 ≤ fr) (fr_b : fr ≤ 30) (to_a : 0 ≤ to) (to_b : to ≤ 30) (isin_a : 0 ≤ isin) (isin_b : isin ≤ 1) (ch_a : (-2147483648) ≤ ch) (ch_b : ch ≤ 2147483647) (sh_a : (-9223372036854775808) ≤ sh) (sh_b : sh ≤ 9223372036854775807) (pre0 : e < events) (pre1 : to ≤ cm) (mi : MI E G) (mR : 30 - fr < (nR : Int)), Calls E mX12_brings [(2, (Ad E 1)), (0, e), (0, fr), (0, to), (0, isin), (0, ch), (1, sh)] S G (2 + nR) 0 0 (fun r S' G' => S = S' ∧ (∃ G1, hv [120, 122, 123, 124] [89] G G1 = G') ∧ r = none ∧ True) := by
  intro nR
  induction nR with
  | zero => intro G e fr to isin ch sh hS events events_e cm cm_e e_a e_b fr_a fr_b to_a to_b isin_a isin_b ch_a ch_b sh_a sh_b pre0 pre1 mi mR; exfalso; omega
  | succ nR ihR =>
    intro G e fr to isin ch sh hS events events_e cm cm_e e_a e_b fr_a fr_b to_a to_b isin_a isin_b ch_a ch_b sh_a sh_b pre0 pre1 mi mR
    refine calls_by [(0, (2, (Ad E 1))), (1, (0, e)), (2, (0, fr)), (3, (0, to)), (4, (0, isin)), (5, (0, ch)), (6, (1, sh))] rfl rfl (Nat.le_of_ble_eq_true rfl) (fun X hX => ?_)
    have hP := hPX12_brings
    refine r_peekI hX (tl1 9 rfl (by decide)) hS (fun events_o events_oe events_oa events_ob => ?_)
    obtain rfl : events = events_o := events_e.trans events_oe.symm
    refine r_labC hX (tl1 38 rfl (by decide)) hS (fun s1 => ?_)
    refine r_apeekI hX al_26 s1 (i := e) (by first | decide | omega) (by first | decide | omega) (fun cm_o cm_oe cm_oa cm_ob => ?_)
    obtain rfl : cm = cm_o := cm_e.trans cm_oe.symm
    refine r_ex hX hP 2 (pc' := 3) (st' := []) (lo' := [(0, (2, (Ad E 1))), (1, (0, e)), (2, (0, fr)), (3, (0, to)), (4, (0, isin)), (5, (0, ch)), (6, (1, sh)), (8, (0, fr))]) rfl ?_
    have loop3 : ∀ (nF : Nat) (l8_h3 : Int) (Gh3 : Gh), 0 ≤ l8_h3 → l8_h3 ≤ 30 → fr ≤ l8_h3 → 30 - l8_h3 < (nF : Int) → X 0 0 3 [] [(0, (2, (Ad E 1))), (1, (0, e)), (2, (0, fr)), (3, (0, to)), (4, (0, isin)), (5, (0, ch)), (6, (1, sh)), (8, (0, l8_h3))] S (hv [120, 122, 123, 124] [89] G Gh3) := by
      intro nF
      induction nF with
      | zero => intro l8_h3 Gh3 yh3_0 yh3_1 yh3_2 ym3; exfalso; omega
      | succ nF ih3 =>
        intro l8_h3 Gh3 yh3_0 yh3_1 yh3_2 ym3
        refine r_ex hX hP 2 (pc' := 6) (st' := [(0, to), (0, l8_h3)]) (lo' := [(0, (2, (Ad E 1))), (1, (0, e)), (2, (0, fr)), (3, (0, to)), (4, (0, isin)), (5, (0, ch)), (6, (1, sh)), (8, (0, l8_h3))]) rfl ?_
        refine r_ic_ge hX hP rfl (tgt := 211) rfl (by first | decide | omega) (by first | decide | omega) (by first | decide | omega) (by first | decide | omega) (fun c2 => ?_) (fun c2 => ?_)
        · skip
          exact r_retV hX hP rfl rfl (by first | decide | omega) (by first | decide | omega) ⟨rfl, ⟨_, (hq_loop (hq_refl _ _ _) rfl).symm⟩, rfl, trivial⟩
        · skip
          refine r_ex hX hP 6 (pc' := 18) (st' := []) (lo' := [(0, (2, (Ad E 1))), (1, (0, e)), (2, (0, fr)), (3, (0, to)), (4, (0, isin)), (5, (0, ch)), (6, (1, sh)), (8, (0, l8_h3)), (9, (0, ((30 * e) + l8_h3)))]) rfl ?_
          refine r_labC hX (tl1 41 rfl (by decide)) hS (fun s3 => ?_)
          refine r_apeekI hX al_29 s3 (i := ((30 * e) + l8_h3)) (by first | decide | omega) (by first | decide | omega) (fun kik4 kik4e kik4a kik4b => ?_)
          refine r_labC hX (tl1 42 rfl (by decide)) hS (fun s5 => ?_)
          refine r_apeekI hX al_30 s5 (i := ((30 * e) + l8_h3)) (by first | decide | omega) (by first | decide | omega) (fun onk6 onk6e onk6a onk6b => ?_)
          refine r_labC hX (tl1 43 rfl (by decide)) hS (fun s7 => ?_)
          refine r_apeekI hX al_31 s7 (i := ((30 * e) + l8_h3)) (by first | decide | omega) (by first | decide | omega) (fun twk8 twk8e twk8a twk8b => ?_)
          refine r_labC hX (tl1 45 rfl (by decide)) hS (fun s9 => ?_)
          refine r_apeekI hX al_33 s9 (i := ((30 * e) + l8_h3)) (by first | decide | omega) (by first | decide | omega) (fun mik10 mik10e mik10a mik10b => ?_)
          refine r_labC hX (tl1 46 rfl (by decide)) hS (fun s11 => ?_)
          refine r_apeekI hX al_34 s11 (i := ((30 * e) + l8_h3)) (by first | decide | omega) (by first | decide | omega) (fun enk12 enk12e enk12a enk12b => ?_)
          have mi13 : MI E (hv [120, 122, 123, 124] [89] G Gh3) := mi_keep mi rfl rfl rfl rfl rfl rfl (fun _ => rfl) (fun _ => rfl) (fun _ => rfl) (fun _ => rfl) (fun _ => rfl) (fun _ => rfl) (fun _ => rfl) (fun _ => rfl) (fun _ => rfl) (fun _ => rfl) (fun _ => rfl) (fun _ => rfl) (fun _ => rfl)
          have cl14 := mi_cls mi13 events_e cm_e kik4e onk6e twk8e mik10e enk12e (by first | decide | omega) (by first | decide | omega) (by first | decide | omega) (by first | decide | omega)
          refine r_ex hX hP 1 (pc' := 19) (st' := [(2, (Ad E 1))]) (lo' := [(0, (2, (Ad E 1))), (1, (0, e)), (2, (0, fr)), (3, (0, to)), (4, (0, isin)), (5, (0, ch)), (6, (1, sh)), (8, (0, l8_h3)), (9, (0, ((30 * e) + l8_h3)))]) rfl ?_
          refine r_getC hX hP rfl fl_12_101 hS (fun _ => ?_)
          refine r_ex hX hP 1 (pc' := 24) (st' := [(0, ((30 * e) + l8_h3)), (2, (Ad E 29))]) (lo' := [(0, (2, (Ad E 1))), (1, (0, e)), (2, (0, fr)), (3, (0, to)), (4, (0, isin)), (5, (0, ch)), (6, (1, sh)), (8, (0, l8_h3)), (9, (0, ((30 * e) + l8_h3)))]) rfl ?_
          refine r_ialdK hX hP rfl al_29 s3 (by first | decide | omega) (by first | decide | omega) (x := kik4) kik4e ?_
          refine r_ex hX hP 1 (pc' := 27) (st' := [(0, 6), (0, kik4)]) (lo' := [(0, (2, (Ad E 1))), (1, (0, e)), (2, (0, fr)), (3, (0, to)), (4, (0, isin)), (5, (0, ch)), (6, (1, sh)), (8, (0, l8_h3)), (9, (0, ((30 * e) + l8_h3)))]) rfl ?_
          refine r_ic_ne hX hP rfl (tgt := 141) rfl (by first | decide | omega) (by first | decide | omega) (by first | decide | omega) (by first | decide | omega) (fun c15 => ?_) (fun c15 => ?_)
          · skip
            refine r_ex hX hP 1 (pc' := 142) (st' := [(2, (Ad E 1))]) (lo' := [(0, (2, (Ad E 1))), (1, (0, e)), (2, (0, fr)), (3, (0, to)), (4, (0, isin)), (5, (0, ch)), (6, (1, sh)), (8, (0, l8_h3)), (9, (0, ((30 * e) + l8_h3)))]) rfl ?_
            refine r_getC hX hP rfl fl_12_101 hS (fun _ => ?_)
            refine r_ex hX hP 1 (pc' := 147) (st' := [(0, ((30 * e) + l8_h3)), (2, (Ad E 29))]) (lo' := [(0, (2, (Ad E 1))), (1, (0, e)), (2, (0, fr)), (3, (0, to)), (4, (0, isin)), (5, (0, ch)), (6, (1, sh)), (8, (0, l8_h3)), (9, (0, ((30 * e) + l8_h3)))]) rfl ?_
            refine r_ialdK hX hP rfl al_29 s3 (by first | decide | omega) (by first | decide | omega) (x := kik4) kik4e ?_
            refine r_ex hX hP 1 (pc' := 150) (st' := [(0, 7), (0, kik4)]) (lo' := [(0, (2, (Ad E 1))), (1, (0, e)), (2, (0, fr)), (3, (0, to)), (4, (0, isin)), (5, (0, ch)), (6, (1, sh)), (8, (0, l8_h3)), (9, (0, ((30 * e) + l8_h3)))]) rfl ?_
            refine r_ic_ne hX hP rfl (tgt := 189) rfl (by first | decide | omega) (by first | decide | omega) (by first | decide | omega) (by first | decide | omega) (fun c16 => ?_) (fun c16 => ?_)
            · skip
              refine r_ex hX hP 4 (pc' := 196) (st' := [(1, sh), (0, isin), (0, ((30 * e) + l8_h3)), (2, (Ad E 1))]) (lo' := [(0, (2, (Ad E 1))), (1, (0, e)), (2, (0, fr)), (3, (0, to)), (4, (0, isin)), (5, (0, ch)), (6, (1, sh)), (8, (0, l8_h3)), (9, (0, ((30 * e) + l8_h3)))]) rfl ?_
              refine r_callV gd hX hP rfl cv_12_611 hS (d' := 0) (mc' := 0) (ms' := 0) (as' := [(0, ((30 * e) + l8_h3)), (0, isin), (1, sh)]) (st := []) (by first | decide | omega) (by first | decide | omega) (by first | decide | omega) rfl rfl (Nat.le_of_ble_eq_true rfl) (c_X12_bringsOne E S (hv [120, 122, 123, 124] [89] G Gh3) ((30 * e) + l8_h3) isin sh hS twk8 twk8e (by first | decide | omega) (by first | decide | omega) (by first | decide | omega) (by first | decide | omega) (by first | decide | omega) (by first | decide | omega) (by first | decide | omega)) ?_
              rintro _ _ _ ⟨rfl, ⟨G17, rfl⟩, rfl, -⟩
              refine r_ex hX hP 1 (pc' := 200) (st' := [(2, (Ad E 1))]) (lo' := [(0, (2, (Ad E 1))), (1, (0, e)), (2, (0, fr)), (3, (0, to)), (4, (0, isin)), (5, (0, ch)), (6, (1, sh)), (8, (0, l8_h3)), (9, (0, ((30 * e) + l8_h3)))]) rfl ?_
              refine r_getC hX hP rfl fl_12_116 hS (fun _ => ?_)
              refine r_ex hX hP 1 (pc' := 205) (st' := [(0, ((30 * e) + l8_h3)), (2, (Ad E 34))]) (lo' := [(0, (2, (Ad E 1))), (1, (0, e)), (2, (0, fr)), (3, (0, to)), (4, (0, isin)), (5, (0, ch)), (6, (1, sh)), (8, (0, l8_h3)), (9, (0, ((30 * e) + l8_h3)))]) rfl ?_
              refine r_ialdK hX hP rfl al_34 s11 (by first | decide | omega) (by first | decide | omega) (x := enk12) enk12e ?_
              refine r_ex hX hP 2 (pc' := 3) (st' := []) (lo' := [(0, (2, (Ad E 1))), (1, (0, e)), (2, (0, fr)), (3, (0, to)), (4, (0, isin)), (5, (0, ch)), (6, (1, sh)), (8, (0, enk12)), (9, (0, ((30 * e) + l8_h3)))]) rfl ?_
              refine r_pick hX [0, 1, 2, 3, 4, 5, 6, 7] (lo' := [(0, (2, (Ad E 1))), (1, (0, e)), (2, (0, fr)), (3, (0, to)), (4, (0, isin)), (5, (0, ch)), (6, (1, sh)), (8, (0, enk12))]) rfl ?_
              refine r_eqG (X := X) (hq_call (hq_base _ _ _ _) rfl) ?_
              exact ih3 enk12 _ (by first | decide | omega) (by first | decide | omega) (by first | decide | omega) (by first | decide | omega)
            · skip
              refine r_ex hX hP 1 (pc' := 154) (st' := [(2, (Ad E 1))]) (lo' := [(0, (2, (Ad E 1))), (1, (0, e)), (2, (0, fr)), (3, (0, to)), (4, (0, isin)), (5, (0, ch)), (6, (1, sh)), (8, (0, l8_h3)), (9, (0, ((30 * e) + l8_h3)))]) rfl ?_
              refine r_getC hX hP rfl fl_12_104 hS (fun _ => ?_)
              refine r_ex hX hP 1 (pc' := 159) (st' := [(0, ((30 * e) + l8_h3)), (2, (Ad E 30))]) (lo' := [(0, (2, (Ad E 1))), (1, (0, e)), (2, (0, fr)), (3, (0, to)), (4, (0, isin)), (5, (0, ch)), (6, (1, sh)), (8, (0, l8_h3)), (9, (0, ((30 * e) + l8_h3)))]) rfl ?_
              refine r_ialdK hX hP rfl al_30 s5 (by first | decide | omega) (by first | decide | omega) (x := onk6) onk6e ?_
              refine r_ex hX hP 1 (pc' := 162) (st' := [(0, ch), (0, onk6)]) (lo' := [(0, (2, (Ad E 1))), (1, (0, e)), (2, (0, fr)), (3, (0, to)), (4, (0, isin)), (5, (0, ch)), (6, (1, sh)), (8, (0, l8_h3)), (9, (0, ((30 * e) + l8_h3)))]) rfl ?_
              refine r_ic_ne hX hP rfl (tgt := 199) rfl (by first | decide | omega) (by first | decide | omega) (by first | decide | omega) (by first | decide | omega) (fun c18 => ?_) (fun c18 => ?_)
              · skip
                refine r_ex hX hP 1 (pc' := 200) (st' := [(2, (Ad E 1))]) (lo' := [(0, (2, (Ad E 1))), (1, (0, e)), (2, (0, fr)), (3, (0, to)), (4, (0, isin)), (5, (0, ch)), (6, (1, sh)), (8, (0, l8_h3)), (9, (0, ((30 * e) + l8_h3)))]) rfl ?_
                refine r_getC hX hP rfl fl_12_116 hS (fun _ => ?_)
                refine r_ex hX hP 1 (pc' := 205) (st' := [(0, ((30 * e) + l8_h3)), (2, (Ad E 34))]) (lo' := [(0, (2, (Ad E 1))), (1, (0, e)), (2, (0, fr)), (3, (0, to)), (4, (0, isin)), (5, (0, ch)), (6, (1, sh)), (8, (0, l8_h3)), (9, (0, ((30 * e) + l8_h3)))]) rfl ?_
                refine r_ialdK hX hP rfl al_34 s11 (by first | decide | omega) (by first | decide | omega) (x := enk12) enk12e ?_
                refine r_ex hX hP 2 (pc' := 3) (st' := []) (lo' := [(0, (2, (Ad E 1))), (1, (0, e)), (2, (0, fr)), (3, (0, to)), (4, (0, isin)), (5, (0, ch)), (6, (1, sh)), (8, (0, enk12)), (9, (0, ((30 * e) + l8_h3)))]) rfl ?_
                refine r_pick hX [0, 1, 2, 3, 4, 5, 6, 7] (lo' := [(0, (2, (Ad E 1))), (1, (0, e)), (2, (0, fr)), (3, (0, to)), (4, (0, isin)), (5, (0, ch)), (6, (1, sh)), (8, (0, enk12))]) rfl ?_
                refine r_eqG (X := X) (hq_base _ _ _ _) ?_
                exact ih3 enk12 _ (by first | decide | omega) (by first | decide | omega) (by first | decide | omega) (by first | decide | omega)
              · skip
                refine r_ex hX hP 6 (pc' := 172) (st' := [(2, (Ad E 1)), (0, (l8_h3 + 1)), (0, e), (2, (Ad E 1))]) (lo' := [(0, (2, (Ad E 1))), (1, (0, e)), (2, (0, fr)), (3, (0, to)), (4, (0, isin)), (5, (0, ch)), (6, (1, sh)), (8, (0, l8_h3)), (9, (0, ((30 * e) + l8_h3)))]) rfl ?_
                refine r_getC hX hP rfl fl_12_116 hS (fun _ => ?_)
                refine r_ex hX hP 1 (pc' := 177) (st' := [(0, ((30 * e) + l8_h3)), (2, (Ad E 34)), (0, (l8_h3 + 1)), (0, e), (2, (Ad E 1))]) (lo' := [(0, (2, (Ad E 1))), (1, (0, e)), (2, (0, fr)), (3, (0, to)), (4, (0, isin)), (5, (0, ch)), (6, (1, sh)), (8, (0, l8_h3)), (9, (0, ((30 * e) + l8_h3)))]) rfl ?_
                refine r_ialdK hX hP rfl al_34 s11 (by first | decide | omega) (by first | decide | omega) (x := enk12) enk12e ?_
                refine r_ex hX hP 3 (pc' := 183) (st' := [(1, sh), (0, ch), (0, 1), (0, enk12), (0, (l8_h3 + 1)), (0, e), (2, (Ad E 1))]) (lo' := [(0, (2, (Ad E 1))), (1, (0, e)), (2, (0, fr)), (3, (0, to)), (4, (0, isin)), (5, (0, ch)), (6, (1, sh)), (8, (0, l8_h3)), (9, (0, ((30 * e) + l8_h3)))]) rfl ?_
                refine r_callV gd hX hP rfl cv_12_607 hS (d' := 2 + nR) (mc' := 0) (ms' := 0) (as' := [(0, e), (0, (l8_h3 + 1)), (0, enk12), (0, 1), (0, ch), (1, sh)]) (st := []) (by first | decide | omega) (by first | decide | omega) (by first | decide | omega) rfl rfl (Nat.le_of_ble_eq_true rfl) (ihR (hv [120, 122, 123, 124] [89] G Gh3) e (l8_h3 + 1) enk12 1 ch sh hS events events_e cm cm_e (by first | decide | omega) (by first | decide | omega) (by first | decide | omega) (by first | decide | omega) (by first | decide | omega) (by first | decide | omega) (by first | decide | omega) (by first | decide | omega) (by first | decide | omega) (by first | decide | omega) (by first | decide | omega) (by first | decide | omega) (by first | decide | omega) (by first | decide | omega) mi13 (by first | decide | omega)) ?_
                rintro _ _ _ ⟨rfl, ⟨G19, rfl⟩, rfl, -⟩
                refine r_ex hX hP 2 (pc' := 200) (st' := [(2, (Ad E 1))]) (lo' := [(0, (2, (Ad E 1))), (1, (0, e)), (2, (0, fr)), (3, (0, to)), (4, (0, isin)), (5, (0, ch)), (6, (1, sh)), (8, (0, l8_h3)), (9, (0, ((30 * e) + l8_h3)))]) rfl ?_
                refine r_getC hX hP rfl fl_12_116 hS (fun _ => ?_)
                refine r_ex hX hP 1 (pc' := 205) (st' := [(0, ((30 * e) + l8_h3)), (2, (Ad E 34))]) (lo' := [(0, (2, (Ad E 1))), (1, (0, e)), (2, (0, fr)), (3, (0, to)), (4, (0, isin)), (5, (0, ch)), (6, (1, sh)), (8, (0, l8_h3)), (9, (0, ((30 * e) + l8_h3)))]) rfl ?_
                refine r_ialdK hX hP rfl al_34 s11 (by first | decide | omega) (by first | decide | omega) (x := enk12) enk12e ?_
                refine r_ex hX hP 2 (pc' := 3) (st' := []) (lo' := [(0, (2, (Ad E 1))), (1, (0, e)), (2, (0, fr)), (3, (0, to)), (4, (0, isin)), (5, (0, ch)), (6, (1, sh)), (8, (0, enk12)), (9, (0, ((30 * e) + l8_h3)))]) rfl ?_
                refine r_pick hX [0, 1, 2, 3, 4, 5, 6, 7] (lo' := [(0, (2, (Ad E 1))), (1, (0, e)), (2, (0, fr)), (3, (0, to)), (4, (0, isin)), (5, (0, ch)), (6, (1, sh)), (8, (0, enk12))]) rfl ?_
                refine r_eqG (X := X) (hq_call (hq_base _ _ _ _) rfl) ?_
                exact ih3 enk12 _ (by first | decide | omega) (by first | decide | omega) (by first | decide | omega) (by first | decide | omega)
          · skip
            have j81 : ∀ (k0_j81 : Int), 0 ≤ k0_j81 → k0_j81 ≤ 1 → X 0 0 81 [(0, k0_j81)] [(0, (2, (Ad E 1))), (1, (0, e)), (2, (0, fr)), (3, (0, to)), (4, (0, isin)), (5, (0, ch)), (6, (1, sh)), (8, (0, l8_h3)), (9, (0, ((30 * e) + l8_h3)))] S (hv [120, 122, 123, 124] [89] G Gh3) := by
              intro k0_j81 yj81_0 yj81_1
              refine r_ex hX hP 2 (pc' := 85) (st' := [(0, k0_j81)]) (lo' := [(0, (2, (Ad E 1))), (1, (0, e)), (2, (0, fr)), (3, (0, to)), (4, (0, isin)), (5, (0, ch)), (6, (1, sh)), (8, (0, l8_h3)), (9, (0, ((30 * e) + l8_h3))), (10, (0, k0_j81))]) rfl ?_
              refine r_if_eq hX hP rfl (tgt := 113) rfl (by first | decide | omega) (by first | decide | omega) (fun c20 => ?_) (fun c20 => ?_)
              · skip
                refine r_ex hX hP 3 (pc' := 116) (st' := [(2, (Ad E 1)), (0, e), (2, (Ad E 1))]) (lo' := [(0, (2, (Ad E 1))), (1, (0, e)), (2, (0, fr)), (3, (0, to)), (4, (0, isin)), (5, (0, ch)), (6, (1, sh)), (8, (0, l8_h3)), (9, (0, ((30 * e) + l8_h3))), (10, (0, k0_j81))]) rfl ?_
                refine r_getC hX hP rfl fl_12_113 hS (fun _ => ?_)
                refine r_ex hX hP 1 (pc' := 121) (st' := [(0, ((30 * e) + l8_h3)), (2, (Ad E 33)), (0, e), (2, (Ad E 1))]) (lo' := [(0, (2, (Ad E 1))), (1, (0, e)), (2, (0, fr)), (3, (0, to)), (4, (0, isin)), (5, (0, ch)), (6, (1, sh)), (8, (0, l8_h3)), (9, (0, ((30 * e) + l8_h3))), (10, (0, k0_j81))]) rfl ?_
                refine r_ialdK hX hP rfl al_33 s9 (by first | decide | omega) (by first | decide | omega) (x := mik10) mik10e ?_
                refine r_ex hX hP 1 (pc' := 123) (st' := [(2, (Ad E 1)), (0, mik10), (0, e), (2, (Ad E 1))]) (lo' := [(0, (2, (Ad E 1))), (1, (0, e)), (2, (0, fr)), (3, (0, to)), (4, (0, isin)), (5, (0, ch)), (6, (1, sh)), (8, (0, l8_h3)), (9, (0, ((30 * e) + l8_h3))), (10, (0, k0_j81))]) rfl ?_
                refine r_getC hX hP rfl fl_12_116 hS (fun _ => ?_)
                refine r_ex hX hP 1 (pc' := 128) (st' := [(0, ((30 * e) + l8_h3)), (2, (Ad E 34)), (0, mik10), (0, e), (2, (Ad E 1))]) (lo' := [(0, (2, (Ad E 1))), (1, (0, e)), (2, (0, fr)), (3, (0, to)), (4, (0, isin)), (5, (0, ch)), (6, (1, sh)), (8, (0, l8_h3)), (9, (0, ((30 * e) + l8_h3))), (10, (0, k0_j81))]) rfl ?_
                refine r_ialdK hX hP rfl al_34 s11 (by first | decide | omega) (by first | decide | omega) (x := enk12) enk12e ?_
                refine r_ex hX hP 3 (pc' := 135) (st' := [(1, sh), (0, ch), (0, isin), (0, enk12), (0, mik10), (0, e), (2, (Ad E 1))]) (lo' := [(0, (2, (Ad E 1))), (1, (0, e)), (2, (0, fr)), (3, (0, to)), (4, (0, isin)), (5, (0, ch)), (6, (1, sh)), (8, (0, l8_h3)), (9, (0, ((30 * e) + l8_h3))), (10, (0, k0_j81))]) rfl ?_
                refine r_callV gd hX hP rfl cv_12_607 hS (d' := 2 + nR) (mc' := 0) (ms' := 0) (as' := [(0, e), (0, mik10), (0, enk12), (0, isin), (0, ch), (1, sh)]) (st := []) (by first | decide | omega) (by first | decide | omega) (by first | decide | omega) rfl rfl (Nat.le_of_ble_eq_true rfl) (ihR (hv [120, 122, 123, 124] [89] G Gh3) e mik10 enk12 isin ch sh hS events events_e cm cm_e (by first | decide | omega) (by first | decide | omega) (by first | decide | omega) (by first | decide | omega) (by first | decide | omega) (by first | decide | omega) (by first | decide | omega) (by first | decide | omega) (by first | decide | omega) (by first | decide | omega) (by first | decide | omega) (by first | decide | omega) (by first | decide | omega) (by first | decide | omega) mi13 (by first | decide | omega)) ?_
                rintro _ _ _ ⟨rfl, ⟨G21, rfl⟩, rfl, -⟩
                refine r_ex hX hP 2 (pc' := 200) (st' := [(2, (Ad E 1))]) (lo' := [(0, (2, (Ad E 1))), (1, (0, e)), (2, (0, fr)), (3, (0, to)), (4, (0, isin)), (5, (0, ch)), (6, (1, sh)), (8, (0, l8_h3)), (9, (0, ((30 * e) + l8_h3))), (10, (0, k0_j81))]) rfl ?_
                refine r_getC hX hP rfl fl_12_116 hS (fun _ => ?_)
                refine r_ex hX hP 1 (pc' := 205) (st' := [(0, ((30 * e) + l8_h3)), (2, (Ad E 34))]) (lo' := [(0, (2, (Ad E 1))), (1, (0, e)), (2, (0, fr)), (3, (0, to)), (4, (0, isin)), (5, (0, ch)), (6, (1, sh)), (8, (0, l8_h3)), (9, (0, ((30 * e) + l8_h3))), (10, (0, k0_j81))]) rfl ?_
                refine r_ialdK hX hP rfl al_34 s11 (by first | decide | omega) (by first | decide | omega) (x := enk12) enk12e ?_
                refine r_ex hX hP 2 (pc' := 3) (st' := []) (lo' := [(0, (2, (Ad E 1))), (1, (0, e)), (2, (0, fr)), (3, (0, to)), (4, (0, isin)), (5, (0, ch)), (6, (1, sh)), (8, (0, enk12)), (9, (0, ((30 * e) + l8_h3))), (10, (0, k0_j81))]) rfl ?_
                refine r_pick hX [0, 1, 2, 3, 4, 5, 6, 7] (lo' := [(0, (2, (Ad E 1))), (1, (0, e)), (2, (0, fr)), (3, (0, to)), (4, (0, isin)), (5, (0, ch)), (6, (1, sh)), (8, (0, enk12))]) rfl ?_
                refine r_eqG (X := X) (hq_call (hq_base _ _ _ _) rfl) ?_
                exact ih3 enk12 _ (by first | decide | omega) (by first | decide | omega) (by first | decide | omega) (by first | decide | omega)
              · skip
                refine r_ex hX hP 6 (pc' := 95) (st' := [(2, (Ad E 1)), (0, (l8_h3 + 1)), (0, e), (2, (Ad E 1))]) (lo' := [(0, (2, (Ad E 1))), (1, (0, e)), (2, (0, fr)), (3, (0, to)), (4, (0, isin)), (5, (0, ch)), (6, (1, sh)), (8, (0, l8_h3)), (9, (0, ((30 * e) + l8_h3))), (10, (0, k0_j81))]) rfl ?_
                refine r_getC hX hP rfl fl_12_113 hS (fun _ => ?_)
                refine r_ex hX hP 1 (pc' := 100) (st' := [(0, ((30 * e) + l8_h3)), (2, (Ad E 33)), (0, (l8_h3 + 1)), (0, e), (2, (Ad E 1))]) (lo' := [(0, (2, (Ad E 1))), (1, (0, e)), (2, (0, fr)), (3, (0, to)), (4, (0, isin)), (5, (0, ch)), (6, (1, sh)), (8, (0, l8_h3)), (9, (0, ((30 * e) + l8_h3))), (10, (0, k0_j81))]) rfl ?_
                refine r_ialdK hX hP rfl al_33 s9 (by first | decide | omega) (by first | decide | omega) (x := mik10) mik10e ?_
                refine r_ex hX hP 3 (pc' := 107) (st' := [(1, sh), (0, ch), (0, isin), (0, mik10), (0, (l8_h3 + 1)), (0, e), (2, (Ad E 1))]) (lo' := [(0, (2, (Ad E 1))), (1, (0, e)), (2, (0, fr)), (3, (0, to)), (4, (0, isin)), (5, (0, ch)), (6, (1, sh)), (8, (0, l8_h3)), (9, (0, ((30 * e) + l8_h3))), (10, (0, k0_j81))]) rfl ?_
                refine r_callV gd hX hP rfl cv_12_607 hS (d' := 2 + nR) (mc' := 0) (ms' := 0) (as' := [(0, e), (0, (l8_h3 + 1)), (0, mik10), (0, isin), (0, ch), (1, sh)]) (st := []) (by first | decide | omega) (by first | decide | omega) (by first | decide | omega) rfl rfl (Nat.le_of_ble_eq_true rfl) (ihR (hv [120, 122, 123, 124] [89] G Gh3) e (l8_h3 + 1) mik10 isin ch sh hS events events_e cm cm_e (by first | decide | omega) (by first | decide | omega) (by first | decide | omega) (by first | decide | omega) (by first | decide | omega) (by first | decide | omega) (by first | decide | omega) (by first | decide | omega) (by first | decide | omega) (by first | decide | omega) (by first | decide | omega) (by first | decide | omega) (by first | decide | omega) (by first | decide | omega) mi13 (by first | decide | omega)) ?_
                rintro _ _ _ ⟨rfl, ⟨G22, rfl⟩, rfl, -⟩
                refine r_ex hX hP 3 (pc' := 200) (st' := [(2, (Ad E 1))]) (lo' := [(0, (2, (Ad E 1))), (1, (0, e)), (2, (0, fr)), (3, (0, to)), (4, (0, isin)), (5, (0, ch)), (6, (1, sh)), (8, (0, l8_h3)), (9, (0, ((30 * e) + l8_h3))), (10, (0, k0_j81))]) rfl ?_
                refine r_getC hX hP rfl fl_12_116 hS (fun _ => ?_)
                refine r_ex hX hP 1 (pc' := 205) (st' := [(0, ((30 * e) + l8_h3)), (2, (Ad E 34))]) (lo' := [(0, (2, (Ad E 1))), (1, (0, e)), (2, (0, fr)), (3, (0, to)), (4, (0, isin)), (5, (0, ch)), (6, (1, sh)), (8, (0, l8_h3)), (9, (0, ((30 * e) + l8_h3))), (10, (0, k0_j81))]) rfl ?_
                refine r_ialdK hX hP rfl al_34 s11 (by first | decide | omega) (by first | decide | omega) (x := enk12) enk12e ?_
                refine r_ex hX hP 2 (pc' := 3) (st' := []) (lo' := [(0, (2, (Ad E 1))), (1, (0, e)), (2, (0, fr)), (3, (0, to)), (4, (0, isin)), (5, (0, ch)), (6, (1, sh)), (8, (0, enk12)), (9, (0, ((30 * e) + l8_h3))), (10, (0, k0_j81))]) rfl ?_
                refine r_pick hX [0, 1, 2, 3, 4, 5, 6, 7] (lo' := [(0, (2, (Ad E 1))), (1, (0, e)), (2, (0, fr)), (3, (0, to)), (4, (0, isin)), (5, (0, ch)), (6, (1, sh)), (8, (0, enk12))]) rfl ?_
                refine r_eqG (X := X) (hq_call (hq_base _ _ _ _) rfl) ?_
                exact ih3 enk12 _ (by first | decide | omega) (by first | decide | omega) (by first | decide | omega) (by first | decide | omega)
            refine r_ex hX hP 1 (pc' := 31) (st' := [(2, (Ad E 1))]) (lo' := [(0, (2, (Ad E 1))), (1, (0, e)), (2, (0, fr)), (3, (0, to)), (4, (0, isin)), (5, (0, ch)), (6, (1, sh)), (8, (0, l8_h3)), (9, (0, ((30 * e) + l8_h3)))]) rfl ?_
            refine r_getC hX hP rfl fl_12_107 hS (fun _ => ?_)
            refine r_ex hX hP 1 (pc' := 36) (st' := [(0, ((30 * e) + l8_h3)), (2, (Ad E 31))]) (lo' := [(0, (2, (Ad E 1))), (1, (0, e)), (2, (0, fr)), (3, (0, to)), (4, (0, isin)), (5, (0, ch)), (6, (1, sh)), (8, (0, l8_h3)), (9, (0, ((30 * e) + l8_h3)))]) rfl ?_
            refine r_ialdK hX hP rfl al_31 s7 (by first | decide | omega) (by first | decide | omega) (x := twk8) twk8e ?_
            refine r_if_ne hX hP rfl (tgt := 62) rfl (by first | decide | omega) (by first | decide | omega) (fun c23 => ?_) (fun c23 => ?_)
            · skip
              refine r_ex hX hP 2 (pc' := 65) (st' := [(2, (Ad E 1)), (1, sh)]) (lo' := [(0, (2, (Ad E 1))), (1, (0, e)), (2, (0, fr)), (3, (0, to)), (4, (0, isin)), (5, (0, ch)), (6, (1, sh)), (8, (0, l8_h3)), (9, (0, ((30 * e) + l8_h3)))]) rfl ?_
              refine r_getC hX hP rfl fl_12_104 hS (fun _ => ?_)
              refine r_ex hX hP 1 (pc' := 70) (st' := [(0, ((30 * e) + l8_h3)), (2, (Ad E 30)), (1, sh)]) (lo' := [(0, (2, (Ad E 1))), (1, (0, e)), (2, (0, fr)), (3, (0, to)), (4, (0, isin)), (5, (0, ch)), (6, (1, sh)), (8, (0, l8_h3)), (9, (0, ((30 * e) + l8_h3)))]) rfl ?_
              refine r_ialdK hX hP rfl al_30 s5 (by first | decide | omega) (by first | decide | omega) (x := onk6) onk6e ?_
              refine r_i2l hX hP rfl (by first | decide | omega) (by first | decide | omega) ?_
              refine r_lc_le hX hP rfl rfl (tgt := 80) rfl (by first | decide | omega) (by first | decide | omega) (by first | decide | omega) (by first | decide | omega) (fun c24 => ?_) (fun c24 => ?_)
              · skip
                refine r_ex hX hP 1 (pc' := 81) (st' := [(0, 0)]) (lo' := [(0, (2, (Ad E 1))), (1, (0, e)), (2, (0, fr)), (3, (0, to)), (4, (0, isin)), (5, (0, ch)), (6, (1, sh)), (8, (0, l8_h3)), (9, (0, ((30 * e) + l8_h3)))]) rfl ?_
                exact j81 0 (by first | decide | omega) (by first | decide | omega)
              · skip
                refine r_ex hX hP 2 (pc' := 81) (st' := [(0, 1)]) (lo' := [(0, (2, (Ad E 1))), (1, (0, e)), (2, (0, fr)), (3, (0, to)), (4, (0, isin)), (5, (0, ch)), (6, (1, sh)), (8, (0, l8_h3)), (9, (0, ((30 * e) + l8_h3)))]) rfl ?_
                exact j81 1 (by first | decide | omega) (by first | decide | omega)
            · skip
              refine r_ex hX hP 2 (pc' := 43) (st' := [(2, (Ad E 1)), (1, sh)]) (lo' := [(0, (2, (Ad E 1))), (1, (0, e)), (2, (0, fr)), (3, (0, to)), (4, (0, isin)), (5, (0, ch)), (6, (1, sh)), (8, (0, l8_h3)), (9, (0, ((30 * e) + l8_h3)))]) rfl ?_
              refine r_getC hX hP rfl fl_12_104 hS (fun _ => ?_)
              refine r_ex hX hP 1 (pc' := 48) (st' := [(0, ((30 * e) + l8_h3)), (2, (Ad E 30)), (1, sh)]) (lo' := [(0, (2, (Ad E 1))), (1, (0, e)), (2, (0, fr)), (3, (0, to)), (4, (0, isin)), (5, (0, ch)), (6, (1, sh)), (8, (0, l8_h3)), (9, (0, ((30 * e) + l8_h3)))]) rfl ?_
              refine r_ialdK hX hP rfl al_30 s5 (by first | decide | omega) (by first | decide | omega) (x := onk6) onk6e ?_
              refine r_i2l hX hP rfl (by first | decide | omega) (by first | decide | omega) ?_
              refine r_lc_ge hX hP rfl rfl (tgt := 58) rfl (by first | decide | omega) (by first | decide | omega) (by first | decide | omega) (by first | decide | omega) (fun c25 => ?_) (fun c25 => ?_)
              · skip
                refine r_ex hX hP 2 (pc' := 81) (st' := [(0, 0)]) (lo' := [(0, (2, (Ad E 1))), (1, (0, e)), (2, (0, fr)), (3, (0, to)), (4, (0, isin)), (5, (0, ch)), (6, (1, sh)), (8, (0, l8_h3)), (9, (0, ((30 * e) + l8_h3)))]) rfl ?_
                exact j81 0 (by first | decide | omega) (by first | decide | omega)
              · skip
                refine r_ex hX hP 2 (pc' := 81) (st' := [(0, 1)]) (lo' := [(0, (2, (Ad E 1))), (1, (0, e)), (2, (0, fr)), (3, (0, to)), (4, (0, isin)), (5, (0, ch)), (6, (1, sh)), (8, (0, l8_h3)), (9, (0, ((30 * e) + l8_h3)))]) rfl ?_
                exact j81 1 (by first | decide | omega) (by first | decide | omega)
    refine r_eqG (X := X) (hq_refl [120, 122, 123, 124] [89] _) ?_
    exact loop3 ((30 - fr) + 1 : Int).toNat fr _ (by first | decide | omega) (by first | decide | omega) (by first | decide | omega) (by first | decide | omega)
set_option maxRecDepth 100000 in
set_option maxHeartbeats 4000000 in
theorem c_X12_getsOf (E : En) (S : Sg) (G : Gh) (e ch sh : Int) (hS : S (Ad E 1) = 1) (events : Int) (events_e : events = G 1 (Ad E 1) 9) (e_a : 0 ≤ e) (e_b : e ≤ 15) (ch_a : (-2147483648) ≤ ch) (ch_b : ch ≤ 2147483647) (sh_a : (-9223372036854775808) ≤ sh) (sh_b : sh ≤ 9223372036854775807) (pre0 : e < events) (mi : MI E G) : Calls E mX12_getsOf [(2, (Ad E 1)), (0, e), (0, ch), (1, sh)] S G 34 0 0 (fun r S' G' => S = S' ∧ (∃ G1, hv [120, 122, 123, 124] [89] G G1 = G') ∧ r = none ∧ True) := by
  refine calls_by [(0, (2, (Ad E 1))), (1, (0, e)), (2, (0, ch)), (3, (1, sh))] rfl rfl (Nat.le_of_ble_eq_true rfl) (fun X hX => ?_)
  have hP := hPX12_getsOf
  refine r_peekI hX (tl1 9 rfl (by decide)) hS (fun events_o events_oe events_oa events_ob => ?_)
  obtain rfl : events = events_o := events_e.trans events_oe.symm
  refine r_ex hX hP 2 (pc' := 3) (st' := []) (lo' := [(0, (2, (Ad E 1))), (1, (0, e)), (2, (0, ch)), (3, (1, sh)), (5, (0, 0))]) rfl ?_
  have loop3 : ∀ (nF : Nat) (l5_h3 : Int) (Gh3 : Gh), 0 ≤ l5_h3 → l5_h3 ≤ 20 → 20 - l5_h3 < (nF : Int) → X 0 0 3 [] [(0, (2, (Ad E 1))), (1, (0, e)), (2, (0, ch)), (3, (1, sh)), (5, (0, l5_h3))] S (hv [] [89] G Gh3) := by
    intro nF
    induction nF with
    | zero => intro l5_h3 Gh3 yh3_0 yh3_1 ym3; exfalso; omega
    | succ nF ih3 =>
      intro l5_h3 Gh3 yh3_0 yh3_1 ym3
      refine r_ex hX hP 2 (pc' := 7) (st' := [(0, 20), (0, l5_h3)]) (lo' := [(0, (2, (Ad E 1))), (1, (0, e)), (2, (0, ch)), (3, (1, sh)), (5, (0, l5_h3))]) rfl ?_
      refine r_ic_ge hX hP rfl (tgt := 24) rfl (by first | decide | omega) (by first | decide | omega) (by first | decide | omega) (by first | decide | omega) (fun c1 => ?_) (fun c1 => ?_)
      · skip
        refine r_ex hX hP 2 (pc' := 26) (st' := [(1, 0), (2, (Ad E 1))]) (lo' := [(0, (2, (Ad E 1))), (1, (0, e)), (2, (0, ch)), (3, (1, sh)), (5, (0, l5_h3))]) rfl ?_
        refine r_putLK hX hP rfl fp_12_615 hS (by first | decide | omega) (by first | decide | omega) (fun h2 => ?_)
        refine r_ex hX hP 2 (pc' := 31) (st' := [(1, 0), (2, (Ad E 1))]) (lo' := [(0, (2, (Ad E 1))), (1, (0, e)), (2, (0, ch)), (3, (1, sh)), (5, (0, l5_h3))]) rfl ?_
        refine r_putLK hX hP rfl fp_12_618 hS (by first | decide | omega) (by first | decide | omega) (fun h3 => ?_)
        refine r_ex hX hP 2 (pc' := 36) (st' := [(1, 0), (2, (Ad E 1))]) (lo' := [(0, (2, (Ad E 1))), (1, (0, e)), (2, (0, ch)), (3, (1, sh)), (5, (0, l5_h3))]) rfl ?_
        refine r_putLK hX hP rfl fp_12_621 hS (by first | decide | omega) (by first | decide | omega) (fun h4 => ?_)
        refine r_ex hX hP 2 (pc' := 41) (st' := [(0, (-1)), (2, (Ad E 1))]) (lo' := [(0, (2, (Ad E 1))), (1, (0, e)), (2, (0, ch)), (3, (1, sh)), (5, (0, l5_h3))]) rfl ?_
        refine r_putIK hX hP rfl fp_12_566 hS (by first | decide | omega) (by first | decide | omega) (fun h5 => ?_)
        refine r_ex hX hP 4 (pc' := 48) (st' := [(2, (Ad E 1)), (0, 0), (0, e), (2, (Ad E 1))]) (lo' := [(0, (2, (Ad E 1))), (1, (0, e)), (2, (0, ch)), (3, (1, sh)), (5, (0, l5_h3))]) rfl ?_
        refine r_getC hX hP rfl fl_12_92 hS (fun s6 => ?_)
        refine r_ex hX hP 1 (pc' := 52) (st' := [(0, e), (2, (Ad E 26)), (0, 0), (0, e), (2, (Ad E 1))]) (lo' := [(0, (2, (Ad E 1))), (1, (0, e)), (2, (0, ch)), (3, (1, sh)), (5, (0, l5_h3))]) rfl ?_
        refine r_iald hX hP rfl al_26 s6 (by first | decide | omega) (by first | decide | omega) (fun x7 x7e x7a x7b => ?_)
        refine r_ex hX hP 3 (pc' := 56) (st' := [(1, sh), (0, ch), (0, 0), (0, x7), (0, 0), (0, e), (2, (Ad E 1))]) (lo' := [(0, (2, (Ad E 1))), (1, (0, e)), (2, (0, ch)), (3, (1, sh)), (5, (0, l5_h3))]) rfl ?_
        have mi8 : MI E (up (up (up (up (hv [] [89] G Gh3) 1 (Ad E 1) 122 0) 1 (Ad E 1) 124 0) 1 (Ad E 1) 123 0) 1 (Ad E 1) 120 (-1)) := mi_keep mi rfl rfl rfl rfl rfl rfl (fun _ => rfl) (fun _ => rfl) (fun _ => rfl) (fun _ => rfl) (fun _ => rfl) (fun _ => rfl) (fun _ => rfl) (fun _ => rfl) (fun _ => rfl) (fun _ => rfl) (fun _ => rfl) (fun _ => rfl) (fun _ => rfl)
        refine r_callV gd hX hP rfl cv_12_607 hS (d' := 33) (mc' := 0) (ms' := 0) (as' := [(0, e), (0, 0), (0, x7), (0, 0), (0, ch), (1, sh)]) (st := []) (by first | decide | omega) (by first | decide | omega) (by first | decide | omega) rfl rfl (Nat.le_of_ble_eq_true rfl) (c_X12_brings E S 31 (up (up (up (up (hv [] [89] G Gh3) 1 (Ad E 1) 122 0) 1 (Ad E 1) 124 0) 1 (Ad E 1) 123 0) 1 (Ad E 1) 120 (-1)) e 0 x7 0 ch sh hS events events_e x7 x7e (by first | decide | omega) (by first | decide | omega) (by first | decide | omega) (by first | decide | omega) (by first | decide | omega) (by first | decide | omega) (by first | decide | omega) (by first | decide | omega) (by first | decide | omega) (by first | decide | omega) (by first | decide | omega) (by first | decide | omega) (by first | decide | omega) (by first | decide | omega) mi8 (by first | decide | omega)) ?_
        rintro _ _ _ ⟨rfl, ⟨G9, rfl⟩, rfl, -⟩
        exact r_retV hX hP rfl rfl (by first | decide | omega) (by first | decide | omega) ⟨rfl, ⟨_, (hq_call (hq_up (hq_up (hq_up (hq_up (hq_loop (hq_refl _ _ _) rfl) rfl) rfl) rfl) rfl) rfl).symm⟩, rfl, trivial⟩
      · skip
        refine r_ex hX hP 1 (pc' := 11) (st' := [(2, (Ad E 1))]) (lo' := [(0, (2, (Ad E 1))), (1, (0, e)), (2, (0, ch)), (3, (1, sh)), (5, (0, l5_h3))]) rfl ?_
        refine r_getC hX hP rfl fl_12_292 hS (fun s10 => ?_)
        refine r_ex hX hP 2 (pc' := 17) (st' := [(1, 0), (0, l5_h3), (2, (Ad E 89))]) (lo' := [(0, (2, (Ad E 1))), (1, (0, e)), (2, (0, ch)), (3, (1, sh)), (5, (0, l5_h3))]) rfl ?_
        refine r_lastK hX hP rfl al_89 s10 (by first | decide | omega) (by first | decide | omega) (by first | decide | omega) (by first | decide | omega) (fun h11 => ?_)
        refine r_ex hX hP 2 (pc' := 3) (st' := []) (lo' := [(0, (2, (Ad E 1))), (1, (0, e)), (2, (0, ch)), (3, (1, sh)), (5, (0, (l5_h3 + 1)))]) rfl ?_
        refine r_eqG (X := X) (hq_up (hq_base _ _ _ _) rfl) ?_
        exact ih3 (l5_h3 + 1) _ (by first | decide | omega) (by first | decide | omega) (by first | decide | omega)
  refine r_eqG (X := X) (hq_refl [] [89] _) ?_
  exact loop3 ((20 - 0) + 1 : Int).toNat 0 _ (by first | decide | omega) (by first | decide | omega) (by first | decide | omega)
set_option maxRecDepth 100000 in
set_option maxHeartbeats 4000000 in
theorem c_X12_bringsOf (E : En) (S : Sg) (G : Gh) (e ch sh : Int) (hS : S (Ad E 1) = 1) (events : Int) (events_e : events = G 1 (Ad E 1) 9) (e_a : 0 ≤ e) (e_b : e ≤ 15) (ch_a : (-2147483648) ≤ ch) (ch_b : ch ≤ 2147483647) (sh_a : (-2147483648) ≤ sh) (sh_b : sh ≤ 2147483647) (pre0 : e < events) (mi : MI E G) : Calls E mX12_bringsOf [(2, (Ad E 1)), (0, e), (0, ch), (0, sh)] S G 35 0 0 (fun r S' G' => S = S' ∧ (∃ G1, hv [120, 122, 123, 124] [89] G G1 = G') ∧ ∃ z : Int, r = some (1, z) ∧ (-9223372036854775808) ≤ z ∧ z ≤ 9223372036854775807) := by
  refine calls_by [(0, (2, (Ad E 1))), (1, (0, e)), (2, (0, ch)), (3, (0, sh))] rfl rfl (Nat.le_of_ble_eq_true rfl) (fun X hX => ?_)
  have hP := hPX12_bringsOf
  refine r_peekI hX (tl1 9 rfl (by decide)) hS (fun events_o events_oe events_oa events_ob => ?_)
  obtain rfl : events = events_o := events_e.trans events_oe.symm
  refine r_ex hX hP 4 (pc' := 4) (st' := [(0, sh), (0, ch), (0, e), (2, (Ad E 1))]) (lo' := [(0, (2, (Ad E 1))), (1, (0, e)), (2, (0, ch)), (3, (0, sh))]) rfl ?_
  refine r_i2l hX hP rfl (by first | decide | omega) (by first | decide | omega) ?_
  refine r_callV gd hX hP rfl cv_12_624 hS (d' := 34) (mc' := 0) (ms' := 0) (as' := [(0, e), (0, ch), (1, sh)]) (st := []) (by first | decide | omega) (by first | decide | omega) (by first | decide | omega) rfl rfl (Nat.le_of_ble_eq_true rfl) (c_X12_getsOf E S G e ch sh hS events events_e (by first | decide | omega) (by first | decide | omega) (by first | decide | omega) (by first | decide | omega) (by first | decide | omega) (by first | decide | omega) (by first | decide | omega) mi) ?_
  rintro _ _ _ ⟨rfl, ⟨G1, rfl⟩, rfl, -⟩
  refine r_ex hX hP 1 (pc' := 9) (st' := [(2, (Ad E 1))]) (lo' := [(0, (2, (Ad E 1))), (1, (0, e)), (2, (0, ch)), (3, (0, sh))]) rfl ?_
  refine r_getC hX hP rfl fl_12_292 hS (fun s2 => ?_)
  refine r_ex hX hP 1 (pc' := 13) (st' := [(2, (Ad E 1)), (2, (Ad E 89))]) (lo' := [(0, (2, (Ad E 1))), (1, (0, e)), (2, (0, ch)), (3, (0, sh))]) rfl ?_
  refine r_getC hX hP rfl fl_12_74 hS (fun s3 => ?_)
  refine r_ex hX hP 1 (pc' := 17) (st' := [(0, e), (2, (Ad E 20)), (2, (Ad E 89))]) (lo' := [(0, (2, (Ad E 1))), (1, (0, e)), (2, (0, ch)), (3, (0, sh))]) rfl ?_
  refine r_iald hX hP rfl al_20 s3 (by first | decide | omega) (by first | decide | omega) (fun x4 x4e x4a x4b => ?_)
  refine r_ex hX hP 1 (pc' := 19) (st' := [(0, x4), (2, (Ad E 89)), (0, x4), (2, (Ad E 89))]) (lo' := [(0, (2, (Ad E 1))), (1, (0, e)), (2, (0, ch)), (3, (0, sh))]) rfl ?_
  refine r_lald hX hP rfl al_89 s2 (by first | decide | omega) (by first | decide | omega) (fun x5 x5e x5a x5b => ?_)
  refine r_ex hX hP 1 (pc' := 21) (st' := [(0, sh), (1, x5), (0, x4), (2, (Ad E 89))]) (lo' := [(0, (2, (Ad E 1))), (1, (0, e)), (2, (0, ch)), (3, (0, sh))]) rfl ?_
  refine r_i2l hX hP rfl (by first | decide | omega) (by first | decide | omega) ?_
  refine r_ex hX hP 1 (pc' := 23) (st' := [(2, (Ad E 1)), (1, sh), (1, x5), (0, x4), (2, (Ad E 89))]) (lo' := [(0, (2, (Ad E 1))), (1, (0, e)), (2, (0, ch)), (3, (0, sh))]) rfl ?_
  refine r_getL hX hP rfl fl_12_621 hS (fun gf6 gf6e gf6a gf6b => ?_)
  refine r_mminL hX hP rfl (tbg sg10 119 rfl rfl) (tbg sg5 210 rfl rfl) (tbg sg1 14 rfl rfl) (tbg sg5 211 rfl rfl) (by decide) (by decide) (by decide) (Nat.le_of_ble_eq_true rfl) (by first | decide | omega) (by first | decide | omega) (by first | decide | omega) (by first | decide | omega) (fun c7 => ?_) (fun c7 => ?_)
  · skip
    refine r_ex hX hP 1 (pc' := 30) (st' := [(0, sh), (1, sh), (1, x5), (0, x4), (2, (Ad E 89))]) (lo' := [(0, (2, (Ad E 1))), (1, (0, e)), (2, (0, ch)), (3, (0, sh))]) rfl ?_
    refine r_i2l hX hP rfl (by first | decide | omega) (by first | decide | omega) ?_
    refine r_ex hX hP 1 (pc' := 32) (st' := [(2, (Ad E 1)), (1, sh), (1, sh), (1, x5), (0, x4), (2, (Ad E 89))]) (lo' := [(0, (2, (Ad E 1))), (1, (0, e)), (2, (0, ch)), (3, (0, sh))]) rfl ?_
    refine r_getL hX hP rfl fl_12_618 hS (fun gf8 gf8e gf8a gf8b => ?_)
    refine r_mminL hX hP rfl (tbg sg10 119 rfl rfl) (tbg sg5 210 rfl rfl) (tbg sg1 14 rfl rfl) (tbg sg5 211 rfl rfl) (by decide) (by decide) (by decide) (Nat.le_of_ble_eq_true rfl) (by first | decide | omega) (by first | decide | omega) (by first | decide | omega) (by first | decide | omega) (fun c9 => ?_) (fun c9 => ?_)
    · skip
      refine r_ex hX hP 2 (pc' := 40) (st' := [(1, (x5 - (sh + sh))), (0, x4), (2, (Ad E 89))]) (lo' := [(0, (2, (Ad E 1))), (1, (0, e)), (2, (0, ch)), (3, (0, sh))]) rfl ?_
      refine r_hvL hX (fun w10 w10a w10b w10e => ?_)
      refine r_lastK hX hP rfl al_89 s2 (by first | decide | omega) (by first | decide | omega) (by first | decide | omega) (by first | decide | omega) (fun h11 => ?_)
      refine r_ex hX hP 1 (pc' := 42) (st' := [(2, (Ad E 1))]) (lo' := [(0, (2, (Ad E 1))), (1, (0, e)), (2, (0, ch)), (3, (0, sh))]) rfl ?_
      refine r_getL hX hP rfl fl_12_615 hS (fun gf12 gf12e gf12a gf12b => ?_)
      refine r_ex hX hP 3 (pc' := 50) (st' := []) (lo' := [(0, (2, (Ad E 1))), (1, (0, e)), (2, (0, ch)), (3, (0, sh)), (4, (1, gf12)), (6, (0, 0))]) rfl ?_
      have loop50 : ∀ (nF : Nat) (l4_h50 l6_h50 : Int), (-9223372036854775808) ≤ l4_h50 → l4_h50 ≤ 9223372036854775807 → 0 ≤ l6_h50 → l6_h50 ≤ 20 → 20 - l6_h50 < (nF : Int) → X 0 0 50 [] [(0, (2, (Ad E 1))), (1, (0, e)), (2, (0, ch)), (3, (0, sh)), (4, (1, l4_h50)), (6, (0, l6_h50))] S (up (hv [120, 122, 123, 124] [89] G G1) 89 (Ad E 89) x4 w10) := by
        intro nF
        induction nF with
        | zero => intro l4_h50 l6_h50 yh50_0 yh50_1 yh50_2 yh50_3 ym50; exfalso; omega
        | succ nF ih50 =>
          intro l4_h50 l6_h50 yh50_0 yh50_1 yh50_2 yh50_3 ym50
          refine r_ex hX hP 2 (pc' := 54) (st' := [(0, 20), (0, l6_h50)]) (lo' := [(0, (2, (Ad E 1))), (1, (0, e)), (2, (0, ch)), (3, (0, sh)), (4, (1, l4_h50)), (6, (0, l6_h50))]) rfl ?_
          refine r_ic_ge hX hP rfl (tgt := 84) rfl (by first | decide | omega) (by first | decide | omega) (by first | decide | omega) (by first | decide | omega) (fun c13 => ?_) (fun c13 => ?_)
          · skip
            refine r_ex hX hP 1 (pc' := 86) (st' := [(1, l4_h50)]) (lo' := [(0, (2, (Ad E 1))), (1, (0, e)), (2, (0, ch)), (3, (0, sh)), (4, (1, l4_h50)), (6, (0, l6_h50))]) rfl ?_
            exact r_retL hX hP rfl rfl (by first | decide | omega) (by first | decide | omega) ⟨rfl, ⟨_, (hq_up (hq_call (hq_refl _ _ _) rfl) rfl).symm⟩, l4_h50, rfl, (by first | decide | omega)⟩
          · skip
            refine r_ex hX hP 2 (pc' := 60) (st' := [(2, (Ad E 1)), (1, l4_h50)]) (lo' := [(0, (2, (Ad E 1))), (1, (0, e)), (2, (0, ch)), (3, (0, sh)), (4, (1, l4_h50)), (6, (0, l6_h50))]) rfl ?_
            refine r_getC hX hP rfl fl_12_292 hS (fun _ => ?_)
            refine r_ex hX hP 1 (pc' := 65) (st' := [(0, l6_h50), (2, (Ad E 89)), (1, l4_h50)]) (lo' := [(0, (2, (Ad E 1))), (1, (0, e)), (2, (0, ch)), (3, (0, sh)), (4, (1, l4_h50)), (6, (0, l6_h50))]) rfl ?_
            refine r_lald hX hP rfl al_89 s2 (by first | decide | omega) (by first | decide | omega) (fun x14 x14e x14a x14b => ?_)
            refine r_ex hX hP 1 (pc' := 67) (st' := [(2, (Ad E 1)), (1, x14), (1, l4_h50)]) (lo' := [(0, (2, (Ad E 1))), (1, (0, e)), (2, (0, ch)), (3, (0, sh)), (4, (1, l4_h50)), (6, (0, l6_h50))]) rfl ?_
            refine r_getC hX hP rfl fl_12_161 hS (fun s15 => ?_)
            refine r_ex hX hP 1 (pc' := 72) (st' := [(0, l6_h50), (2, (Ad E 49)), (1, x14), (1, l4_h50)]) (lo' := [(0, (2, (Ad E 1))), (1, (0, e)), (2, (0, ch)), (3, (0, sh)), (4, (1, l4_h50)), (6, (0, l6_h50))]) rfl ?_
            refine r_iald hX hP rfl al_49 s15 (by first | decide | omega) (by first | decide | omega) (fun x16 x16e x16a x16b => ?_)
            refine r_i2l hX hP rfl (by first | decide | omega) (by first | decide | omega) ?_
            refine r_ex hX hP 1 (pc' := 75) (st' := [(1, (x14 * x16)), (1, l4_h50)]) (lo' := [(0, (2, (Ad E 1))), (1, (0, e)), (2, (0, ch)), (3, (0, sh)), (4, (1, l4_h50)), (6, (0, l6_h50))]) rfl ?_
            refine r_hvL hX (fun w17 w17a w17b w17e => ?_)
            refine r_ex hX hP 1 (pc' := 76) (st' := [(1, (l4_h50 + w17))]) (lo' := [(0, (2, (Ad E 1))), (1, (0, e)), (2, (0, ch)), (3, (0, sh)), (4, (1, l4_h50)), (6, (0, l6_h50))]) rfl ?_
            refine r_hvL hX (fun w18 w18a w18b w18e => ?_)
            refine r_ex hX hP 3 (pc' := 50) (st' := []) (lo' := [(0, (2, (Ad E 1))), (1, (0, e)), (2, (0, ch)), (3, (0, sh)), (4, (1, w18)), (6, (0, (l6_h50 + 1)))]) rfl ?_
            exact ih50 w18 (l6_h50 + 1) (by first | decide | omega) (by first | decide | omega) (by first | decide | omega) (by first | decide | omega) (by first | decide | omega)
      exact loop50 ((20 - 0) + 1 : Int).toNat gf12 0 (by first | decide | omega) (by first | decide | omega) (by first | decide | omega) (by first | decide | omega) (by first | decide | omega)
    · skip
      refine r_ex hX hP 1 (pc' := 39) (st' := [(1, (sh + gf8)), (1, x5), (0, x4), (2, (Ad E 89))]) (lo' := [(0, (2, (Ad E 1))), (1, (0, e)), (2, (0, ch)), (3, (0, sh))]) rfl ?_
      refine r_hvL hX (fun w19 w19a w19b w19e => ?_)
      refine r_ex hX hP 1 (pc' := 40) (st' := [(1, (x5 - w19)), (0, x4), (2, (Ad E 89))]) (lo' := [(0, (2, (Ad E 1))), (1, (0, e)), (2, (0, ch)), (3, (0, sh))]) rfl ?_
      refine r_hvL hX (fun w20 w20a w20b w20e => ?_)
      refine r_lastK hX hP rfl al_89 s2 (by first | decide | omega) (by first | decide | omega) (by first | decide | omega) (by first | decide | omega) (fun h21 => ?_)
      refine r_ex hX hP 1 (pc' := 42) (st' := [(2, (Ad E 1))]) (lo' := [(0, (2, (Ad E 1))), (1, (0, e)), (2, (0, ch)), (3, (0, sh))]) rfl ?_
      refine r_getL hX hP rfl fl_12_615 hS (fun gf22 gf22e gf22a gf22b => ?_)
      refine r_ex hX hP 3 (pc' := 50) (st' := []) (lo' := [(0, (2, (Ad E 1))), (1, (0, e)), (2, (0, ch)), (3, (0, sh)), (4, (1, gf22)), (6, (0, 0))]) rfl ?_
      have loop50 : ∀ (nF : Nat) (l4_h50 l6_h50 : Int), (-9223372036854775808) ≤ l4_h50 → l4_h50 ≤ 9223372036854775807 → 0 ≤ l6_h50 → l6_h50 ≤ 20 → 20 - l6_h50 < (nF : Int) → X 0 0 50 [] [(0, (2, (Ad E 1))), (1, (0, e)), (2, (0, ch)), (3, (0, sh)), (4, (1, l4_h50)), (6, (0, l6_h50))] S (up (hv [120, 122, 123, 124] [89] G G1) 89 (Ad E 89) x4 w20) := by
        intro nF
        induction nF with
        | zero => intro l4_h50 l6_h50 yh50_0 yh50_1 yh50_2 yh50_3 ym50; exfalso; omega
        | succ nF ih50 =>
          intro l4_h50 l6_h50 yh50_0 yh50_1 yh50_2 yh50_3 ym50
          refine r_ex hX hP 2 (pc' := 54) (st' := [(0, 20), (0, l6_h50)]) (lo' := [(0, (2, (Ad E 1))), (1, (0, e)), (2, (0, ch)), (3, (0, sh)), (4, (1, l4_h50)), (6, (0, l6_h50))]) rfl ?_
          refine r_ic_ge hX hP rfl (tgt := 84) rfl (by first | decide | omega) (by first | decide | omega) (by first | decide | omega) (by first | decide | omega) (fun c23 => ?_) (fun c23 => ?_)
          · skip
            refine r_ex hX hP 1 (pc' := 86) (st' := [(1, l4_h50)]) (lo' := [(0, (2, (Ad E 1))), (1, (0, e)), (2, (0, ch)), (3, (0, sh)), (4, (1, l4_h50)), (6, (0, l6_h50))]) rfl ?_
            exact r_retL hX hP rfl rfl (by first | decide | omega) (by first | decide | omega) ⟨rfl, ⟨_, (hq_up (hq_call (hq_refl _ _ _) rfl) rfl).symm⟩, l4_h50, rfl, (by first | decide | omega)⟩
          · skip
            refine r_ex hX hP 2 (pc' := 60) (st' := [(2, (Ad E 1)), (1, l4_h50)]) (lo' := [(0, (2, (Ad E 1))), (1, (0, e)), (2, (0, ch)), (3, (0, sh)), (4, (1, l4_h50)), (6, (0, l6_h50))]) rfl ?_
            refine r_getC hX hP rfl fl_12_292 hS (fun _ => ?_)
            refine r_ex hX hP 1 (pc' := 65) (st' := [(0, l6_h50), (2, (Ad E 89)), (1, l4_h50)]) (lo' := [(0, (2, (Ad E 1))), (1, (0, e)), (2, (0, ch)), (3, (0, sh)), (4, (1, l4_h50)), (6, (0, l6_h50))]) rfl ?_
            refine r_lald hX hP rfl al_89 s2 (by first | decide | omega) (by first | decide | omega) (fun x24 x24e x24a x24b => ?_)
            refine r_ex hX hP 1 (pc' := 67) (st' := [(2, (Ad E 1)), (1, x24), (1, l4_h50)]) (lo' := [(0, (2, (Ad E 1))), (1, (0, e)), (2, (0, ch)), (3, (0, sh)), (4, (1, l4_h50)), (6, (0, l6_h50))]) rfl ?_
            refine r_getC hX hP rfl fl_12_161 hS (fun s25 => ?_)
            refine r_ex hX hP 1 (pc' := 72) (st' := [(0, l6_h50), (2, (Ad E 49)), (1, x24), (1, l4_h50)]) (lo' := [(0, (2, (Ad E 1))), (1, (0, e)), (2, (0, ch)), (3, (0, sh)), (4, (1, l4_h50)), (6, (0, l6_h50))]) rfl ?_
            refine r_iald hX hP rfl al_49 s25 (by first | decide | omega) (by first | decide | omega) (fun x26 x26e x26a x26b => ?_)
            refine r_i2l hX hP rfl (by first | decide | omega) (by first | decide | omega) ?_
            refine r_ex hX hP 1 (pc' := 75) (st' := [(1, (x24 * x26)), (1, l4_h50)]) (lo' := [(0, (2, (Ad E 1))), (1, (0, e)), (2, (0, ch)), (3, (0, sh)), (4, (1, l4_h50)), (6, (0, l6_h50))]) rfl ?_
            refine r_hvL hX (fun w27 w27a w27b w27e => ?_)
            refine r_ex hX hP 1 (pc' := 76) (st' := [(1, (l4_h50 + w27))]) (lo' := [(0, (2, (Ad E 1))), (1, (0, e)), (2, (0, ch)), (3, (0, sh)), (4, (1, l4_h50)), (6, (0, l6_h50))]) rfl ?_
            refine r_hvL hX (fun w28 w28a w28b w28e => ?_)
            refine r_ex hX hP 3 (pc' := 50) (st' := []) (lo' := [(0, (2, (Ad E 1))), (1, (0, e)), (2, (0, ch)), (3, (0, sh)), (4, (1, w28)), (6, (0, (l6_h50 + 1)))]) rfl ?_
            exact ih50 w28 (l6_h50 + 1) (by first | decide | omega) (by first | decide | omega) (by first | decide | omega) (by first | decide | omega) (by first | decide | omega)
      exact loop50 ((20 - 0) + 1 : Int).toNat gf22 0 (by first | decide | omega) (by first | decide | omega) (by first | decide | omega) (by first | decide | omega) (by first | decide | omega)
  · skip
    refine r_ex hX hP 1 (pc' := 30) (st' := [(0, sh), (1, gf6), (1, x5), (0, x4), (2, (Ad E 89))]) (lo' := [(0, (2, (Ad E 1))), (1, (0, e)), (2, (0, ch)), (3, (0, sh))]) rfl ?_
    refine r_i2l hX hP rfl (by first | decide | omega) (by first | decide | omega) ?_
    refine r_ex hX hP 1 (pc' := 32) (st' := [(2, (Ad E 1)), (1, sh), (1, gf6), (1, x5), (0, x4), (2, (Ad E 89))]) (lo' := [(0, (2, (Ad E 1))), (1, (0, e)), (2, (0, ch)), (3, (0, sh))]) rfl ?_
    refine r_getL hX hP rfl fl_12_618 hS (fun gf29 gf29e gf29a gf29b => ?_)
    refine r_mminL hX hP rfl (tbg sg10 119 rfl rfl) (tbg sg5 210 rfl rfl) (tbg sg1 14 rfl rfl) (tbg sg5 211 rfl rfl) (by decide) (by decide) (by decide) (Nat.le_of_ble_eq_true rfl) (by first | decide | omega) (by first | decide | omega) (by first | decide | omega) (by first | decide | omega) (fun c30 => ?_) (fun c30 => ?_)
    · skip
      refine r_ex hX hP 1 (pc' := 39) (st' := [(1, (gf6 + sh)), (1, x5), (0, x4), (2, (Ad E 89))]) (lo' := [(0, (2, (Ad E 1))), (1, (0, e)), (2, (0, ch)), (3, (0, sh))]) rfl ?_
      refine r_hvL hX (fun w31 w31a w31b w31e => ?_)
      refine r_ex hX hP 1 (pc' := 40) (st' := [(1, (x5 - w31)), (0, x4), (2, (Ad E 89))]) (lo' := [(0, (2, (Ad E 1))), (1, (0, e)), (2, (0, ch)), (3, (0, sh))]) rfl ?_
      refine r_hvL hX (fun w32 w32a w32b w32e => ?_)
      refine r_lastK hX hP rfl al_89 s2 (by first | decide | omega) (by first | decide | omega) (by first | decide | omega) (by first | decide | omega) (fun h33 => ?_)
      refine r_ex hX hP 1 (pc' := 42) (st' := [(2, (Ad E 1))]) (lo' := [(0, (2, (Ad E 1))), (1, (0, e)), (2, (0, ch)), (3, (0, sh))]) rfl ?_
      refine r_getL hX hP rfl fl_12_615 hS (fun gf34 gf34e gf34a gf34b => ?_)
      refine r_ex hX hP 3 (pc' := 50) (st' := []) (lo' := [(0, (2, (Ad E 1))), (1, (0, e)), (2, (0, ch)), (3, (0, sh)), (4, (1, gf34)), (6, (0, 0))]) rfl ?_
      have loop50 : ∀ (nF : Nat) (l4_h50 l6_h50 : Int), (-9223372036854775808) ≤ l4_h50 → l4_h50 ≤ 9223372036854775807 → 0 ≤ l6_h50 → l6_h50 ≤ 20 → 20 - l6_h50 < (nF : Int) → X 0 0 50 [] [(0, (2, (Ad E 1))), (1, (0, e)), (2, (0, ch)), (3, (0, sh)), (4, (1, l4_h50)), (6, (0, l6_h50))] S (up (hv [120, 122, 123, 124] [89] G G1) 89 (Ad E 89) x4 w32) := by
        intro nF
        induction nF with
        | zero => intro l4_h50 l6_h50 yh50_0 yh50_1 yh50_2 yh50_3 ym50; exfalso; omega
        | succ nF ih50 =>
          intro l4_h50 l6_h50 yh50_0 yh50_1 yh50_2 yh50_3 ym50
          refine r_ex hX hP 2 (pc' := 54) (st' := [(0, 20), (0, l6_h50)]) (lo' := [(0, (2, (Ad E 1))), (1, (0, e)), (2, (0, ch)), (3, (0, sh)), (4, (1, l4_h50)), (6, (0, l6_h50))]) rfl ?_
          refine r_ic_ge hX hP rfl (tgt := 84) rfl (by first | decide | omega) (by first | decide | omega) (by first | decide | omega) (by first | decide | omega) (fun c35 => ?_) (fun c35 => ?_)
          · skip
            refine r_ex hX hP 1 (pc' := 86) (st' := [(1, l4_h50)]) (lo' := [(0, (2, (Ad E 1))), (1, (0, e)), (2, (0, ch)), (3, (0, sh)), (4, (1, l4_h50)), (6, (0, l6_h50))]) rfl ?_
            exact r_retL hX hP rfl rfl (by first | decide | omega) (by first | decide | omega) ⟨rfl, ⟨_, (hq_up (hq_call (hq_refl _ _ _) rfl) rfl).symm⟩, l4_h50, rfl, (by first | decide | omega)⟩
          · skip
            refine r_ex hX hP 2 (pc' := 60) (st' := [(2, (Ad E 1)), (1, l4_h50)]) (lo' := [(0, (2, (Ad E 1))), (1, (0, e)), (2, (0, ch)), (3, (0, sh)), (4, (1, l4_h50)), (6, (0, l6_h50))]) rfl ?_
            refine r_getC hX hP rfl fl_12_292 hS (fun _ => ?_)
            refine r_ex hX hP 1 (pc' := 65) (st' := [(0, l6_h50), (2, (Ad E 89)), (1, l4_h50)]) (lo' := [(0, (2, (Ad E 1))), (1, (0, e)), (2, (0, ch)), (3, (0, sh)), (4, (1, l4_h50)), (6, (0, l6_h50))]) rfl ?_
            refine r_lald hX hP rfl al_89 s2 (by first | decide | omega) (by first | decide | omega) (fun x36 x36e x36a x36b => ?_)
            refine r_ex hX hP 1 (pc' := 67) (st' := [(2, (Ad E 1)), (1, x36), (1, l4_h50)]) (lo' := [(0, (2, (Ad E 1))), (1, (0, e)), (2, (0, ch)), (3, (0, sh)), (4, (1, l4_h50)), (6, (0, l6_h50))]) rfl ?_
            refine r_getC hX hP rfl fl_12_161 hS (fun s37 => ?_)
            refine r_ex hX hP 1 (pc' := 72) (st' := [(0, l6_h50), (2, (Ad E 49)), (1, x36), (1, l4_h50)]) (lo' := [(0, (2, (Ad E 1))), (1, (0, e)), (2, (0, ch)), (3, (0, sh)), (4, (1, l4_h50)), (6, (0, l6_h50))]) rfl ?_
            refine r_iald hX hP rfl al_49 s37 (by first | decide | omega) (by first | decide | omega) (fun x38 x38e x38a x38b => ?_)
            refine r_i2l hX hP rfl (by first | decide | omega) (by first | decide | omega) ?_
            refine r_ex hX hP 1 (pc' := 75) (st' := [(1, (x36 * x38)), (1, l4_h50)]) (lo' := [(0, (2, (Ad E 1))), (1, (0, e)), (2, (0, ch)), (3, (0, sh)), (4, (1, l4_h50)), (6, (0, l6_h50))]) rfl ?_
            refine r_hvL hX (fun w39 w39a w39b w39e => ?_)
            refine r_ex hX hP 1 (pc' := 76) (st' := [(1, (l4_h50 + w39))]) (lo' := [(0, (2, (Ad E 1))), (1, (0, e)), (2, (0, ch)), (3, (0, sh)), (4, (1, l4_h50)), (6, (0, l6_h50))]) rfl ?_
            refine r_hvL hX (fun w40 w40a w40b w40e => ?_)
            refine r_ex hX hP 3 (pc' := 50) (st' := []) (lo' := [(0, (2, (Ad E 1))), (1, (0, e)), (2, (0, ch)), (3, (0, sh)), (4, (1, w40)), (6, (0, (l6_h50 + 1)))]) rfl ?_
            exact ih50 w40 (l6_h50 + 1) (by first | decide | omega) (by first | decide | omega) (by first | decide | omega) (by first | decide | omega) (by first | decide | omega)
      exact loop50 ((20 - 0) + 1 : Int).toNat gf34 0 (by first | decide | omega) (by first | decide | omega) (by first | decide | omega) (by first | decide | omega) (by first | decide | omega)
    · skip
      refine r_ex hX hP 1 (pc' := 39) (st' := [(1, (gf6 + gf29)), (1, x5), (0, x4), (2, (Ad E 89))]) (lo' := [(0, (2, (Ad E 1))), (1, (0, e)), (2, (0, ch)), (3, (0, sh))]) rfl ?_
      refine r_hvL hX (fun w41 w41a w41b w41e => ?_)
      refine r_ex hX hP 1 (pc' := 40) (st' := [(1, (x5 - w41)), (0, x4), (2, (Ad E 89))]) (lo' := [(0, (2, (Ad E 1))), (1, (0, e)), (2, (0, ch)), (3, (0, sh))]) rfl ?_
      refine r_hvL hX (fun w42 w42a w42b w42e => ?_)
      refine r_lastK hX hP rfl al_89 s2 (by first | decide | omega) (by first | decide | omega) (by first | decide | omega) (by first | decide | omega) (fun h43 => ?_)
      refine r_ex hX hP 1 (pc' := 42) (st' := [(2, (Ad E 1))]) (lo' := [(0, (2, (Ad E 1))), (1, (0, e)), (2, (0, ch)), (3, (0, sh))]) rfl ?_
      refine r_getL hX hP rfl fl_12_615 hS (fun gf44 gf44e gf44a gf44b => ?_)
      refine r_ex hX hP 3 (pc' := 50) (st' := []) (lo' := [(0, (2, (Ad E 1))), (1, (0, e)), (2, (0, ch)), (3, (0, sh)), (4, (1, gf44)), (6, (0, 0))]) rfl ?_
      have loop50 : ∀ (nF : Nat) (l4_h50 l6_h50 : Int), (-9223372036854775808) ≤ l4_h50 → l4_h50 ≤ 9223372036854775807 → 0 ≤ l6_h50 → l6_h50 ≤ 20 → 20 - l6_h50 < (nF : Int) → X 0 0 50 [] [(0, (2, (Ad E 1))), (1, (0, e)), (2, (0, ch)), (3, (0, sh)), (4, (1, l4_h50)), (6, (0, l6_h50))] S (up (hv [120, 122, 123, 124] [89] G G1) 89 (Ad E 89) x4 w42) := by
        intro nF
        induction nF with
        | zero => intro l4_h50 l6_h50 yh50_0 yh50_1 yh50_2 yh50_3 ym50; exfalso; omega
        | succ nF ih50 =>
          intro l4_h50 l6_h50 yh50_0 yh50_1 yh50_2 yh50_3 ym50
          refine r_ex hX hP 2 (pc' := 54) (st' := [(0, 20), (0, l6_h50)]) (lo' := [(0, (2, (Ad E 1))), (1, (0, e)), (2, (0, ch)), (3, (0, sh)), (4, (1, l4_h50)), (6, (0, l6_h50))]) rfl ?_
          refine r_ic_ge hX hP rfl (tgt := 84) rfl (by first | decide | omega) (by first | decide | omega) (by first | decide | omega) (by first | decide | omega) (fun c45 => ?_) (fun c45 => ?_)
          · skip
            refine r_ex hX hP 1 (pc' := 86) (st' := [(1, l4_h50)]) (lo' := [(0, (2, (Ad E 1))), (1, (0, e)), (2, (0, ch)), (3, (0, sh)), (4, (1, l4_h50)), (6, (0, l6_h50))]) rfl ?_
            exact r_retL hX hP rfl rfl (by first | decide | omega) (by first | decide | omega) ⟨rfl, ⟨_, (hq_up (hq_call (hq_refl _ _ _) rfl) rfl).symm⟩, l4_h50, rfl, (by first | decide | omega)⟩
          · skip
            refine r_ex hX hP 2 (pc' := 60) (st' := [(2, (Ad E 1)), (1, l4_h50)]) (lo' := [(0, (2, (Ad E 1))), (1, (0, e)), (2, (0, ch)), (3, (0, sh)), (4, (1, l4_h50)), (6, (0, l6_h50))]) rfl ?_
            refine r_getC hX hP rfl fl_12_292 hS (fun _ => ?_)
            refine r_ex hX hP 1 (pc' := 65) (st' := [(0, l6_h50), (2, (Ad E 89)), (1, l4_h50)]) (lo' := [(0, (2, (Ad E 1))), (1, (0, e)), (2, (0, ch)), (3, (0, sh)), (4, (1, l4_h50)), (6, (0, l6_h50))]) rfl ?_
            refine r_lald hX hP rfl al_89 s2 (by first | decide | omega) (by first | decide | omega) (fun x46 x46e x46a x46b => ?_)
            refine r_ex hX hP 1 (pc' := 67) (st' := [(2, (Ad E 1)), (1, x46), (1, l4_h50)]) (lo' := [(0, (2, (Ad E 1))), (1, (0, e)), (2, (0, ch)), (3, (0, sh)), (4, (1, l4_h50)), (6, (0, l6_h50))]) rfl ?_
            refine r_getC hX hP rfl fl_12_161 hS (fun s47 => ?_)
            refine r_ex hX hP 1 (pc' := 72) (st' := [(0, l6_h50), (2, (Ad E 49)), (1, x46), (1, l4_h50)]) (lo' := [(0, (2, (Ad E 1))), (1, (0, e)), (2, (0, ch)), (3, (0, sh)), (4, (1, l4_h50)), (6, (0, l6_h50))]) rfl ?_
            refine r_iald hX hP rfl al_49 s47 (by first | decide | omega) (by first | decide | omega) (fun x48 x48e x48a x48b => ?_)
            refine r_i2l hX hP rfl (by first | decide | omega) (by first | decide | omega) ?_
            refine r_ex hX hP 1 (pc' := 75) (st' := [(1, (x46 * x48)), (1, l4_h50)]) (lo' := [(0, (2, (Ad E 1))), (1, (0, e)), (2, (0, ch)), (3, (0, sh)), (4, (1, l4_h50)), (6, (0, l6_h50))]) rfl ?_
            refine r_hvL hX (fun w49 w49a w49b w49e => ?_)
            refine r_ex hX hP 1 (pc' := 76) (st' := [(1, (l4_h50 + w49))]) (lo' := [(0, (2, (Ad E 1))), (1, (0, e)), (2, (0, ch)), (3, (0, sh)), (4, (1, l4_h50)), (6, (0, l6_h50))]) rfl ?_
            refine r_hvL hX (fun w50 w50a w50b w50e => ?_)
            refine r_ex hX hP 3 (pc' := 50) (st' := []) (lo' := [(0, (2, (Ad E 1))), (1, (0, e)), (2, (0, ch)), (3, (0, sh)), (4, (1, w50)), (6, (0, (l6_h50 + 1)))]) rfl ?_
            exact ih50 w50 (l6_h50 + 1) (by first | decide | omega) (by first | decide | omega) (by first | decide | omega) (by first | decide | omega) (by first | decide | omega)
      exact loop50 ((20 - 0) + 1 : Int).toNat gf44 0 (by first | decide | omega) (by first | decide | omega) (by first | decide | omega) (by first | decide | omega) (by first | decide | omega)
set_option maxRecDepth 100000 in
set_option maxHeartbeats 4000000 in
theorem c_X12_brings_ (E : En) (S : Sg) (G : Gh) (e ch sh : Int) (hS : S (Ad E 1) = 1) (e_a : (-2147483648) ≤ e) (e_b : e ≤ 2147483647) (ch_a : (-2147483648) ≤ ch) (ch_b : ch ≤ 2147483647) (sh_a : (-2147483648) ≤ sh) (sh_b : sh ≤ 2147483647) (mi : MI E G) : Calls E mX12_brings_ [(2, (Ad E 1)), (0, e), (0, ch), (0, sh)] S G 36 0 0 (fun r S' G' => S = S' ∧ (∃ G1, hv [0, 1, 120, 122, 123, 124] [89] G G1 = G') ∧ ∃ z : Int, r = some (1, z) ∧ (-9223372036854775808) ≤ z ∧ z ≤ 9223372036854775807) := by
  refine calls_by [(0, (2, (Ad E 1))), (1, (0, e)), (2, (0, ch)), (3, (0, sh))] rfl rfl (Nat.le_of_ble_eq_true rfl) (fun X hX => ?_)
  have hP := hPX12_brings_
  refine r_ex hX hP 2 (pc' := 2) (st' := [(0, 0), (2, (Ad E 1))]) (lo' := [(0, (2, (Ad E 1))), (1, (0, e)), (2, (0, ch)), (3, (0, sh))]) rfl ?_
  refine r_putIK hX hP rfl fp_12_304 hS (by first | decide | omega) (by first | decide | omega) (fun h1 => ?_)
  refine r_ex hX hP 2 (pc' := 7) (st' := [(0, 0), (2, (Ad E 1))]) (lo' := [(0, (2, (Ad E 1))), (1, (0, e)), (2, (0, ch)), (3, (0, sh))]) rfl ?_
  refine r_putIK hX hP rfl fp_12_307 hS (by first | decide | omega) (by first | decide | omega) (fun h2 => ?_)
  refine r_ex hX hP 2 (pc' := 12) (st' := [(0, e), (2, (Ad E 1))]) (lo' := [(0, (2, (Ad E 1))), (1, (0, e)), (2, (0, ch)), (3, (0, sh))]) rfl ?_
  refine r_peekI hX (tl1 9 rfl (by decide)) hS (fun evp3 evp3e evp3a evp3b => ?_)
  refine r_callV gd hX hP rfl cv_12_493 hS (d' := 1) (mc' := 0) (ms' := 0) (as' := [(0, e)]) (st := []) (by first | decide | omega) (by first | decide | omega) (by first | decide | omega) rfl rfl (Nat.le_of_ble_eq_true rfl) (c_X12_isEvent E S (up (up G 1 (Ad E 1) 1 0) 1 (Ad E 1) 0 0) e hS evp3 evp3e (by first | decide | omega) (by first | decide | omega)) ?_
  rintro _ _ _ ⟨rfl, rfl, z4, rfl, (⟨rfl, f5, f6⟩ | ⟨rfl, f7⟩)⟩
  · skip
    refine r_if_eq hX hP rfl (tgt := 39) rfl (by first | decide | omega) (by first | decide | omega) (fun c8 => ?_) (fun c8 => ?_)
    · skip
      exfalso; omega
    · skip
      refine r_ex hX hP 2 (pc' := 20) (st' := [(0, (-1)), (0, ch)]) (lo' := [(0, (2, (Ad E 1))), (1, (0, e)), (2, (0, ch)), (3, (0, sh))]) rfl ?_
      refine r_ic_eq hX hP rfl (tgt := 46) rfl (by first | decide | omega) (by first | decide | omega) (by first | decide | omega) (by first | decide | omega) (fun c9 => ?_) (fun c9 => ?_)
      · skip
        refine r_ex hX hP 2 (pc' := 48) (st' := [(0, 1), (0, sh)]) (lo' := [(0, (2, (Ad E 1))), (1, (0, e)), (2, (0, ch)), (3, (0, sh))]) rfl ?_
        refine r_ldcw hX hP rfl (v := 1000000) (tbg sg9 103 rfl rfl) ?_
        refine r_callS gd hX hP rfl cs_12_310 (d' := 0) (mc' := 0) (ms' := 0) (as' := [(0, sh), (0, 1), (0, 1000000)]) (st := []) (by first | decide | omega) (by first | decide | omega) (by first | decide | omega) rfl rfl (Nat.le_of_ble_eq_true rfl) (c_X12_isIn E S (up (up G 1 (Ad E 1) 1 0) 1 (Ad E 1) 0 0) sh 1 1000000 (by first | decide | omega) (by first | decide | omega) (by first | decide | omega) (by first | decide | omega) (by first | decide | omega) (by first | decide | omega)) ?_
        rintro _ _ _ ⟨rfl, rfl, z10, rfl, (⟨rfl, f11, f12⟩ | ⟨rfl, f13⟩)⟩
        · skip
          refine r_if_eq hX hP rfl (tgt := 67) rfl (by first | decide | omega) (by first | decide | omega) (fun c14 => ?_) (fun c14 => ?_)
          · skip
            exfalso; omega
          · skip
            refine r_ex hX hP 4 (pc' := 61) (st' := [(0, sh), (0, ch), (0, e), (2, (Ad E 1))]) (lo' := [(0, (2, (Ad E 1))), (1, (0, e)), (2, (0, ch)), (3, (0, sh))]) rfl ?_
            have mi15 : MI E (up (up G 1 (Ad E 1) 1 0) 1 (Ad E 1) 0 0) := mi_keep mi rfl rfl rfl rfl rfl rfl (fun _ => rfl) (fun _ => rfl) (fun _ => rfl) (fun _ => rfl) (fun _ => rfl) (fun _ => rfl) (fun _ => rfl) (fun _ => rfl) (fun _ => rfl) (fun _ => rfl) (fun _ => rfl) (fun _ => rfl) (fun _ => rfl)
            refine r_callV gd hX hP rfl cv_12_694 hS (d' := 35) (mc' := 0) (ms' := 0) (as' := [(0, e), (0, ch), (0, sh)]) (st := []) (by first | decide | omega) (by first | decide | omega) (by first | decide | omega) rfl rfl (Nat.le_of_ble_eq_true rfl) (c_X12_bringsOf E S (up (up G 1 (Ad E 1) 1 0) 1 (Ad E 1) 0 0) e ch sh hS evp3 evp3e (by first | decide | omega) (by first | decide | omega) (by first | decide | omega) (by first | decide | omega) (by first | decide | omega) (by first | decide | omega) (by first | decide | omega) mi15) ?_
            rintro _ _ _ ⟨rfl, ⟨G16, rfl⟩, z17, rfl, z17a, z17b⟩
            refine r_ex hX hP 1 (pc' := 73) (st' := [(1, z17)]) (lo' := [(0, (2, (Ad E 1))), (1, (0, e)), (2, (0, ch)), (3, (0, sh))]) rfl ?_
            exact r_retL hX hP rfl rfl (by first | decide | omega) (by first | decide | omega) ⟨rfl, ⟨_, (hq_call (hq_up (hq_up (hq_refl _ _ _) rfl) rfl) rfl).symm⟩, z17, rfl, (by first | decide | omega)⟩
        · skip
          refine r_if_eq hX hP rfl (tgt := 67) rfl (by first | decide | omega) (by first | decide | omega) (fun c18 => ?_) (fun c18 => ?_)
          · skip
            refine r_ex hX hP 2 (pc' := 69) (st' := [(0, 2), (2, (Ad E 1))]) (lo' := [(0, (2, (Ad E 1))), (1, (0, e)), (2, (0, ch)), (3, (0, sh))]) rfl ?_
            refine r_callV gd hX hP rfl cv_12_327 hS (d' := 0) (mc' := 0) (ms' := 0) (as' := [(0, 2)]) (st := []) (by first | decide | omega) (by first | decide | omega) (by first | decide | omega) rfl rfl (Nat.le_of_ble_eq_true rfl) (c_X12_refuse E S (up (up G 1 (Ad E 1) 1 0) 1 (Ad E 1) 0 0) 2 hS (by first | decide | omega) (by first | decide | omega)) ?_
            rintro _ _ _ ⟨rfl, ⟨G19, rfl⟩, z20, rfl, rfl⟩
            refine r_i2l hX hP rfl (by first | decide | omega) (by first | decide | omega) ?_
            exact r_retL hX hP rfl rfl (by first | decide | omega) (by first | decide | omega) ⟨rfl, ⟨_, (hq_call (hq_up (hq_up (hq_refl _ _ _) rfl) rfl) rfl).symm⟩, (-1), rfl, (by first | decide | omega)⟩
          · skip
            exfalso; omega
      · skip
        refine r_ex hX hP 3 (pc' := 26) (st' := [(2, (Ad E 1)), (0, 0), (0, ch)]) (lo' := [(0, (2, (Ad E 1))), (1, (0, e)), (2, (0, ch)), (3, (0, sh))]) rfl ?_
        refine r_getC hX hP rfl fl_12_95 hS (fun s21 => ?_)
        refine r_ex hX hP 1 (pc' := 30) (st' := [(0, e), (2, (Ad E 27)), (0, 0), (0, ch)]) (lo' := [(0, (2, (Ad E 1))), (1, (0, e)), (2, (0, ch)), (3, (0, sh))]) rfl ?_
        refine r_iald hX hP rfl al_27 s21 (by first | decide | omega) (by first | decide | omega) (fun x22 x22e x22a x22b => ?_)
        refine r_ex hX hP 2 (pc' := 33) (st' := [(0, (x22 - 1)), (0, 0), (0, ch)]) (lo' := [(0, (2, (Ad E 1))), (1, (0, e)), (2, (0, ch)), (3, (0, sh))]) rfl ?_
        refine r_callS gd hX hP rfl cs_12_310 (d' := 0) (mc' := 0) (ms' := 0) (as' := [(0, ch), (0, 0), (0, (x22 - 1))]) (st := []) (by first | decide | omega) (by first | decide | omega) (by first | decide | omega) rfl rfl (Nat.le_of_ble_eq_true rfl) (c_X12_isIn E S (up (up G 1 (Ad E 1) 1 0) 1 (Ad E 1) 0 0) ch 0 (x22 - 1) (by first | decide | omega) (by first | decide | omega) (by first | decide | omega) (by first | decide | omega) (by first | decide | omega) (by first | decide | omega)) ?_
        rintro _ _ _ ⟨rfl, rfl, z23, rfl, (⟨rfl, f24, f25⟩ | ⟨rfl, f26⟩)⟩
        · skip
          refine r_if_ne hX hP rfl (tgt := 46) rfl (by first | decide | omega) (by first | decide | omega) (fun c27 => ?_) (fun c27 => ?_)
          · skip
            refine r_ex hX hP 2 (pc' := 48) (st' := [(0, 1), (0, sh)]) (lo' := [(0, (2, (Ad E 1))), (1, (0, e)), (2, (0, ch)), (3, (0, sh))]) rfl ?_
            refine r_ldcw hX hP rfl (v := 1000000) (tbg sg9 103 rfl rfl) ?_
            refine r_callS gd hX hP rfl cs_12_310 (d' := 0) (mc' := 0) (ms' := 0) (as' := [(0, sh), (0, 1), (0, 1000000)]) (st := []) (by first | decide | omega) (by first | decide | omega) (by first | decide | omega) rfl rfl (Nat.le_of_ble_eq_true rfl) (c_X12_isIn E S (up (up G 1 (Ad E 1) 1 0) 1 (Ad E 1) 0 0) sh 1 1000000 (by first | decide | omega) (by first | decide | omega) (by first | decide | omega) (by first | decide | omega) (by first | decide | omega) (by first | decide | omega)) ?_
            rintro _ _ _ ⟨rfl, rfl, z28, rfl, (⟨rfl, f29, f30⟩ | ⟨rfl, f31⟩)⟩
            · skip
              refine r_if_eq hX hP rfl (tgt := 67) rfl (by first | decide | omega) (by first | decide | omega) (fun c32 => ?_) (fun c32 => ?_)
              · skip
                exfalso; omega
              · skip
                refine r_ex hX hP 4 (pc' := 61) (st' := [(0, sh), (0, ch), (0, e), (2, (Ad E 1))]) (lo' := [(0, (2, (Ad E 1))), (1, (0, e)), (2, (0, ch)), (3, (0, sh))]) rfl ?_
                have mi33 : MI E (up (up G 1 (Ad E 1) 1 0) 1 (Ad E 1) 0 0) := mi_keep mi rfl rfl rfl rfl rfl rfl (fun _ => rfl) (fun _ => rfl) (fun _ => rfl) (fun _ => rfl) (fun _ => rfl) (fun _ => rfl) (fun _ => rfl) (fun _ => rfl) (fun _ => rfl) (fun _ => rfl) (fun _ => rfl) (fun _ => rfl) (fun _ => rfl)
                refine r_callV gd hX hP rfl cv_12_694 hS (d' := 35) (mc' := 0) (ms' := 0) (as' := [(0, e), (0, ch), (0, sh)]) (st := []) (by first | decide | omega) (by first | decide | omega) (by first | decide | omega) rfl rfl (Nat.le_of_ble_eq_true rfl) (c_X12_bringsOf E S (up (up G 1 (Ad E 1) 1 0) 1 (Ad E 1) 0 0) e ch sh hS evp3 evp3e (by first | decide | omega) (by first | decide | omega) (by first | decide | omega) (by first | decide | omega) (by first | decide | omega) (by first | decide | omega) (by first | decide | omega) mi33) ?_
                rintro _ _ _ ⟨rfl, ⟨G34, rfl⟩, z35, rfl, z35a, z35b⟩
                refine r_ex hX hP 1 (pc' := 73) (st' := [(1, z35)]) (lo' := [(0, (2, (Ad E 1))), (1, (0, e)), (2, (0, ch)), (3, (0, sh))]) rfl ?_
                exact r_retL hX hP rfl rfl (by first | decide | omega) (by first | decide | omega) ⟨rfl, ⟨_, (hq_call (hq_up (hq_up (hq_refl _ _ _) rfl) rfl) rfl).symm⟩, z35, rfl, (by first | decide | omega)⟩
            · skip
              refine r_if_eq hX hP rfl (tgt := 67) rfl (by first | decide | omega) (by first | decide | omega) (fun c36 => ?_) (fun c36 => ?_)
              · skip
                refine r_ex hX hP 2 (pc' := 69) (st' := [(0, 2), (2, (Ad E 1))]) (lo' := [(0, (2, (Ad E 1))), (1, (0, e)), (2, (0, ch)), (3, (0, sh))]) rfl ?_
                refine r_callV gd hX hP rfl cv_12_327 hS (d' := 0) (mc' := 0) (ms' := 0) (as' := [(0, 2)]) (st := []) (by first | decide | omega) (by first | decide | omega) (by first | decide | omega) rfl rfl (Nat.le_of_ble_eq_true rfl) (c_X12_refuse E S (up (up G 1 (Ad E 1) 1 0) 1 (Ad E 1) 0 0) 2 hS (by first | decide | omega) (by first | decide | omega)) ?_
                rintro _ _ _ ⟨rfl, ⟨G37, rfl⟩, z38, rfl, rfl⟩
                refine r_i2l hX hP rfl (by first | decide | omega) (by first | decide | omega) ?_
                exact r_retL hX hP rfl rfl (by first | decide | omega) (by first | decide | omega) ⟨rfl, ⟨_, (hq_call (hq_up (hq_up (hq_refl _ _ _) rfl) rfl) rfl).symm⟩, (-1), rfl, (by first | decide | omega)⟩
              · skip
                exfalso; omega
          · skip
            exfalso; omega
        · skip
          refine r_if_ne hX hP rfl (tgt := 46) rfl (by first | decide | omega) (by first | decide | omega) (fun c39 => ?_) (fun c39 => ?_)
          · skip
            exfalso; omega
          · skip
            refine r_ex hX hP 2 (pc' := 41) (st' := [(0, 1), (2, (Ad E 1))]) (lo' := [(0, (2, (Ad E 1))), (1, (0, e)), (2, (0, ch)), (3, (0, sh))]) rfl ?_
            refine r_callV gd hX hP rfl cv_12_327 hS (d' := 0) (mc' := 0) (ms' := 0) (as' := [(0, 1)]) (st := []) (by first | decide | omega) (by first | decide | omega) (by first | decide | omega) rfl rfl (Nat.le_of_ble_eq_true rfl) (c_X12_refuse E S (up (up G 1 (Ad E 1) 1 0) 1 (Ad E 1) 0 0) 1 hS (by first | decide | omega) (by first | decide | omega)) ?_
            rintro _ _ _ ⟨rfl, ⟨G40, rfl⟩, z41, rfl, rfl⟩
            refine r_i2l hX hP rfl (by first | decide | omega) (by first | decide | omega) ?_
            exact r_retL hX hP rfl rfl (by first | decide | omega) (by first | decide | omega) ⟨rfl, ⟨_, (hq_call (hq_up (hq_up (hq_refl _ _ _) rfl) rfl) rfl).symm⟩, (-1), rfl, (by first | decide | omega)⟩
  · skip
    refine r_if_eq hX hP rfl (tgt := 39) rfl (by first | decide | omega) (by first | decide | omega) (fun c42 => ?_) (fun c42 => ?_)
    · skip
      refine r_ex hX hP 2 (pc' := 41) (st' := [(0, 1), (2, (Ad E 1))]) (lo' := [(0, (2, (Ad E 1))), (1, (0, e)), (2, (0, ch)), (3, (0, sh))]) rfl ?_
      refine r_callV gd hX hP rfl cv_12_327 hS (d' := 0) (mc' := 0) (ms' := 0) (as' := [(0, 1)]) (st := []) (by first | decide | omega) (by first | decide | omega) (by first | decide | omega) rfl rfl (Nat.le_of_ble_eq_true rfl) (c_X12_refuse E S (up (up G 1 (Ad E 1) 1 0) 1 (Ad E 1) 0 0) 1 hS (by first | decide | omega) (by first | decide | omega)) ?_
      rintro _ _ _ ⟨rfl, ⟨G43, rfl⟩, z44, rfl, rfl⟩
      refine r_i2l hX hP rfl (by first | decide | omega) (by first | decide | omega) ?_
      exact r_retL hX hP rfl rfl (by first | decide | omega) (by first | decide | omega) ⟨rfl, ⟨_, (hq_call (hq_up (hq_up (hq_refl _ _ _) rfl) rfl) rfl).symm⟩, (-1), rfl, (by first | decide | omega)⟩
    · skip
      exfalso; omega
set_option maxRecDepth 100000 in
set_option maxHeartbeats 4000000 in
theorem c_X12_best (E : En) (S : Sg) (G : Gh) (e sh : Int) (hS : S (Ad E 1) = 1) (e_a : (-2147483648) ≤ e) (e_b : e ≤ 2147483647) (sh_a : (-2147483648) ≤ sh) (sh_b : sh ≤ 2147483647) (mi : MI E G) : Calls E mX12_best [(2, (Ad E 1)), (0, e), (0, sh)] S G 36 0 0 (fun r S' G' => S = S' ∧ (∃ G1, hv [0, 1, 120, 122, 123, 124] [89] G G1 = G') ∧ ∃ z : Int, r = some (0, z) ∧ (-2147483648) ≤ z ∧ z ≤ 2147483647) := by
  refine calls_by [(0, (2, (Ad E 1))), (1, (0, e)), (2, (0, sh))] rfl rfl (Nat.le_of_ble_eq_true rfl) (fun X hX => ?_)
  have hP := hPX12_best
  refine r_ex hX hP 2 (pc' := 2) (st' := [(0, 0), (2, (Ad E 1))]) (lo' := [(0, (2, (Ad E 1))), (1, (0, e)), (2, (0, sh))]) rfl ?_
  refine r_putIK hX hP rfl fp_12_304 hS (by first | decide | omega) (by first | decide | omega) (fun h1 => ?_)
  refine r_ex hX hP 2 (pc' := 7) (st' := [(0, 0), (2, (Ad E 1))]) (lo' := [(0, (2, (Ad E 1))), (1, (0, e)), (2, (0, sh))]) rfl ?_
  refine r_putIK hX hP rfl fp_12_307 hS (by first | decide | omega) (by first | decide | omega) (fun h2 => ?_)
  refine r_ex hX hP 2 (pc' := 12) (st' := [(0, e), (2, (Ad E 1))]) (lo' := [(0, (2, (Ad E 1))), (1, (0, e)), (2, (0, sh))]) rfl ?_
  refine r_peekI hX (tl1 9 rfl (by decide)) hS (fun evp3 evp3e evp3a evp3b => ?_)
  refine r_callV gd hX hP rfl cv_12_493 hS (d' := 1) (mc' := 0) (ms' := 0) (as' := [(0, e)]) (st := []) (by first | decide | omega) (by first | decide | omega) (by first | decide | omega) rfl rfl (Nat.le_of_ble_eq_true rfl) (c_X12_isEvent E S (up (up G 1 (Ad E 1) 1 0) 1 (Ad E 1) 0 0) e hS evp3 evp3e (by first | decide | omega) (by first | decide | omega)) ?_
  rintro _ _ _ ⟨rfl, rfl, z4, rfl, (⟨rfl, f5, f6⟩ | ⟨rfl, f7⟩)⟩
  · skip
    refine r_if_ne hX hP rfl (tgt := 24) rfl (by first | decide | omega) (by first | decide | omega) (fun c8 => ?_) (fun c8 => ?_)
    · skip
      refine r_ex hX hP 2 (pc' := 26) (st' := [(0, 1), (0, sh)]) (lo' := [(0, (2, (Ad E 1))), (1, (0, e)), (2, (0, sh))]) rfl ?_
      refine r_ldcw hX hP rfl (v := 1000000) (tbg sg9 103 rfl rfl) ?_
      refine r_callS gd hX hP rfl cs_12_310 (d' := 0) (mc' := 0) (ms' := 0) (as' := [(0, sh), (0, 1), (0, 1000000)]) (st := []) (by first | decide | omega) (by first | decide | omega) (by first | decide | omega) rfl rfl (Nat.le_of_ble_eq_true rfl) (c_X12_isIn E S (up (up G 1 (Ad E 1) 1 0) 1 (Ad E 1) 0 0) sh 1 1000000 (by first | decide | omega) (by first | decide | omega) (by first | decide | omega) (by first | decide | omega) (by first | decide | omega) (by first | decide | omega)) ?_
      rintro _ _ _ ⟨rfl, rfl, z9, rfl, (⟨rfl, f10, f11⟩ | ⟨rfl, f12⟩)⟩
      · skip
        refine r_if_ne hX hP rfl (tgt := 41) rfl (by first | decide | omega) (by first | decide | omega) (fun c13 => ?_) (fun c13 => ?_)
        · skip
          refine r_ex hX hP 1 (pc' := 42) (st' := [(2, (Ad E 1))]) (lo' := [(0, (2, (Ad E 1))), (1, (0, e)), (2, (0, sh))]) rfl ?_
          refine r_getC hX hP rfl fl_12_95 hS (fun s14 => ?_)
          refine r_ex hX hP 1 (pc' := 46) (st' := [(0, e), (2, (Ad E 27))]) (lo' := [(0, (2, (Ad E 1))), (1, (0, e)), (2, (0, sh))]) rfl ?_
          refine r_iald hX hP rfl al_27 s14 (by first | decide | omega) (by first | decide | omega) (fun x15 x15e x15a x15b => ?_)
          refine r_if_ne hX hP rfl (tgt := 56) rfl (by first | decide | omega) (by first | decide | omega) (fun c16 => ?_) (fun c16 => ?_)
          · skip
            refine r_ex hX hP 4 (pc' := 61) (st' := []) (lo' := [(0, (2, (Ad E 1))), (1, (0, e)), (2, (0, sh)), (3, (0, 0)), (4, (0, 1))]) rfl ?_
            have loop61 : ∀ (nF : Nat) (l3_h61 l4_h61 : Int) (Gh61 : Gh), (-2147483648) ≤ l3_h61 → l3_h61 ≤ 2147483647 → 1 ≤ l4_h61 → l4_h61 ≤ 3 → 3 - l4_h61 < (nF : Int) → X 0 0 61 [] [(0, (2, (Ad E 1))), (1, (0, e)), (2, (0, sh)), (3, (0, l3_h61)), (4, (0, l4_h61))] S (hv [120, 122, 123, 124] [89] (up (up G 1 (Ad E 1) 1 0) 1 (Ad E 1) 0 0) Gh61) := by
              intro nF
              induction nF with
              | zero => intro l3_h61 l4_h61 Gh61 yh61_0 yh61_1 yh61_2 yh61_3 ym61; exfalso; omega
              | succ nF ih61 =>
                intro l3_h61 l4_h61 Gh61 yh61_0 yh61_1 yh61_2 yh61_3 ym61
                refine r_ex hX hP 2 (pc' := 64) (st' := [(2, (Ad E 1)), (0, l4_h61)]) (lo' := [(0, (2, (Ad E 1))), (1, (0, e)), (2, (0, sh)), (3, (0, l3_h61)), (4, (0, l4_h61))]) rfl ?_
                refine r_getC hX hP rfl fl_12_95 hS (fun _ => ?_)
                refine r_ex hX hP 1 (pc' := 68) (st' := [(0, e), (2, (Ad E 27)), (0, l4_h61)]) (lo' := [(0, (2, (Ad E 1))), (1, (0, e)), (2, (0, sh)), (3, (0, l3_h61)), (4, (0, l4_h61))]) rfl ?_
                refine r_ialdK hX hP rfl al_27 s14 (by first | decide | omega) (by first | decide | omega) (x := x15) x15e ?_
                refine r_ic_ge hX hP rfl (tgt := 100) rfl (by first | decide | omega) (by first | decide | omega) (by first | decide | omega) (by first | decide | omega) (fun c17 => ?_) (fun c17 => ?_)
                · skip
                  refine r_ex hX hP 1 (pc' := 101) (st' := [(0, l3_h61)]) (lo' := [(0, (2, (Ad E 1))), (1, (0, e)), (2, (0, sh)), (3, (0, l3_h61)), (4, (0, l4_h61))]) rfl ?_
                  exact r_retI hX hP rfl rfl (by first | decide | omega) (by first | decide | omega) ⟨rfl, ⟨_, (hq_loop (hq_up (hq_up (hq_refl _ _ _) rfl) rfl) rfl).symm⟩, l3_h61, rfl, (by first | decide | omega)⟩
                · skip
                  refine r_ex hX hP 4 (pc' := 77) (st' := [(0, sh), (0, l4_h61), (0, e), (2, (Ad E 1))]) (lo' := [(0, (2, (Ad E 1))), (1, (0, e)), (2, (0, sh)), (3, (0, l3_h61)), (4, (0, l4_h61))]) rfl ?_
                  have mi18 : MI E (hv [120, 122, 123, 124] [89] (up (up G 1 (Ad E 1) 1 0) 1 (Ad E 1) 0 0) Gh61) := mi_keep mi rfl rfl rfl rfl rfl rfl (fun _ => rfl) (fun _ => rfl) (fun _ => rfl) (fun _ => rfl) (fun _ => rfl) (fun _ => rfl) (fun _ => rfl) (fun _ => rfl) (fun _ => rfl) (fun _ => rfl) (fun _ => rfl) (fun _ => rfl) (fun _ => rfl)
                  refine r_callV gd hX hP rfl cv_12_694 hS (d' := 35) (mc' := 0) (ms' := 0) (as' := [(0, e), (0, l4_h61), (0, sh)]) (st := []) (by first | decide | omega) (by first | decide | omega) (by first | decide | omega) rfl rfl (Nat.le_of_ble_eq_true rfl) (c_X12_bringsOf E S (hv [120, 122, 123, 124] [89] (up (up G 1 (Ad E 1) 1 0) 1 (Ad E 1) 0 0) Gh61) e l4_h61 sh hS evp3 evp3e (by first | decide | omega) (by first | decide | omega) (by first | decide | omega) (by first | decide | omega) (by first | decide | omega) (by first | decide | omega) (by first | decide | omega) mi18) ?_
                  rintro _ _ _ ⟨rfl, ⟨G19, rfl⟩, z20, rfl, z20a, z20b⟩
                  refine r_ex hX hP 4 (pc' := 84) (st' := [(0, sh), (0, l3_h61), (0, e), (2, (Ad E 1)), (1, z20)]) (lo' := [(0, (2, (Ad E 1))), (1, (0, e)), (2, (0, sh)), (3, (0, l3_h61)), (4, (0, l4_h61))]) rfl ?_
                  have mi21 : MI E (hv [120, 122, 123, 124] [89] (hv [120, 122, 123, 124] [89] (up (up G 1 (Ad E 1) 1 0) 1 (Ad E 1) 0 0) Gh61) G19) := mi_keep mi18 rfl rfl rfl rfl rfl rfl (fun _ => rfl) (fun _ => rfl) (fun _ => rfl) (fun _ => rfl) (fun _ => rfl) (fun _ => rfl) (fun _ => rfl) (fun _ => rfl) (fun _ => rfl) (fun _ => rfl) (fun _ => rfl) (fun _ => rfl) (fun _ => rfl)
                  refine r_callV gd hX hP rfl cv_12_694 hS (d' := 35) (mc' := 0) (ms' := 0) (as' := [(0, e), (0, l3_h61), (0, sh)]) (st := [(1, z20)]) (by first | decide | omega) (by first | decide | omega) (by first | decide | omega) rfl rfl (Nat.le_of_ble_eq_true rfl) (c_X12_bringsOf E S (hv [120, 122, 123, 124] [89] (hv [120, 122, 123, 124] [89] (up (up G 1 (Ad E 1) 1 0) 1 (Ad E 1) 0 0) Gh61) G19) e l3_h61 sh hS evp3 evp3e (by first | decide | omega) (by first | decide | omega) (by first | decide | omega) (by first | decide | omega) (by first | decide | omega) (by first | decide | omega) (by first | decide | omega) mi21) ?_
                  rintro _ _ _ ⟨rfl, ⟨G22, rfl⟩, z23, rfl, z23a, z23b⟩
                  refine r_lc_le hX hP rfl rfl (tgt := 94) rfl (by first | decide | omega) (by first | decide | omega) (by first | decide | omega) (by first | decide | omega) (fun c24 => ?_) (fun c24 => ?_)
                  · skip
                    refine r_ex hX hP 2 (pc' := 61) (st' := []) (lo' := [(0, (2, (Ad E 1))), (1, (0, e)), (2, (0, sh)), (3, (0, l3_h61)), (4, (0, (l4_h61 + 1)))]) rfl ?_
                    refine r_eqG (X := X) (hq_call (hq_call (hq_base _ _ _ _) rfl) rfl) ?_
                    exact ih61 l3_h61 (l4_h61 + 1) _ (by first | decide | omega) (by first | decide | omega) (by first | decide | omega) (by first | decide | omega) (by first | decide | omega)
                  · skip
                    refine r_ex hX hP 4 (pc' := 61) (st' := []) (lo' := [(0, (2, (Ad E 1))), (1, (0, e)), (2, (0, sh)), (3, (0, l4_h61)), (4, (0, (l4_h61 + 1)))]) rfl ?_
                    refine r_eqG (X := X) (hq_call (hq_call (hq_base _ _ _ _) rfl) rfl) ?_
                    exact ih61 l4_h61 (l4_h61 + 1) _ (by first | decide | omega) (by first | decide | omega) (by first | decide | omega) (by first | decide | omega) (by first | decide | omega)
            refine r_eqG (X := X) (hq_refl [120, 122, 123, 124] [89] _) ?_
            exact loop61 ((3 - 1) + 1 : Int).toNat 0 1 _ (by first | decide | omega) (by first | decide | omega) (by first | decide | omega) (by first | decide | omega) (by first | decide | omega)
          · skip
            refine r_ex hX hP 2 (pc' := 52) (st' := [(0, 5), (2, (Ad E 1))]) (lo' := [(0, (2, (Ad E 1))), (1, (0, e)), (2, (0, sh))]) rfl ?_
            refine r_callV gd hX hP rfl cv_12_327 hS (d' := 0) (mc' := 0) (ms' := 0) (as' := [(0, 5)]) (st := []) (by first | decide | omega) (by first | decide | omega) (by first | decide | omega) rfl rfl (Nat.le_of_ble_eq_true rfl) (c_X12_refuse E S (up (up G 1 (Ad E 1) 1 0) 1 (Ad E 1) 0 0) 5 hS (by first | decide | omega) (by first | decide | omega)) ?_
            rintro _ _ _ ⟨rfl, ⟨G25, rfl⟩, z26, rfl, rfl⟩
            exact r_retI hX hP rfl rfl (by first | decide | omega) (by first | decide | omega) ⟨rfl, ⟨_, (hq_call (hq_up (hq_up (hq_refl _ _ _) rfl) rfl) rfl).symm⟩, (-1), rfl, (by first | decide | omega)⟩
        · skip
          exfalso; omega
      · skip
        refine r_if_ne hX hP rfl (tgt := 41) rfl (by first | decide | omega) (by first | decide | omega) (fun c27 => ?_) (fun c27 => ?_)
        · skip
          exfalso; omega
        · skip
          refine r_ex hX hP 2 (pc' := 37) (st' := [(0, 2), (2, (Ad E 1))]) (lo' := [(0, (2, (Ad E 1))), (1, (0, e)), (2, (0, sh))]) rfl ?_
          refine r_callV gd hX hP rfl cv_12_327 hS (d' := 0) (mc' := 0) (ms' := 0) (as' := [(0, 2)]) (st := []) (by first | decide | omega) (by first | decide | omega) (by first | decide | omega) rfl rfl (Nat.le_of_ble_eq_true rfl) (c_X12_refuse E S (up (up G 1 (Ad E 1) 1 0) 1 (Ad E 1) 0 0) 2 hS (by first | decide | omega) (by first | decide | omega)) ?_
          rintro _ _ _ ⟨rfl, ⟨G28, rfl⟩, z29, rfl, rfl⟩
          exact r_retI hX hP rfl rfl (by first | decide | omega) (by first | decide | omega) ⟨rfl, ⟨_, (hq_call (hq_up (hq_up (hq_refl _ _ _) rfl) rfl) rfl).symm⟩, (-1), rfl, (by first | decide | omega)⟩
    · skip
      exfalso; omega
  · skip
    refine r_if_ne hX hP rfl (tgt := 24) rfl (by first | decide | omega) (by first | decide | omega) (fun c30 => ?_) (fun c30 => ?_)
    · skip
      exfalso; omega
    · skip
      refine r_ex hX hP 2 (pc' := 20) (st' := [(0, 1), (2, (Ad E 1))]) (lo' := [(0, (2, (Ad E 1))), (1, (0, e)), (2, (0, sh))]) rfl ?_
      refine r_callV gd hX hP rfl cv_12_327 hS (d' := 0) (mc' := 0) (ms' := 0) (as' := [(0, 1)]) (st := []) (by first | decide | omega) (by first | decide | omega) (by first | decide | omega) rfl rfl (Nat.le_of_ble_eq_true rfl) (c_X12_refuse E S (up (up G 1 (Ad E 1) 1 0) 1 (Ad E 1) 0 0) 1 hS (by first | decide | omega) (by first | decide | omega)) ?_
      rintro _ _ _ ⟨rfl, ⟨G31, rfl⟩, z32, rfl, rfl⟩
      exact r_retI hX hP rfl rfl (by first | decide | omega) (by first | decide | omega) ⟨rfl, ⟨_, (hq_call (hq_up (hq_up (hq_refl _ _ _) rfl) rfl) rfl).symm⟩, (-1), rfl, (by first | decide | omega)⟩
set_option maxRecDepth 100000 in
set_option maxHeartbeats 4000000 in
theorem c_X12_due (E : En) (S : Sg) (G : Gh) (t e q : Int) (hS : S (Ad E 1) = 1) (t_a : (-2147483648) ≤ t) (t_b : t ≤ 2147483647) (e_a : (-2147483648) ≤ e) (e_b : e ≤ 2147483647) (q_a : (-2147483648) ≤ q) (q_b : q ≤ 2147483647) (mi : MI E G) : Calls E mX12_due [(2, (Ad E 1)), (0, t), (0, e), (0, q)] S G 40 0 0 (fun r S' G' => S = S' ∧ (∃ G1, hv [0, 1, 120, 122, 123, 124] [19, 72, 73, 74, 75, 76, 77, 78, 79, 80, 81, 82, 83, 84, 85, 86, 87, 88, 89, 90, 91, 92] G G1 = G') ∧ ∃ z : Int, r = some (1, z) ∧ (-9223372036854775808) ≤ z ∧ z ≤ 9223372036854775807) := by
  refine calls_by [(0, (2, (Ad E 1))), (1, (0, t)), (2, (0, e)), (3, (0, q))] rfl rfl (Nat.le_of_ble_eq_true rfl) (fun X hX => ?_)
  have hP := hPX12_due
  refine r_ex hX hP 2 (pc' := 2) (st' := [(0, 0), (2, (Ad E 1))]) (lo' := [(0, (2, (Ad E 1))), (1, (0, t)), (2, (0, e)), (3, (0, q))]) rfl ?_
  refine r_putIK hX hP rfl fp_12_304 hS (by first | decide | omega) (by first | decide | omega) (fun h1 => ?_)
  refine r_ex hX hP 2 (pc' := 7) (st' := [(0, 0), (2, (Ad E 1))]) (lo' := [(0, (2, (Ad E 1))), (1, (0, t)), (2, (0, e)), (3, (0, q))]) rfl ?_
  refine r_putIK hX hP rfl fp_12_307 hS (by first | decide | omega) (by first | decide | omega) (fun h2 => ?_)
  refine r_ex hX hP 2 (pc' := 12) (st' := [(0, t), (2, (Ad E 1))]) (lo' := [(0, (2, (Ad E 1))), (1, (0, t)), (2, (0, e)), (3, (0, q))]) rfl ?_
  refine r_peekI hX (tl1 8 rfl (by decide)) hS (fun trp3 trp3e trp3a trp3b => ?_)
  refine r_callV gd hX hP rfl cv_12_604 hS (d' := 1) (mc' := 0) (ms' := 0) (as' := [(0, t)]) (st := []) (by first | decide | omega) (by first | decide | omega) (by first | decide | omega) rfl rfl (Nat.le_of_ble_eq_true rfl) (c_X12_isTrade E S (up (up G 1 (Ad E 1) 1 0) 1 (Ad E 1) 0 0) t hS trp3 trp3e (by first | decide | omega) (by first | decide | omega)) ?_
  rintro _ _ _ ⟨rfl, rfl, z4, rfl, (⟨rfl, f5, f6⟩ | ⟨rfl, f7⟩)⟩
  · skip
    refine r_if_eq hX hP rfl (tgt := 38) rfl (by first | decide | omega) (by first | decide | omega) (fun c8 => ?_) (fun c8 => ?_)
    · skip
      exfalso; omega
    · skip
      refine r_ex hX hP 2 (pc' := 20) (st' := [(0, e), (2, (Ad E 1))]) (lo' := [(0, (2, (Ad E 1))), (1, (0, t)), (2, (0, e)), (3, (0, q))]) rfl ?_
      refine r_peekI hX (tl1 9 rfl (by decide)) hS (fun evp9 evp9e evp9a evp9b => ?_)
      refine r_callV gd hX hP rfl cv_12_493 hS (d' := 1) (mc' := 0) (ms' := 0) (as' := [(0, e)]) (st := []) (by first | decide | omega) (by first | decide | omega) (by first | decide | omega) rfl rfl (Nat.le_of_ble_eq_true rfl) (c_X12_isEvent E S (up (up G 1 (Ad E 1) 1 0) 1 (Ad E 1) 0 0) e hS evp9 evp9e (by first | decide | omega) (by first | decide | omega)) ?_
      rintro _ _ _ ⟨rfl, rfl, z10, rfl, (⟨rfl, f11, f12⟩ | ⟨rfl, f13⟩)⟩
      · skip
        refine r_if_eq hX hP rfl (tgt := 38) rfl (by first | decide | omega) (by first | decide | omega) (fun c14 => ?_) (fun c14 => ?_)
        · skip
          exfalso; omega
        · skip
          refine r_ex hX hP 2 (pc' := 28) (st' := [(0, (-1)), (0, q)]) (lo' := [(0, (2, (Ad E 1))), (1, (0, t)), (2, (0, e)), (3, (0, q))]) rfl ?_
          refine r_ic_eq hX hP rfl (tgt := 45) rfl (by first | decide | omega) (by first | decide | omega) (by first | decide | omega) (by first | decide | omega) (fun c15 => ?_) (fun c15 => ?_)
          · skip
            refine r_ex hX hP 2 (pc' := 47) (st' := [(0, t), (2, (Ad E 1))]) (lo' := [(0, (2, (Ad E 1))), (1, (0, t)), (2, (0, e)), (3, (0, q))]) rfl ?_
            refine r_callV gd hX hP rfl cv_12_530 hS (d' := 1) (mc' := 0) (ms' := 0) (as' := [(0, t)]) (st := []) (by first | decide | omega) (by first | decide | omega) (by first | decide | omega) rfl rfl (Nat.le_of_ble_eq_true rfl) (c_X12_tradeCounts E S (up (up G 1 (Ad E 1) 1 0) 1 (Ad E 1) 0 0) t hS (by first | decide | omega) (by first | decide | omega)) ?_
            rintro _ _ _ ⟨rfl, rfl, z16, rfl, z16a, z16b⟩
            refine r_if_eq hX hP rfl (tgt := 85) rfl (by first | decide | omega) (by first | decide | omega) (fun c17 => ?_) (fun c17 => ?_)
            · skip
              refine r_ex hX hP 2 (pc' := 88) (st' := [(0, 7), (2, (Ad E 1))]) (lo' := [(0, (2, (Ad E 1))), (1, (0, t)), (2, (0, e)), (3, (0, q))]) rfl ?_
              refine r_callV gd hX hP rfl cv_12_327 hS (d' := 0) (mc' := 0) (ms' := 0) (as' := [(0, 7)]) (st := []) (by first | decide | omega) (by first | decide | omega) (by first | decide | omega) rfl rfl (Nat.le_of_ble_eq_true rfl) (c_X12_refuse E S (up (up G 1 (Ad E 1) 1 0) 1 (Ad E 1) 0 0) 7 hS (by first | decide | omega) (by first | decide | omega)) ?_
              rintro _ _ _ ⟨rfl, ⟨G18, rfl⟩, z19, rfl, rfl⟩
              refine r_i2l hX hP rfl (by first | decide | omega) (by first | decide | omega) ?_
              exact r_retL hX hP rfl rfl (by first | decide | omega) (by first | decide | omega) ⟨rfl, ⟨_, (hq_call (hq_up (hq_up (hq_refl _ _ _) rfl) rfl) rfl).symm⟩, (-1), rfl, (by first | decide | omega)⟩
            · skip
              refine r_ex hX hP 2 (pc' := 55) (st' := [(0, e), (2, (Ad E 1))]) (lo' := [(0, (2, (Ad E 1))), (1, (0, t)), (2, (0, e)), (3, (0, q))]) rfl ?_
              refine r_callV gd hX hP rfl cv_12_512 hS (d' := 1) (mc' := 0) (ms' := 0) (as' := [(0, e)]) (st := []) (by first | decide | omega) (by first | decide | omega) (by first | decide | omega) rfl rfl (Nat.le_of_ble_eq_true rfl) (c_X12_eventCounts E S (up (up G 1 (Ad E 1) 1 0) 1 (Ad E 1) 0 0) e hS (by first | decide | omega) (by first | decide | omega)) ?_
              rintro _ _ _ ⟨rfl, rfl, z20, rfl, z20a, z20b⟩
              refine r_if_eq hX hP rfl (tgt := 85) rfl (by first | decide | omega) (by first | decide | omega) (fun c21 => ?_) (fun c21 => ?_)
              · skip
                refine r_ex hX hP 2 (pc' := 88) (st' := [(0, 7), (2, (Ad E 1))]) (lo' := [(0, (2, (Ad E 1))), (1, (0, t)), (2, (0, e)), (3, (0, q))]) rfl ?_
                refine r_callV gd hX hP rfl cv_12_327 hS (d' := 0) (mc' := 0) (ms' := 0) (as' := [(0, 7)]) (st := []) (by first | decide | omega) (by first | decide | omega) (by first | decide | omega) rfl rfl (Nat.le_of_ble_eq_true rfl) (c_X12_refuse E S (up (up G 1 (Ad E 1) 1 0) 1 (Ad E 1) 0 0) 7 hS (by first | decide | omega) (by first | decide | omega)) ?_
                rintro _ _ _ ⟨rfl, ⟨G22, rfl⟩, z23, rfl, rfl⟩
                refine r_i2l hX hP rfl (by first | decide | omega) (by first | decide | omega) ?_
                exact r_retL hX hP rfl rfl (by first | decide | omega) (by first | decide | omega) ⟨rfl, ⟨_, (hq_call (hq_up (hq_up (hq_refl _ _ _) rfl) rfl) rfl).symm⟩, (-1), rfl, (by first | decide | omega)⟩
              · skip
                refine r_ex hX hP 1 (pc' := 62) (st' := [(2, (Ad E 1))]) (lo' := [(0, (2, (Ad E 1))), (1, (0, t)), (2, (0, e)), (3, (0, q))]) rfl ?_
                refine r_getC hX hP rfl fl_12_74 hS (fun s24 => ?_)
                refine r_ex hX hP 1 (pc' := 66) (st' := [(0, e), (2, (Ad E 20))]) (lo' := [(0, (2, (Ad E 1))), (1, (0, t)), (2, (0, e)), (3, (0, q))]) rfl ?_
                refine r_iald hX hP rfl al_20 s24 (by first | decide | omega) (by first | decide | omega) (fun x25 x25e x25a x25b => ?_)
                refine r_ex hX hP 1 (pc' := 68) (st' := [(2, (Ad E 1)), (0, x25)]) (lo' := [(0, (2, (Ad E 1))), (1, (0, t)), (2, (0, e)), (3, (0, q))]) rfl ?_
                refine r_getC hX hP rfl fl_12_52 hS (fun s26 => ?_)
                refine r_ex hX hP 1 (pc' := 72) (st' := [(0, t), (2, (Ad E 13)), (0, x25)]) (lo' := [(0, (2, (Ad E 1))), (1, (0, t)), (2, (0, e)), (3, (0, q))]) rfl ?_
                refine r_iald hX hP rfl al_13 s26 (by first | decide | omega) (by first | decide | omega) (fun x27 x27e x27a x27b => ?_)
                refine r_ic_ne hX hP rfl (tgt := 85) rfl (by first | decide | omega) (by first | decide | omega) (by first | decide | omega) (by first | decide | omega) (fun c28 => ?_) (fun c28 => ?_)
                · skip
                  refine r_ex hX hP 2 (pc' := 88) (st' := [(0, 7), (2, (Ad E 1))]) (lo' := [(0, (2, (Ad E 1))), (1, (0, t)), (2, (0, e)), (3, (0, q))]) rfl ?_
                  refine r_callV gd hX hP rfl cv_12_327 hS (d' := 0) (mc' := 0) (ms' := 0) (as' := [(0, 7)]) (st := []) (by first | decide | omega) (by first | decide | omega) (by first | decide | omega) rfl rfl (Nat.le_of_ble_eq_true rfl) (c_X12_refuse E S (up (up G 1 (Ad E 1) 1 0) 1 (Ad E 1) 0 0) 7 hS (by first | decide | omega) (by first | decide | omega)) ?_
                  rintro _ _ _ ⟨rfl, ⟨G29, rfl⟩, z30, rfl, rfl⟩
                  refine r_i2l hX hP rfl (by first | decide | omega) (by first | decide | omega) ?_
                  exact r_retL hX hP rfl rfl (by first | decide | omega) (by first | decide | omega) ⟨rfl, ⟨_, (hq_call (hq_up (hq_up (hq_refl _ _ _) rfl) rfl) rfl).symm⟩, (-1), rfl, (by first | decide | omega)⟩
                · skip
                  refine r_ex hX hP 1 (pc' := 77) (st' := [(2, (Ad E 1))]) (lo' := [(0, (2, (Ad E 1))), (1, (0, t)), (2, (0, e)), (3, (0, q))]) rfl ?_
                  refine r_getC hX hP rfl fl_12_95 hS (fun s31 => ?_)
                  refine r_ex hX hP 1 (pc' := 81) (st' := [(0, e), (2, (Ad E 27))]) (lo' := [(0, (2, (Ad E 1))), (1, (0, t)), (2, (0, e)), (3, (0, q))]) rfl ?_
                  refine r_iald hX hP rfl al_27 s31 (by first | decide | omega) (by first | decide | omega) (fun x32 x32e x32a x32b => ?_)
                  refine r_if_le hX hP rfl (tgt := 93) rfl (by first | decide | omega) (by first | decide | omega) (fun c33 => ?_) (fun c33 => ?_)
                  · skip
                    refine r_ex hX hP 2 (pc' := 95) (st' := [(2, (Ad E 1)), (2, (Ad E 1))]) (lo' := [(0, (2, (Ad E 1))), (1, (0, t)), (2, (0, e)), (3, (0, q))]) rfl ?_
                    refine r_getC hX hP rfl fl_12_61 hS (fun s34 => ?_)
                    refine r_ex hX hP 1 (pc' := 99) (st' := [(0, t), (2, (Ad E 16)), (2, (Ad E 1))]) (lo' := [(0, (2, (Ad E 1))), (1, (0, t)), (2, (0, e)), (3, (0, q))]) rfl ?_
                    refine r_iald hX hP rfl al_16 s34 (by first | decide | omega) (by first | decide | omega) (fun x35 x35e x35a x35b => ?_)
                    refine r_ex hX hP 1 (pc' := 101) (st' := [(0, (-1)), (0, x35), (2, (Ad E 1))]) (lo' := [(0, (2, (Ad E 1))), (1, (0, t)), (2, (0, e)), (3, (0, q))]) rfl ?_
                    have mi36 : MI E (up (up G 1 (Ad E 1) 1 0) 1 (Ad E 1) 0 0) := mi_keep mi rfl rfl rfl rfl rfl rfl (fun _ => rfl) (fun _ => rfl) (fun _ => rfl) (fun _ => rfl) (fun _ => rfl) (fun _ => rfl) (fun _ => rfl) (fun _ => rfl) (fun _ => rfl) (fun _ => rfl) (fun _ => rfl) (fun _ => rfl) (fun _ => rfl)
                    refine r_callV gd hX hP rfl cv_12_597 hS (d' := 39) (mc' := 0) (ms' := 0) (as' := [(0, x35), (0, (-1))]) (st := []) (by first | decide | omega) (by first | decide | omega) (by first | decide | omega) rfl rfl (Nat.le_of_ble_eq_true rfl) (c_X12_runs E S (up (up G 1 (Ad E 1) 1 0) 1 (Ad E 1) 0 0) x35 (-1) hS (by first | decide | omega) (by first | decide | omega) (by first | decide | omega) (by first | decide | omega) mi36) ?_
                    rintro _ _ _ ⟨rfl, ⟨G37, rfl⟩, z38, rfl, z38a, z38b⟩
                    refine r_if_ne hX hP rfl (tgt := 115) rfl (by first | decide | omega) (by first | decide | omega) (fun c39 => ?_) (fun c39 => ?_)
                    · skip
                      refine r_ex hX hP 1 (pc' := 116) (st' := [(2, (Ad E 1))]) (lo' := [(0, (2, (Ad E 1))), (1, (0, t)), (2, (0, e)), (3, (0, q))]) rfl ?_
                      refine r_getC hX hP rfl fl_12_70 hS (fun s40 => ?_)
                      refine r_ex hX hP 1 (pc' := 120) (st' := [(0, t), (2, (Ad E 19))]) (lo' := [(0, (2, (Ad E 1))), (1, (0, t)), (2, (0, e)), (3, (0, q))]) rfl ?_
                      refine r_zald hX hP rfl al_19 s40 (by first | decide | omega) (by first | decide | omega) (fun x41 x41e x41a x41b => ?_)
                      refine r_if_ne hX hP rfl (tgt := 132) rfl (by first | decide | omega) (by first | decide | omega) (fun c42 => ?_) (fun c42 => ?_)
                      · skip
                        refine r_ex hX hP 1 (pc' := 133) (st' := [(2, (Ad E 1))]) (lo' := [(0, (2, (Ad E 1))), (1, (0, t)), (2, (0, e)), (3, (0, q))]) rfl ?_
                        refine r_getC hX hP rfl fl_12_58 hS (fun s43 => ?_)
                        refine r_ex hX hP 1 (pc' := 137) (st' := [(0, t), (2, (Ad E 15))]) (lo' := [(0, (2, (Ad E 1))), (1, (0, t)), (2, (0, e)), (3, (0, q))]) rfl ?_
                        refine r_iald hX hP rfl al_15 s43 (by first | decide | omega) (by first | decide | omega) (fun x44 x44e x44a x44b => ?_)
                        refine r_ex hX hP 1 (pc' := 139) (st' := [(2, (Ad E 1)), (0, x44)]) (lo' := [(0, (2, (Ad E 1))), (1, (0, t)), (2, (0, e)), (3, (0, q))]) rfl ?_
                        refine r_getC hX hP rfl fl_12_77 hS (fun s45 => ?_)
                        refine r_ex hX hP 1 (pc' := 143) (st' := [(0, e), (2, (Ad E 21)), (0, x44)]) (lo' := [(0, (2, (Ad E 1))), (1, (0, t)), (2, (0, e)), (3, (0, q))]) rfl ?_
                        refine r_iald hX hP rfl al_21 s45 (by first | decide | omega) (by first | decide | omega) (fun x46 x46e x46a x46b => ?_)
                        refine r_ic_ge hX hP rfl (tgt := 166) rfl (by first | decide | omega) (by first | decide | omega) (by first | decide | omega) (by first | decide | omega) (fun c47 => ?_) (fun c47 => ?_)
                        · skip
                          refine r_ex hX hP 3 (pc' := 170) (st' := [(2, (Ad E 1))]) (lo' := [(0, (2, (Ad E 1))), (1, (0, t)), (2, (0, e)), (3, (0, q)), (4, (0, 0))]) rfl ?_
                          refine r_getC hX hP rfl fl_12_58 hS (fun _ => ?_)
                          refine r_ex hX hP 1 (pc' := 174) (st' := [(0, t), (2, (Ad E 15))]) (lo' := [(0, (2, (Ad E 1))), (1, (0, t)), (2, (0, e)), (3, (0, q)), (4, (0, 0))]) rfl ?_
                          refine r_ialdK hX hP rfl al_15 s43 (by first | decide | omega) (by first | decide | omega) (x := x44) x44e ?_
                          refine r_ex hX hP 1 (pc' := 176) (st' := [(2, (Ad E 1)), (0, x44)]) (lo' := [(0, (2, (Ad E 1))), (1, (0, t)), (2, (0, e)), (3, (0, q)), (4, (0, 0))]) rfl ?_
                          refine r_getC hX hP rfl fl_12_77 hS (fun _ => ?_)
                          refine r_ex hX hP 1 (pc' := 180) (st' := [(0, e), (2, (Ad E 21)), (0, x44)]) (lo' := [(0, (2, (Ad E 1))), (1, (0, t)), (2, (0, e)), (3, (0, q)), (4, (0, 0))]) rfl ?_
                          refine r_ialdK hX hP rfl al_21 s45 (by first | decide | omega) (by first | decide | omega) (x := x46) x46e ?_
                          refine r_ic_lt hX hP rfl (tgt := 203) rfl (by first | decide | omega) (by first | decide | omega) (by first | decide | omega) (by first | decide | omega) (fun c48 => ?_) (fun c48 => ?_)
                          · skip
                            refine r_ex hX hP 3 (pc' := 208) (st' := [(0, 0)]) (lo' := [(0, (2, (Ad E 1))), (1, (0, t)), (2, (0, e)), (3, (0, q)), (4, (0, 0)), (5, (0, 0))]) rfl ?_
                            refine r_if_ne hX hP rfl (tgt := 218) rfl (by first | decide | omega) (by first | decide | omega) (fun c49 => ?_) (fun c49 => ?_)
                            · skip
                              exfalso; omega
                            · skip
                              refine r_ex hX hP 1 (pc' := 213) (st' := [(0, 0)]) (lo' := [(0, (2, (Ad E 1))), (1, (0, t)), (2, (0, e)), (3, (0, q)), (4, (0, 0)), (5, (0, 0))]) rfl ?_
                              refine r_if_ne hX hP rfl (tgt := 218) rfl (by first | decide | omega) (by first | decide | omega) (fun c50 => ?_) (fun c50 => ?_)
                              · skip
                                exfalso; omega
                              · skip
                                refine r_ex hX hP 1 (pc' := 217) (st' := [(1, 0)]) (lo' := [(0, (2, (Ad E 1))), (1, (0, t)), (2, (0, e)), (3, (0, q)), (4, (0, 0)), (5, (0, 0))]) rfl ?_
                                exact r_retL hX hP rfl rfl (by first | decide | omega) (by first | decide | omega) ⟨rfl, ⟨_, (hq_call (hq_up (hq_up (hq_refl _ _ _) rfl) rfl) rfl).symm⟩, 0, rfl, (by first | decide | omega)⟩
                          · skip
                            refine r_ex hX hP 1 (pc' := 185) (st' := [(2, (Ad E 1))]) (lo' := [(0, (2, (Ad E 1))), (1, (0, t)), (2, (0, e)), (3, (0, q)), (4, (0, 0))]) rfl ?_
                            refine r_getC hX hP rfl fl_12_61 hS (fun _ => ?_)
                            refine r_ex hX hP 1 (pc' := 189) (st' := [(0, t), (2, (Ad E 16))]) (lo' := [(0, (2, (Ad E 1))), (1, (0, t)), (2, (0, e)), (3, (0, q)), (4, (0, 0))]) rfl ?_
                            refine r_ialdK hX hP rfl al_16 s34 (by first | decide | omega) (by first | decide | omega) (x := x35) x35e ?_
                            refine r_ex hX hP 1 (pc' := 191) (st' := [(2, (Ad E 1)), (0, x35)]) (lo' := [(0, (2, (Ad E 1))), (1, (0, t)), (2, (0, e)), (3, (0, q)), (4, (0, 0))]) rfl ?_
                            refine r_getC hX hP rfl fl_12_80 hS (fun s51 => ?_)
                            refine r_ex hX hP 1 (pc' := 195) (st' := [(0, e), (2, (Ad E 22)), (0, x35)]) (lo' := [(0, (2, (Ad E 1))), (1, (0, t)), (2, (0, e)), (3, (0, q)), (4, (0, 0))]) rfl ?_
                            refine r_iald hX hP rfl al_22 s51 (by first | decide | omega) (by first | decide | omega) (fun x52 x52e x52a x52b => ?_)
                            refine r_ic_gt hX hP rfl (tgt := 203) rfl (by first | decide | omega) (by first | decide | omega) (by first | decide | omega) (by first | decide | omega) (fun c53 => ?_) (fun c53 => ?_)
                            · skip
                              refine r_ex hX hP 3 (pc' := 208) (st' := [(0, 0)]) (lo' := [(0, (2, (Ad E 1))), (1, (0, t)), (2, (0, e)), (3, (0, q)), (4, (0, 0)), (5, (0, 0))]) rfl ?_
                              refine r_if_ne hX hP rfl (tgt := 218) rfl (by first | decide | omega) (by first | decide | omega) (fun c54 => ?_) (fun c54 => ?_)
                              · skip
                                exfalso; omega
                              · skip
                                refine r_ex hX hP 1 (pc' := 213) (st' := [(0, 0)]) (lo' := [(0, (2, (Ad E 1))), (1, (0, t)), (2, (0, e)), (3, (0, q)), (4, (0, 0)), (5, (0, 0))]) rfl ?_
                                refine r_if_ne hX hP rfl (tgt := 218) rfl (by first | decide | omega) (by first | decide | omega) (fun c55 => ?_) (fun c55 => ?_)
                                · skip
                                  exfalso; omega
                                · skip
                                  refine r_ex hX hP 1 (pc' := 217) (st' := [(1, 0)]) (lo' := [(0, (2, (Ad E 1))), (1, (0, t)), (2, (0, e)), (3, (0, q)), (4, (0, 0)), (5, (0, 0))]) rfl ?_
                                  exact r_retL hX hP rfl rfl (by first | decide | omega) (by first | decide | omega) ⟨rfl, ⟨_, (hq_call (hq_up (hq_up (hq_refl _ _ _) rfl) rfl) rfl).symm⟩, 0, rfl, (by first | decide | omega)⟩
                            · skip
                              refine r_ex hX hP 4 (pc' := 208) (st' := [(0, 0)]) (lo' := [(0, (2, (Ad E 1))), (1, (0, t)), (2, (0, e)), (3, (0, q)), (4, (0, 0)), (5, (0, 1))]) rfl ?_
                              refine r_if_ne hX hP rfl (tgt := 218) rfl (by first | decide | omega) (by first | decide | omega) (fun c56 => ?_) (fun c56 => ?_)
                              · skip
                                exfalso; omega
                              · skip
                                refine r_ex hX hP 1 (pc' := 213) (st' := [(0, 1)]) (lo' := [(0, (2, (Ad E 1))), (1, (0, t)), (2, (0, e)), (3, (0, q)), (4, (0, 0)), (5, (0, 1))]) rfl ?_
                                refine r_if_ne hX hP rfl (tgt := 218) rfl (by first | decide | omega) (by first | decide | omega) (fun c57 => ?_) (fun c57 => ?_)
                                · skip
                                  refine r_ex hX hP 4 (pc' := 222) (st' := [(2, (Ad E 1)), (0, (-1)), (0, e), (2, (Ad E 1))]) (lo' := [(0, (2, (Ad E 1))), (1, (0, t)), (2, (0, e)), (3, (0, q)), (4, (0, 0)), (5, (0, 1))]) rfl ?_
                                  refine r_getC hX hP rfl fl_12_55 hS (fun s58 => ?_)
                                  refine r_ex hX hP 1 (pc' := 226) (st' := [(0, t), (2, (Ad E 14)), (0, (-1)), (0, e), (2, (Ad E 1))]) (lo' := [(0, (2, (Ad E 1))), (1, (0, t)), (2, (0, e)), (3, (0, q)), (4, (0, 0)), (5, (0, 1))]) rfl ?_
                                  refine r_iald hX hP rfl al_14 s58 (by first | decide | omega) (by first | decide | omega) (fun x59 x59e x59a x59b => ?_)
                                  have mi60 : MI E (hv [120] [19, 72, 73, 74, 75, 76, 77, 78, 79, 80, 81, 82, 83, 84, 85, 86, 87, 88, 90, 91, 92] (up (up G 1 (Ad E 1) 1 0) 1 (Ad E 1) 0 0) G37) := mi_keep mi36 rfl rfl rfl rfl rfl rfl (fun _ => rfl) (fun _ => rfl) (fun _ => rfl) (fun _ => rfl) (fun _ => rfl) (fun _ => rfl) (fun _ => rfl) (fun _ => rfl) (fun _ => rfl) (fun _ => rfl) (fun _ => rfl) (fun _ => rfl) (fun _ => rfl)
                                  have x59m := mi_shares mi60 trp3e x59e (by first | decide | omega) (by first | decide | omega)
                                  refine r_i2l hX hP rfl (by first | decide | omega) (by first | decide | omega) ?_
                                  refine r_callV gd hX hP rfl cv_12_624 hS (d' := 34) (mc' := 0) (ms' := 0) (as' := [(0, e), (0, (-1)), (1, x59)]) (st := []) (by first | decide | omega) (by first | decide | omega) (by first | decide | omega) rfl rfl (Nat.le_of_ble_eq_true rfl) (c_X12_getsOf E S (hv [120] [19, 72, 73, 74, 75, 76, 77, 78, 79, 80, 81, 82, 83, 84, 85, 86, 87, 88, 90, 91, 92] (up (up G 1 (Ad E 1) 1 0) 1 (Ad E 1) 0 0) G37) e (-1) x59 hS evp9 evp9e (by first | decide | omega) (by first | decide | omega) (by first | decide | omega) (by first | decide | omega) (by first | decide | omega) (by first | decide | omega) (by first | decide | omega) mi60) ?_
                                  rintro _ _ _ ⟨rfl, ⟨G61, rfl⟩, rfl, -⟩
                                  refine r_ex hX hP 1 (pc' := 232) (st' := [(0, q)]) (lo' := [(0, (2, (Ad E 1))), (1, (0, t)), (2, (0, e)), (3, (0, q)), (4, (0, 0)), (5, (0, 1))]) rfl ?_
                                  refine r_if_ge hX hP rfl (tgt := 242) rfl (by first | decide | omega) (by first | decide | omega) (fun c62 => ?_) (fun c62 => ?_)
                                  · skip
                                    exfalso; omega
                                  · skip
                                    refine r_ex hX hP 1 (pc' := 236) (st' := [(2, (Ad E 1))]) (lo' := [(0, (2, (Ad E 1))), (1, (0, t)), (2, (0, e)), (3, (0, q)), (4, (0, 0)), (5, (0, 1))]) rfl ?_
                                    refine r_getL hX hP rfl fl_12_615 hS (fun gf63 gf63e gf63a gf63b => ?_)
                                    refine r_ex hX hP 3 (pc' := 252) (st' := [(0, 0)]) (lo' := [(0, (2, (Ad E 1))), (1, (0, t)), (2, (0, e)), (3, (0, q)), (4, (0, 0)), (5, (0, 1)), (6, (1, gf63))]) rfl ?_
                                    refine r_if_eq hX hP rfl (tgt := 260) rfl (by first | decide | omega) (by first | decide | omega) (fun c64 => ?_) (fun c64 => ?_)
                                    · skip
                                      refine r_ex hX hP 2 (pc' := 263) (st' := [(1, (-gf63))]) (lo' := [(0, (2, (Ad E 1))), (1, (0, t)), (2, (0, e)), (3, (0, q)), (4, (0, 0)), (5, (0, 1)), (6, (1, gf63))]) rfl ?_
                                      refine r_hvL hX (fun w65 w65a w65b w65e => ?_)
                                      exact r_retL hX hP rfl rfl (by first | decide | omega) (by first | decide | omega) ⟨rfl, ⟨_, (hq_call (hq_call (hq_up (hq_up (hq_refl _ _ _) rfl) rfl) rfl) rfl).symm⟩, w65, rfl, (by first | decide | omega)⟩
                                    · skip
                                      exfalso; omega
                                · skip
                                  exfalso; omega
                        · skip
                          refine r_ex hX hP 1 (pc' := 148) (st' := [(2, (Ad E 1))]) (lo' := [(0, (2, (Ad E 1))), (1, (0, t)), (2, (0, e)), (3, (0, q))]) rfl ?_
                          refine r_getC hX hP rfl fl_12_61 hS (fun _ => ?_)
                          refine r_ex hX hP 1 (pc' := 152) (st' := [(0, t), (2, (Ad E 16))]) (lo' := [(0, (2, (Ad E 1))), (1, (0, t)), (2, (0, e)), (3, (0, q))]) rfl ?_
                          refine r_ialdK hX hP rfl al_16 s34 (by first | decide | omega) (by first | decide | omega) (x := x35) x35e ?_
                          refine r_ex hX hP 1 (pc' := 154) (st' := [(2, (Ad E 1)), (0, x35)]) (lo' := [(0, (2, (Ad E 1))), (1, (0, t)), (2, (0, e)), (3, (0, q))]) rfl ?_
                          refine r_getC hX hP rfl fl_12_80 hS (fun s66 => ?_)
                          refine r_ex hX hP 1 (pc' := 158) (st' := [(0, e), (2, (Ad E 22)), (0, x35)]) (lo' := [(0, (2, (Ad E 1))), (1, (0, t)), (2, (0, e)), (3, (0, q))]) rfl ?_
                          refine r_iald hX hP rfl al_22 s66 (by first | decide | omega) (by first | decide | omega) (fun x67 x67e x67a x67b => ?_)
                          refine r_ic_le hX hP rfl (tgt := 166) rfl (by first | decide | omega) (by first | decide | omega) (by first | decide | omega) (by first | decide | omega) (fun c68 => ?_) (fun c68 => ?_)
                          · skip
                            refine r_ex hX hP 3 (pc' := 170) (st' := [(2, (Ad E 1))]) (lo' := [(0, (2, (Ad E 1))), (1, (0, t)), (2, (0, e)), (3, (0, q)), (4, (0, 0))]) rfl ?_
                            refine r_getC hX hP rfl fl_12_58 hS (fun _ => ?_)
                            refine r_ex hX hP 1 (pc' := 174) (st' := [(0, t), (2, (Ad E 15))]) (lo' := [(0, (2, (Ad E 1))), (1, (0, t)), (2, (0, e)), (3, (0, q)), (4, (0, 0))]) rfl ?_
                            refine r_ialdK hX hP rfl al_15 s43 (by first | decide | omega) (by first | decide | omega) (x := x44) x44e ?_
                            refine r_ex hX hP 1 (pc' := 176) (st' := [(2, (Ad E 1)), (0, x44)]) (lo' := [(0, (2, (Ad E 1))), (1, (0, t)), (2, (0, e)), (3, (0, q)), (4, (0, 0))]) rfl ?_
                            refine r_getC hX hP rfl fl_12_77 hS (fun _ => ?_)
                            refine r_ex hX hP 1 (pc' := 180) (st' := [(0, e), (2, (Ad E 21)), (0, x44)]) (lo' := [(0, (2, (Ad E 1))), (1, (0, t)), (2, (0, e)), (3, (0, q)), (4, (0, 0))]) rfl ?_
                            refine r_ialdK hX hP rfl al_21 s45 (by first | decide | omega) (by first | decide | omega) (x := x46) x46e ?_
                            refine r_ic_lt hX hP rfl (tgt := 203) rfl (by first | decide | omega) (by first | decide | omega) (by first | decide | omega) (by first | decide | omega) (fun c69 => ?_) (fun c69 => ?_)
                            · skip
                              refine r_ex hX hP 3 (pc' := 208) (st' := [(0, 0)]) (lo' := [(0, (2, (Ad E 1))), (1, (0, t)), (2, (0, e)), (3, (0, q)), (4, (0, 0)), (5, (0, 0))]) rfl ?_
                              refine r_if_ne hX hP rfl (tgt := 218) rfl (by first | decide | omega) (by first | decide | omega) (fun c70 => ?_) (fun c70 => ?_)
                              · skip
                                exfalso; omega
                              · skip
                                refine r_ex hX hP 1 (pc' := 213) (st' := [(0, 0)]) (lo' := [(0, (2, (Ad E 1))), (1, (0, t)), (2, (0, e)), (3, (0, q)), (4, (0, 0)), (5, (0, 0))]) rfl ?_
                                refine r_if_ne hX hP rfl (tgt := 218) rfl (by first | decide | omega) (by first | decide | omega) (fun c71 => ?_) (fun c71 => ?_)
                                · skip
                                  exfalso; omega
                                · skip
                                  refine r_ex hX hP 1 (pc' := 217) (st' := [(1, 0)]) (lo' := [(0, (2, (Ad E 1))), (1, (0, t)), (2, (0, e)), (3, (0, q)), (4, (0, 0)), (5, (0, 0))]) rfl ?_
                                  exact r_retL hX hP rfl rfl (by first | decide | omega) (by first | decide | omega) ⟨rfl, ⟨_, (hq_call (hq_up (hq_up (hq_refl _ _ _) rfl) rfl) rfl).symm⟩, 0, rfl, (by first | decide | omega)⟩
                            · skip
                              refine r_ex hX hP 1 (pc' := 185) (st' := [(2, (Ad E 1))]) (lo' := [(0, (2, (Ad E 1))), (1, (0, t)), (2, (0, e)), (3, (0, q)), (4, (0, 0))]) rfl ?_
                              refine r_getC hX hP rfl fl_12_61 hS (fun _ => ?_)
                              refine r_ex hX hP 1 (pc' := 189) (st' := [(0, t), (2, (Ad E 16))]) (lo' := [(0, (2, (Ad E 1))), (1, (0, t)), (2, (0, e)), (3, (0, q)), (4, (0, 0))]) rfl ?_
                              refine r_ialdK hX hP rfl al_16 s34 (by first | decide | omega) (by first | decide | omega) (x := x35) x35e ?_
                              refine r_ex hX hP 1 (pc' := 191) (st' := [(2, (Ad E 1)), (0, x35)]) (lo' := [(0, (2, (Ad E 1))), (1, (0, t)), (2, (0, e)), (3, (0, q)), (4, (0, 0))]) rfl ?_
                              refine r_getC hX hP rfl fl_12_80 hS (fun _ => ?_)
                              refine r_ex hX hP 1 (pc' := 195) (st' := [(0, e), (2, (Ad E 22)), (0, x35)]) (lo' := [(0, (2, (Ad E 1))), (1, (0, t)), (2, (0, e)), (3, (0, q)), (4, (0, 0))]) rfl ?_
                              refine r_ialdK hX hP rfl al_22 s66 (by first | decide | omega) (by first | decide | omega) (x := x67) x67e ?_
                              refine r_ic_gt hX hP rfl (tgt := 203) rfl (by first | decide | omega) (by first | decide | omega) (by first | decide | omega) (by first | decide | omega) (fun c72 => ?_) (fun c72 => ?_)
                              · skip
                                refine r_ex hX hP 3 (pc' := 208) (st' := [(0, 0)]) (lo' := [(0, (2, (Ad E 1))), (1, (0, t)), (2, (0, e)), (3, (0, q)), (4, (0, 0)), (5, (0, 0))]) rfl ?_
                                refine r_if_ne hX hP rfl (tgt := 218) rfl (by first | decide | omega) (by first | decide | omega) (fun c73 => ?_) (fun c73 => ?_)
                                · skip
                                  exfalso; omega
                                · skip
                                  refine r_ex hX hP 1 (pc' := 213) (st' := [(0, 0)]) (lo' := [(0, (2, (Ad E 1))), (1, (0, t)), (2, (0, e)), (3, (0, q)), (4, (0, 0)), (5, (0, 0))]) rfl ?_
                                  refine r_if_ne hX hP rfl (tgt := 218) rfl (by first | decide | omega) (by first | decide | omega) (fun c74 => ?_) (fun c74 => ?_)
                                  · skip
                                    exfalso; omega
                                  · skip
                                    refine r_ex hX hP 1 (pc' := 217) (st' := [(1, 0)]) (lo' := [(0, (2, (Ad E 1))), (1, (0, t)), (2, (0, e)), (3, (0, q)), (4, (0, 0)), (5, (0, 0))]) rfl ?_
                                    exact r_retL hX hP rfl rfl (by first | decide | omega) (by first | decide | omega) ⟨rfl, ⟨_, (hq_call (hq_up (hq_up (hq_refl _ _ _) rfl) rfl) rfl).symm⟩, 0, rfl, (by first | decide | omega)⟩
                              · skip
                                refine r_ex hX hP 4 (pc' := 208) (st' := [(0, 0)]) (lo' := [(0, (2, (Ad E 1))), (1, (0, t)), (2, (0, e)), (3, (0, q)), (4, (0, 0)), (5, (0, 1))]) rfl ?_
                                refine r_if_ne hX hP rfl (tgt := 218) rfl (by first | decide | omega) (by first | decide | omega) (fun c75 => ?_) (fun c75 => ?_)
                                · skip
                                  exfalso; omega
                                · skip
                                  refine r_ex hX hP 1 (pc' := 213) (st' := [(0, 1)]) (lo' := [(0, (2, (Ad E 1))), (1, (0, t)), (2, (0, e)), (3, (0, q)), (4, (0, 0)), (5, (0, 1))]) rfl ?_
                                  refine r_if_ne hX hP rfl (tgt := 218) rfl (by first | decide | omega) (by first | decide | omega) (fun c76 => ?_) (fun c76 => ?_)
                                  · skip
                                    refine r_ex hX hP 4 (pc' := 222) (st' := [(2, (Ad E 1)), (0, (-1)), (0, e), (2, (Ad E 1))]) (lo' := [(0, (2, (Ad E 1))), (1, (0, t)), (2, (0, e)), (3, (0, q)), (4, (0, 0)), (5, (0, 1))]) rfl ?_
                                    refine r_getC hX hP rfl fl_12_55 hS (fun s77 => ?_)
                                    refine r_ex hX hP 1 (pc' := 226) (st' := [(0, t), (2, (Ad E 14)), (0, (-1)), (0, e), (2, (Ad E 1))]) (lo' := [(0, (2, (Ad E 1))), (1, (0, t)), (2, (0, e)), (3, (0, q)), (4, (0, 0)), (5, (0, 1))]) rfl ?_
                                    refine r_iald hX hP rfl al_14 s77 (by first | decide | omega) (by first | decide | omega) (fun x78 x78e x78a x78b => ?_)
                                    have mi79 : MI E (hv [120] [19, 72, 73, 74, 75, 76, 77, 78, 79, 80, 81, 82, 83, 84, 85, 86, 87, 88, 90, 91, 92] (up (up G 1 (Ad E 1) 1 0) 1 (Ad E 1) 0 0) G37) := mi_keep mi36 rfl rfl rfl rfl rfl rfl (fun _ => rfl) (fun _ => rfl) (fun _ => rfl) (fun _ => rfl) (fun _ => rfl) (fun _ => rfl) (fun _ => rfl) (fun _ => rfl) (fun _ => rfl) (fun _ => rfl) (fun _ => rfl) (fun _ => rfl) (fun _ => rfl)
                                    have x78m := mi_shares mi79 trp3e x78e (by first | decide | omega) (by first | decide | omega)
                                    refine r_i2l hX hP rfl (by first | decide | omega) (by first | decide | omega) ?_
                                    refine r_callV gd hX hP rfl cv_12_624 hS (d' := 34) (mc' := 0) (ms' := 0) (as' := [(0, e), (0, (-1)), (1, x78)]) (st := []) (by first | decide | omega) (by first | decide | omega) (by first | decide | omega) rfl rfl (Nat.le_of_ble_eq_true rfl) (c_X12_getsOf E S (hv [120] [19, 72, 73, 74, 75, 76, 77, 78, 79, 80, 81, 82, 83, 84, 85, 86, 87, 88, 90, 91, 92] (up (up G 1 (Ad E 1) 1 0) 1 (Ad E 1) 0 0) G37) e (-1) x78 hS evp9 evp9e (by first | decide | omega) (by first | decide | omega) (by first | decide | omega) (by first | decide | omega) (by first | decide | omega) (by first | decide | omega) (by first | decide | omega) mi79) ?_
                                    rintro _ _ _ ⟨rfl, ⟨G80, rfl⟩, rfl, -⟩
                                    refine r_ex hX hP 1 (pc' := 232) (st' := [(0, q)]) (lo' := [(0, (2, (Ad E 1))), (1, (0, t)), (2, (0, e)), (3, (0, q)), (4, (0, 0)), (5, (0, 1))]) rfl ?_
                                    refine r_if_ge hX hP rfl (tgt := 242) rfl (by first | decide | omega) (by first | decide | omega) (fun c81 => ?_) (fun c81 => ?_)
                                    · skip
                                      exfalso; omega
                                    · skip
                                      refine r_ex hX hP 1 (pc' := 236) (st' := [(2, (Ad E 1))]) (lo' := [(0, (2, (Ad E 1))), (1, (0, t)), (2, (0, e)), (3, (0, q)), (4, (0, 0)), (5, (0, 1))]) rfl ?_
                                      refine r_getL hX hP rfl fl_12_615 hS (fun gf82 gf82e gf82a gf82b => ?_)
                                      refine r_ex hX hP 3 (pc' := 252) (st' := [(0, 0)]) (lo' := [(0, (2, (Ad E 1))), (1, (0, t)), (2, (0, e)), (3, (0, q)), (4, (0, 0)), (5, (0, 1)), (6, (1, gf82))]) rfl ?_
                                      refine r_if_eq hX hP rfl (tgt := 260) rfl (by first | decide | omega) (by first | decide | omega) (fun c83 => ?_) (fun c83 => ?_)
                                      · skip
                                        refine r_ex hX hP 2 (pc' := 263) (st' := [(1, (-gf82))]) (lo' := [(0, (2, (Ad E 1))), (1, (0, t)), (2, (0, e)), (3, (0, q)), (4, (0, 0)), (5, (0, 1)), (6, (1, gf82))]) rfl ?_
                                        refine r_hvL hX (fun w84 w84a w84b w84e => ?_)
                                        exact r_retL hX hP rfl rfl (by first | decide | omega) (by first | decide | omega) ⟨rfl, ⟨_, (hq_call (hq_call (hq_up (hq_up (hq_refl _ _ _) rfl) rfl) rfl) rfl).symm⟩, w84, rfl, (by first | decide | omega)⟩
                                      · skip
                                        exfalso; omega
                                  · skip
                                    exfalso; omega
                          · skip
                            refine r_ex hX hP 4 (pc' := 170) (st' := [(2, (Ad E 1))]) (lo' := [(0, (2, (Ad E 1))), (1, (0, t)), (2, (0, e)), (3, (0, q)), (4, (0, 1))]) rfl ?_
                            refine r_getC hX hP rfl fl_12_58 hS (fun _ => ?_)
                            refine r_ex hX hP 1 (pc' := 174) (st' := [(0, t), (2, (Ad E 15))]) (lo' := [(0, (2, (Ad E 1))), (1, (0, t)), (2, (0, e)), (3, (0, q)), (4, (0, 1))]) rfl ?_
                            refine r_ialdK hX hP rfl al_15 s43 (by first | decide | omega) (by first | decide | omega) (x := x44) x44e ?_
                            refine r_ex hX hP 1 (pc' := 176) (st' := [(2, (Ad E 1)), (0, x44)]) (lo' := [(0, (2, (Ad E 1))), (1, (0, t)), (2, (0, e)), (3, (0, q)), (4, (0, 1))]) rfl ?_
                            refine r_getC hX hP rfl fl_12_77 hS (fun _ => ?_)
                            refine r_ex hX hP 1 (pc' := 180) (st' := [(0, e), (2, (Ad E 21)), (0, x44)]) (lo' := [(0, (2, (Ad E 1))), (1, (0, t)), (2, (0, e)), (3, (0, q)), (4, (0, 1))]) rfl ?_
                            refine r_ialdK hX hP rfl al_21 s45 (by first | decide | omega) (by first | decide | omega) (x := x46) x46e ?_
                            refine r_ic_lt hX hP rfl (tgt := 203) rfl (by first | decide | omega) (by first | decide | omega) (by first | decide | omega) (by first | decide | omega) (fun c85 => ?_) (fun c85 => ?_)
                            · skip
                              refine r_ex hX hP 3 (pc' := 208) (st' := [(0, 1)]) (lo' := [(0, (2, (Ad E 1))), (1, (0, t)), (2, (0, e)), (3, (0, q)), (4, (0, 1)), (5, (0, 0))]) rfl ?_
                              refine r_if_ne hX hP rfl (tgt := 218) rfl (by first | decide | omega) (by first | decide | omega) (fun c86 => ?_) (fun c86 => ?_)
                              · skip
                                refine r_ex hX hP 4 (pc' := 222) (st' := [(2, (Ad E 1)), (0, (-1)), (0, e), (2, (Ad E 1))]) (lo' := [(0, (2, (Ad E 1))), (1, (0, t)), (2, (0, e)), (3, (0, q)), (4, (0, 1)), (5, (0, 0))]) rfl ?_
                                refine r_getC hX hP rfl fl_12_55 hS (fun s87 => ?_)
                                refine r_ex hX hP 1 (pc' := 226) (st' := [(0, t), (2, (Ad E 14)), (0, (-1)), (0, e), (2, (Ad E 1))]) (lo' := [(0, (2, (Ad E 1))), (1, (0, t)), (2, (0, e)), (3, (0, q)), (4, (0, 1)), (5, (0, 0))]) rfl ?_
                                refine r_iald hX hP rfl al_14 s87 (by first | decide | omega) (by first | decide | omega) (fun x88 x88e x88a x88b => ?_)
                                have mi89 : MI E (hv [120] [19, 72, 73, 74, 75, 76, 77, 78, 79, 80, 81, 82, 83, 84, 85, 86, 87, 88, 90, 91, 92] (up (up G 1 (Ad E 1) 1 0) 1 (Ad E 1) 0 0) G37) := mi_keep mi36 rfl rfl rfl rfl rfl rfl (fun _ => rfl) (fun _ => rfl) (fun _ => rfl) (fun _ => rfl) (fun _ => rfl) (fun _ => rfl) (fun _ => rfl) (fun _ => rfl) (fun _ => rfl) (fun _ => rfl) (fun _ => rfl) (fun _ => rfl) (fun _ => rfl)
                                have x88m := mi_shares mi89 trp3e x88e (by first | decide | omega) (by first | decide | omega)
                                refine r_i2l hX hP rfl (by first | decide | omega) (by first | decide | omega) ?_
                                refine r_callV gd hX hP rfl cv_12_624 hS (d' := 34) (mc' := 0) (ms' := 0) (as' := [(0, e), (0, (-1)), (1, x88)]) (st := []) (by first | decide | omega) (by first | decide | omega) (by first | decide | omega) rfl rfl (Nat.le_of_ble_eq_true rfl) (c_X12_getsOf E S (hv [120] [19, 72, 73, 74, 75, 76, 77, 78, 79, 80, 81, 82, 83, 84, 85, 86, 87, 88, 90, 91, 92] (up (up G 1 (Ad E 1) 1 0) 1 (Ad E 1) 0 0) G37) e (-1) x88 hS evp9 evp9e (by first | decide | omega) (by first | decide | omega) (by first | decide | omega) (by first | decide | omega) (by first | decide | omega) (by first | decide | omega) (by first | decide | omega) mi89) ?_
                                rintro _ _ _ ⟨rfl, ⟨G90, rfl⟩, rfl, -⟩
                                refine r_ex hX hP 1 (pc' := 232) (st' := [(0, q)]) (lo' := [(0, (2, (Ad E 1))), (1, (0, t)), (2, (0, e)), (3, (0, q)), (4, (0, 1)), (5, (0, 0))]) rfl ?_
                                refine r_if_ge hX hP rfl (tgt := 242) rfl (by first | decide | omega) (by first | decide | omega) (fun c91 => ?_) (fun c91 => ?_)
                                · skip
                                  exfalso; omega
                                · skip
                                  refine r_ex hX hP 1 (pc' := 236) (st' := [(2, (Ad E 1))]) (lo' := [(0, (2, (Ad E 1))), (1, (0, t)), (2, (0, e)), (3, (0, q)), (4, (0, 1)), (5, (0, 0))]) rfl ?_
                                  refine r_getL hX hP rfl fl_12_615 hS (fun gf92 gf92e gf92a gf92b => ?_)
                                  refine r_ex hX hP 3 (pc' := 252) (st' := [(0, 1)]) (lo' := [(0, (2, (Ad E 1))), (1, (0, t)), (2, (0, e)), (3, (0, q)), (4, (0, 1)), (5, (0, 0)), (6, (1, gf92))]) rfl ?_
                                  refine r_if_eq hX hP rfl (tgt := 260) rfl (by first | decide | omega) (by first | decide | omega) (fun c93 => ?_) (fun c93 => ?_)
                                  · skip
                                    exfalso; omega
                                  · skip
                                    refine r_ex hX hP 2 (pc' := 263) (st' := [(1, gf92)]) (lo' := [(0, (2, (Ad E 1))), (1, (0, t)), (2, (0, e)), (3, (0, q)), (4, (0, 1)), (5, (0, 0)), (6, (1, gf92))]) rfl ?_
                                    exact r_retL hX hP rfl rfl (by first | decide | omega) (by first | decide | omega) ⟨rfl, ⟨_, (hq_call (hq_call (hq_up (hq_up (hq_refl _ _ _) rfl) rfl) rfl) rfl).symm⟩, gf92, rfl, (by first | decide | omega)⟩
                              · skip
                                exfalso; omega
                            · skip
                              refine r_ex hX hP 1 (pc' := 185) (st' := [(2, (Ad E 1))]) (lo' := [(0, (2, (Ad E 1))), (1, (0, t)), (2, (0, e)), (3, (0, q)), (4, (0, 1))]) rfl ?_
                              refine r_getC hX hP rfl fl_12_61 hS (fun _ => ?_)
                              refine r_ex hX hP 1 (pc' := 189) (st' := [(0, t), (2, (Ad E 16))]) (lo' := [(0, (2, (Ad E 1))), (1, (0, t)), (2, (0, e)), (3, (0, q)), (4, (0, 1))]) rfl ?_
                              refine r_ialdK hX hP rfl al_16 s34 (by first | decide | omega) (by first | decide | omega) (x := x35) x35e ?_
                              refine r_ex hX hP 1 (pc' := 191) (st' := [(2, (Ad E 1)), (0, x35)]) (lo' := [(0, (2, (Ad E 1))), (1, (0, t)), (2, (0, e)), (3, (0, q)), (4, (0, 1))]) rfl ?_
                              refine r_getC hX hP rfl fl_12_80 hS (fun _ => ?_)
                              refine r_ex hX hP 1 (pc' := 195) (st' := [(0, e), (2, (Ad E 22)), (0, x35)]) (lo' := [(0, (2, (Ad E 1))), (1, (0, t)), (2, (0, e)), (3, (0, q)), (4, (0, 1))]) rfl ?_
                              refine r_ialdK hX hP rfl al_22 s66 (by first | decide | omega) (by first | decide | omega) (x := x67) x67e ?_
                              refine r_ic_gt hX hP rfl (tgt := 203) rfl (by first | decide | omega) (by first | decide | omega) (by first | decide | omega) (by first | decide | omega) (fun c94 => ?_) (fun c94 => ?_)
                              · skip
                                refine r_ex hX hP 3 (pc' := 208) (st' := [(0, 1)]) (lo' := [(0, (2, (Ad E 1))), (1, (0, t)), (2, (0, e)), (3, (0, q)), (4, (0, 1)), (5, (0, 0))]) rfl ?_
                                refine r_if_ne hX hP rfl (tgt := 218) rfl (by first | decide | omega) (by first | decide | omega) (fun c95 => ?_) (fun c95 => ?_)
                                · skip
                                  refine r_ex hX hP 4 (pc' := 222) (st' := [(2, (Ad E 1)), (0, (-1)), (0, e), (2, (Ad E 1))]) (lo' := [(0, (2, (Ad E 1))), (1, (0, t)), (2, (0, e)), (3, (0, q)), (4, (0, 1)), (5, (0, 0))]) rfl ?_
                                  refine r_getC hX hP rfl fl_12_55 hS (fun s96 => ?_)
                                  refine r_ex hX hP 1 (pc' := 226) (st' := [(0, t), (2, (Ad E 14)), (0, (-1)), (0, e), (2, (Ad E 1))]) (lo' := [(0, (2, (Ad E 1))), (1, (0, t)), (2, (0, e)), (3, (0, q)), (4, (0, 1)), (5, (0, 0))]) rfl ?_
                                  refine r_iald hX hP rfl al_14 s96 (by first | decide | omega) (by first | decide | omega) (fun x97 x97e x97a x97b => ?_)
                                  have mi98 : MI E (hv [120] [19, 72, 73, 74, 75, 76, 77, 78, 79, 80, 81, 82, 83, 84, 85, 86, 87, 88, 90, 91, 92] (up (up G 1 (Ad E 1) 1 0) 1 (Ad E 1) 0 0) G37) := mi_keep mi36 rfl rfl rfl rfl rfl rfl (fun _ => rfl) (fun _ => rfl) (fun _ => rfl) (fun _ => rfl) (fun _ => rfl) (fun _ => rfl) (fun _ => rfl) (fun _ => rfl) (fun _ => rfl) (fun _ => rfl) (fun _ => rfl) (fun _ => rfl) (fun _ => rfl)
                                  have x97m := mi_shares mi98 trp3e x97e (by first | decide | omega) (by first | decide | omega)
                                  refine r_i2l hX hP rfl (by first | decide | omega) (by first | decide | omega) ?_
                                  refine r_callV gd hX hP rfl cv_12_624 hS (d' := 34) (mc' := 0) (ms' := 0) (as' := [(0, e), (0, (-1)), (1, x97)]) (st := []) (by first | decide | omega) (by first | decide | omega) (by first | decide | omega) rfl rfl (Nat.le_of_ble_eq_true rfl) (c_X12_getsOf E S (hv [120] [19, 72, 73, 74, 75, 76, 77, 78, 79, 80, 81, 82, 83, 84, 85, 86, 87, 88, 90, 91, 92] (up (up G 1 (Ad E 1) 1 0) 1 (Ad E 1) 0 0) G37) e (-1) x97 hS evp9 evp9e (by first | decide | omega) (by first | decide | omega) (by first | decide | omega) (by first | decide | omega) (by first | decide | omega) (by first | decide | omega) (by first | decide | omega) mi98) ?_
                                  rintro _ _ _ ⟨rfl, ⟨G99, rfl⟩, rfl, -⟩
                                  refine r_ex hX hP 1 (pc' := 232) (st' := [(0, q)]) (lo' := [(0, (2, (Ad E 1))), (1, (0, t)), (2, (0, e)), (3, (0, q)), (4, (0, 1)), (5, (0, 0))]) rfl ?_
                                  refine r_if_ge hX hP rfl (tgt := 242) rfl (by first | decide | omega) (by first | decide | omega) (fun c100 => ?_) (fun c100 => ?_)
                                  · skip
                                    exfalso; omega
                                  · skip
                                    refine r_ex hX hP 1 (pc' := 236) (st' := [(2, (Ad E 1))]) (lo' := [(0, (2, (Ad E 1))), (1, (0, t)), (2, (0, e)), (3, (0, q)), (4, (0, 1)), (5, (0, 0))]) rfl ?_
                                    refine r_getL hX hP rfl fl_12_615 hS (fun gf101 gf101e gf101a gf101b => ?_)
                                    refine r_ex hX hP 3 (pc' := 252) (st' := [(0, 1)]) (lo' := [(0, (2, (Ad E 1))), (1, (0, t)), (2, (0, e)), (3, (0, q)), (4, (0, 1)), (5, (0, 0)), (6, (1, gf101))]) rfl ?_
                                    refine r_if_eq hX hP rfl (tgt := 260) rfl (by first | decide | omega) (by first | decide | omega) (fun c102 => ?_) (fun c102 => ?_)
                                    · skip
                                      exfalso; omega
                                    · skip
                                      refine r_ex hX hP 2 (pc' := 263) (st' := [(1, gf101)]) (lo' := [(0, (2, (Ad E 1))), (1, (0, t)), (2, (0, e)), (3, (0, q)), (4, (0, 1)), (5, (0, 0)), (6, (1, gf101))]) rfl ?_
                                      exact r_retL hX hP rfl rfl (by first | decide | omega) (by first | decide | omega) ⟨rfl, ⟨_, (hq_call (hq_call (hq_up (hq_up (hq_refl _ _ _) rfl) rfl) rfl) rfl).symm⟩, gf101, rfl, (by first | decide | omega)⟩
                                · skip
                                  exfalso; omega
                              · skip
                                refine r_ex hX hP 4 (pc' := 208) (st' := [(0, 1)]) (lo' := [(0, (2, (Ad E 1))), (1, (0, t)), (2, (0, e)), (3, (0, q)), (4, (0, 1)), (5, (0, 1))]) rfl ?_
                                refine r_if_ne hX hP rfl (tgt := 218) rfl (by first | decide | omega) (by first | decide | omega) (fun c103 => ?_) (fun c103 => ?_)
                                · skip
                                  refine r_ex hX hP 4 (pc' := 222) (st' := [(2, (Ad E 1)), (0, (-1)), (0, e), (2, (Ad E 1))]) (lo' := [(0, (2, (Ad E 1))), (1, (0, t)), (2, (0, e)), (3, (0, q)), (4, (0, 1)), (5, (0, 1))]) rfl ?_
                                  refine r_getC hX hP rfl fl_12_55 hS (fun s104 => ?_)
                                  refine r_ex hX hP 1 (pc' := 226) (st' := [(0, t), (2, (Ad E 14)), (0, (-1)), (0, e), (2, (Ad E 1))]) (lo' := [(0, (2, (Ad E 1))), (1, (0, t)), (2, (0, e)), (3, (0, q)), (4, (0, 1)), (5, (0, 1))]) rfl ?_
                                  refine r_iald hX hP rfl al_14 s104 (by first | decide | omega) (by first | decide | omega) (fun x105 x105e x105a x105b => ?_)
                                  have mi106 : MI E (hv [120] [19, 72, 73, 74, 75, 76, 77, 78, 79, 80, 81, 82, 83, 84, 85, 86, 87, 88, 90, 91, 92] (up (up G 1 (Ad E 1) 1 0) 1 (Ad E 1) 0 0) G37) := mi_keep mi36 rfl rfl rfl rfl rfl rfl (fun _ => rfl) (fun _ => rfl) (fun _ => rfl) (fun _ => rfl) (fun _ => rfl) (fun _ => rfl) (fun _ => rfl) (fun _ => rfl) (fun _ => rfl) (fun _ => rfl) (fun _ => rfl) (fun _ => rfl) (fun _ => rfl)
                                  have x105m := mi_shares mi106 trp3e x105e (by first | decide | omega) (by first | decide | omega)
                                  refine r_i2l hX hP rfl (by first | decide | omega) (by first | decide | omega) ?_
                                  refine r_callV gd hX hP rfl cv_12_624 hS (d' := 34) (mc' := 0) (ms' := 0) (as' := [(0, e), (0, (-1)), (1, x105)]) (st := []) (by first | decide | omega) (by first | decide | omega) (by first | decide | omega) rfl rfl (Nat.le_of_ble_eq_true rfl) (c_X12_getsOf E S (hv [120] [19, 72, 73, 74, 75, 76, 77, 78, 79, 80, 81, 82, 83, 84, 85, 86, 87, 88, 90, 91, 92] (up (up G 1 (Ad E 1) 1 0) 1 (Ad E 1) 0 0) G37) e (-1) x105 hS evp9 evp9e (by first | decide | omega) (by first | decide | omega) (by first | decide | omega) (by first | decide | omega) (by first | decide | omega) (by first | decide | omega) (by first | decide | omega) mi106) ?_
                                  rintro _ _ _ ⟨rfl, ⟨G107, rfl⟩, rfl, -⟩
                                  refine r_ex hX hP 1 (pc' := 232) (st' := [(0, q)]) (lo' := [(0, (2, (Ad E 1))), (1, (0, t)), (2, (0, e)), (3, (0, q)), (4, (0, 1)), (5, (0, 1))]) rfl ?_
                                  refine r_if_ge hX hP rfl (tgt := 242) rfl (by first | decide | omega) (by first | decide | omega) (fun c108 => ?_) (fun c108 => ?_)
                                  · skip
                                    exfalso; omega
                                  · skip
                                    refine r_ex hX hP 1 (pc' := 236) (st' := [(2, (Ad E 1))]) (lo' := [(0, (2, (Ad E 1))), (1, (0, t)), (2, (0, e)), (3, (0, q)), (4, (0, 1)), (5, (0, 1))]) rfl ?_
                                    refine r_getL hX hP rfl fl_12_615 hS (fun gf109 gf109e gf109a gf109b => ?_)
                                    refine r_ex hX hP 3 (pc' := 252) (st' := [(0, 1)]) (lo' := [(0, (2, (Ad E 1))), (1, (0, t)), (2, (0, e)), (3, (0, q)), (4, (0, 1)), (5, (0, 1)), (6, (1, gf109))]) rfl ?_
                                    refine r_if_eq hX hP rfl (tgt := 260) rfl (by first | decide | omega) (by first | decide | omega) (fun c110 => ?_) (fun c110 => ?_)
                                    · skip
                                      exfalso; omega
                                    · skip
                                      refine r_ex hX hP 2 (pc' := 263) (st' := [(1, gf109)]) (lo' := [(0, (2, (Ad E 1))), (1, (0, t)), (2, (0, e)), (3, (0, q)), (4, (0, 1)), (5, (0, 1)), (6, (1, gf109))]) rfl ?_
                                      exact r_retL hX hP rfl rfl (by first | decide | omega) (by first | decide | omega) ⟨rfl, ⟨_, (hq_call (hq_call (hq_up (hq_up (hq_refl _ _ _) rfl) rfl) rfl) rfl).symm⟩, gf109, rfl, (by first | decide | omega)⟩
                                · skip
                                  exfalso; omega
                      · skip
                        refine r_ex hX hP 2 (pc' := 127) (st' := [(0, 7), (2, (Ad E 1))]) (lo' := [(0, (2, (Ad E 1))), (1, (0, t)), (2, (0, e)), (3, (0, q))]) rfl ?_
                        refine r_callV gd hX hP rfl cv_12_327 hS (d' := 0) (mc' := 0) (ms' := 0) (as' := [(0, 7)]) (st := []) (by first | decide | omega) (by first | decide | omega) (by first | decide | omega) rfl rfl (Nat.le_of_ble_eq_true rfl) (c_X12_refuse E S (hv [120] [19, 72, 73, 74, 75, 76, 77, 78, 79, 80, 81, 82, 83, 84, 85, 86, 87, 88, 90, 91, 92] (up (up G 1 (Ad E 1) 1 0) 1 (Ad E 1) 0 0) G37) 7 hS (by first | decide | omega) (by first | decide | omega)) ?_
                        rintro _ _ _ ⟨rfl, ⟨G111, rfl⟩, z112, rfl, rfl⟩
                        refine r_i2l hX hP rfl (by first | decide | omega) (by first | decide | omega) ?_
                        exact r_retL hX hP rfl rfl (by first | decide | omega) (by first | decide | omega) ⟨rfl, ⟨_, (hq_call (hq_call (hq_up (hq_up (hq_refl _ _ _) rfl) rfl) rfl) rfl).symm⟩, (-1), rfl, (by first | decide | omega)⟩
                    · skip
                      refine r_ex hX hP 2 (pc' := 110) (st' := [(0, 8), (2, (Ad E 1))]) (lo' := [(0, (2, (Ad E 1))), (1, (0, t)), (2, (0, e)), (3, (0, q))]) rfl ?_
                      refine r_callV gd hX hP rfl cv_12_327 hS (d' := 0) (mc' := 0) (ms' := 0) (as' := [(0, 8)]) (st := []) (by first | decide | omega) (by first | decide | omega) (by first | decide | omega) rfl rfl (Nat.le_of_ble_eq_true rfl) (c_X12_refuse E S (hv [120] [19, 72, 73, 74, 75, 76, 77, 78, 79, 80, 81, 82, 83, 84, 85, 86, 87, 88, 90, 91, 92] (up (up G 1 (Ad E 1) 1 0) 1 (Ad E 1) 0 0) G37) 8 hS (by first | decide | omega) (by first | decide | omega)) ?_
                      rintro _ _ _ ⟨rfl, ⟨G113, rfl⟩, z114, rfl, rfl⟩
                      refine r_i2l hX hP rfl (by first | decide | omega) (by first | decide | omega) ?_
                      exact r_retL hX hP rfl rfl (by first | decide | omega) (by first | decide | omega) ⟨rfl, ⟨_, (hq_call (hq_call (hq_up (hq_up (hq_refl _ _ _) rfl) rfl) rfl) rfl).symm⟩, (-1), rfl, (by first | decide | omega)⟩
                  · skip
                    refine r_ex hX hP 2 (pc' := 88) (st' := [(0, 7), (2, (Ad E 1))]) (lo' := [(0, (2, (Ad E 1))), (1, (0, t)), (2, (0, e)), (3, (0, q))]) rfl ?_
                    refine r_callV gd hX hP rfl cv_12_327 hS (d' := 0) (mc' := 0) (ms' := 0) (as' := [(0, 7)]) (st := []) (by first | decide | omega) (by first | decide | omega) (by first | decide | omega) rfl rfl (Nat.le_of_ble_eq_true rfl) (c_X12_refuse E S (up (up G 1 (Ad E 1) 1 0) 1 (Ad E 1) 0 0) 7 hS (by first | decide | omega) (by first | decide | omega)) ?_
                    rintro _ _ _ ⟨rfl, ⟨G115, rfl⟩, z116, rfl, rfl⟩
                    refine r_i2l hX hP rfl (by first | decide | omega) (by first | decide | omega) ?_
                    exact r_retL hX hP rfl rfl (by first | decide | omega) (by first | decide | omega) ⟨rfl, ⟨_, (hq_call (hq_up (hq_up (hq_refl _ _ _) rfl) rfl) rfl).symm⟩, (-1), rfl, (by first | decide | omega)⟩
          · skip
            refine r_ex hX hP 1 (pc' := 32) (st' := [(0, q)]) (lo' := [(0, (2, (Ad E 1))), (1, (0, t)), (2, (0, e)), (3, (0, q))]) rfl ?_
            refine r_callS gd hX hP rfl cs_12_331 (d' := 1) (mc' := 0) (ms' := 0) (as' := [(0, q)]) (st := []) (by first | decide | omega) (by first | decide | omega) (by first | decide | omega) rfl rfl (Nat.le_of_ble_eq_true rfl) (c_X12_isPaper E S (up (up G 1 (Ad E 1) 1 0) 1 (Ad E 1) 0 0) q (by first | decide | omega) (by first | decide | omega)) ?_
            rintro _ _ _ ⟨rfl, rfl, z117, rfl, (⟨rfl, f118, f119⟩ | ⟨rfl, f120⟩)⟩
            · skip
              refine r_if_ne hX hP rfl (tgt := 45) rfl (by first | decide | omega) (by first | decide | omega) (fun c121 => ?_) (fun c121 => ?_)
              · skip
                refine r_ex hX hP 2 (pc' := 47) (st' := [(0, t), (2, (Ad E 1))]) (lo' := [(0, (2, (Ad E 1))), (1, (0, t)), (2, (0, e)), (3, (0, q))]) rfl ?_
                refine r_callV gd hX hP rfl cv_12_530 hS (d' := 1) (mc' := 0) (ms' := 0) (as' := [(0, t)]) (st := []) (by first | decide | omega) (by first | decide | omega) (by first | decide | omega) rfl rfl (Nat.le_of_ble_eq_true rfl) (c_X12_tradeCounts E S (up (up G 1 (Ad E 1) 1 0) 1 (Ad E 1) 0 0) t hS (by first | decide | omega) (by first | decide | omega)) ?_
                rintro _ _ _ ⟨rfl, rfl, z122, rfl, z122a, z122b⟩
                refine r_if_eq hX hP rfl (tgt := 85) rfl (by first | decide | omega) (by first | decide | omega) (fun c123 => ?_) (fun c123 => ?_)
                · skip
                  refine r_ex hX hP 2 (pc' := 88) (st' := [(0, 7), (2, (Ad E 1))]) (lo' := [(0, (2, (Ad E 1))), (1, (0, t)), (2, (0, e)), (3, (0, q))]) rfl ?_
                  refine r_callV gd hX hP rfl cv_12_327 hS (d' := 0) (mc' := 0) (ms' := 0) (as' := [(0, 7)]) (st := []) (by first | decide | omega) (by first | decide | omega) (by first | decide | omega) rfl rfl (Nat.le_of_ble_eq_true rfl) (c_X12_refuse E S (up (up G 1 (Ad E 1) 1 0) 1 (Ad E 1) 0 0) 7 hS (by first | decide | omega) (by first | decide | omega)) ?_
                  rintro _ _ _ ⟨rfl, ⟨G124, rfl⟩, z125, rfl, rfl⟩
                  refine r_i2l hX hP rfl (by first | decide | omega) (by first | decide | omega) ?_
                  exact r_retL hX hP rfl rfl (by first | decide | omega) (by first | decide | omega) ⟨rfl, ⟨_, (hq_call (hq_up (hq_up (hq_refl _ _ _) rfl) rfl) rfl).symm⟩, (-1), rfl, (by first | decide | omega)⟩
                · skip
                  refine r_ex hX hP 2 (pc' := 55) (st' := [(0, e), (2, (Ad E 1))]) (lo' := [(0, (2, (Ad E 1))), (1, (0, t)), (2, (0, e)), (3, (0, q))]) rfl ?_
                  refine r_callV gd hX hP rfl cv_12_512 hS (d' := 1) (mc' := 0) (ms' := 0) (as' := [(0, e)]) (st := []) (by first | decide | omega) (by first | decide | omega) (by first | decide | omega) rfl rfl (Nat.le_of_ble_eq_true rfl) (c_X12_eventCounts E S (up (up G 1 (Ad E 1) 1 0) 1 (Ad E 1) 0 0) e hS (by first | decide | omega) (by first | decide | omega)) ?_
                  rintro _ _ _ ⟨rfl, rfl, z126, rfl, z126a, z126b⟩
                  refine r_if_eq hX hP rfl (tgt := 85) rfl (by first | decide | omega) (by first | decide | omega) (fun c127 => ?_) (fun c127 => ?_)
                  · skip
                    refine r_ex hX hP 2 (pc' := 88) (st' := [(0, 7), (2, (Ad E 1))]) (lo' := [(0, (2, (Ad E 1))), (1, (0, t)), (2, (0, e)), (3, (0, q))]) rfl ?_
                    refine r_callV gd hX hP rfl cv_12_327 hS (d' := 0) (mc' := 0) (ms' := 0) (as' := [(0, 7)]) (st := []) (by first | decide | omega) (by first | decide | omega) (by first | decide | omega) rfl rfl (Nat.le_of_ble_eq_true rfl) (c_X12_refuse E S (up (up G 1 (Ad E 1) 1 0) 1 (Ad E 1) 0 0) 7 hS (by first | decide | omega) (by first | decide | omega)) ?_
                    rintro _ _ _ ⟨rfl, ⟨G128, rfl⟩, z129, rfl, rfl⟩
                    refine r_i2l hX hP rfl (by first | decide | omega) (by first | decide | omega) ?_
                    exact r_retL hX hP rfl rfl (by first | decide | omega) (by first | decide | omega) ⟨rfl, ⟨_, (hq_call (hq_up (hq_up (hq_refl _ _ _) rfl) rfl) rfl).symm⟩, (-1), rfl, (by first | decide | omega)⟩
                  · skip
                    refine r_ex hX hP 1 (pc' := 62) (st' := [(2, (Ad E 1))]) (lo' := [(0, (2, (Ad E 1))), (1, (0, t)), (2, (0, e)), (3, (0, q))]) rfl ?_
                    refine r_getC hX hP rfl fl_12_74 hS (fun s130 => ?_)
                    refine r_ex hX hP 1 (pc' := 66) (st' := [(0, e), (2, (Ad E 20))]) (lo' := [(0, (2, (Ad E 1))), (1, (0, t)), (2, (0, e)), (3, (0, q))]) rfl ?_
                    refine r_iald hX hP rfl al_20 s130 (by first | decide | omega) (by first | decide | omega) (fun x131 x131e x131a x131b => ?_)
                    refine r_ex hX hP 1 (pc' := 68) (st' := [(2, (Ad E 1)), (0, x131)]) (lo' := [(0, (2, (Ad E 1))), (1, (0, t)), (2, (0, e)), (3, (0, q))]) rfl ?_
                    refine r_getC hX hP rfl fl_12_52 hS (fun s132 => ?_)
                    refine r_ex hX hP 1 (pc' := 72) (st' := [(0, t), (2, (Ad E 13)), (0, x131)]) (lo' := [(0, (2, (Ad E 1))), (1, (0, t)), (2, (0, e)), (3, (0, q))]) rfl ?_
                    refine r_iald hX hP rfl al_13 s132 (by first | decide | omega) (by first | decide | omega) (fun x133 x133e x133a x133b => ?_)
                    refine r_ic_ne hX hP rfl (tgt := 85) rfl (by first | decide | omega) (by first | decide | omega) (by first | decide | omega) (by first | decide | omega) (fun c134 => ?_) (fun c134 => ?_)
                    · skip
                      refine r_ex hX hP 2 (pc' := 88) (st' := [(0, 7), (2, (Ad E 1))]) (lo' := [(0, (2, (Ad E 1))), (1, (0, t)), (2, (0, e)), (3, (0, q))]) rfl ?_
                      refine r_callV gd hX hP rfl cv_12_327 hS (d' := 0) (mc' := 0) (ms' := 0) (as' := [(0, 7)]) (st := []) (by first | decide | omega) (by first | decide | omega) (by first | decide | omega) rfl rfl (Nat.le_of_ble_eq_true rfl) (c_X12_refuse E S (up (up G 1 (Ad E 1) 1 0) 1 (Ad E 1) 0 0) 7 hS (by first | decide | omega) (by first | decide | omega)) ?_
                      rintro _ _ _ ⟨rfl, ⟨G135, rfl⟩, z136, rfl, rfl⟩
                      refine r_i2l hX hP rfl (by first | decide | omega) (by first | decide | omega) ?_
                      exact r_retL hX hP rfl rfl (by first | decide | omega) (by first | decide | omega) ⟨rfl, ⟨_, (hq_call (hq_up (hq_up (hq_refl _ _ _) rfl) rfl) rfl).symm⟩, (-1), rfl, (by first | decide | omega)⟩
                    · skip
                      refine r_ex hX hP 1 (pc' := 77) (st' := [(2, (Ad E 1))]) (lo' := [(0, (2, (Ad E 1))), (1, (0, t)), (2, (0, e)), (3, (0, q))]) rfl ?_
                      refine r_getC hX hP rfl fl_12_95 hS (fun s137 => ?_)
                      refine r_ex hX hP 1 (pc' := 81) (st' := [(0, e), (2, (Ad E 27))]) (lo' := [(0, (2, (Ad E 1))), (1, (0, t)), (2, (0, e)), (3, (0, q))]) rfl ?_
                      refine r_iald hX hP rfl al_27 s137 (by first | decide | omega) (by first | decide | omega) (fun x138 x138e x138a x138b => ?_)
                      refine r_if_le hX hP rfl (tgt := 93) rfl (by first | decide | omega) (by first | decide | omega) (fun c139 => ?_) (fun c139 => ?_)
                      · skip
                        refine r_ex hX hP 2 (pc' := 95) (st' := [(2, (Ad E 1)), (2, (Ad E 1))]) (lo' := [(0, (2, (Ad E 1))), (1, (0, t)), (2, (0, e)), (3, (0, q))]) rfl ?_
                        refine r_getC hX hP rfl fl_12_61 hS (fun s140 => ?_)
                        refine r_ex hX hP 1 (pc' := 99) (st' := [(0, t), (2, (Ad E 16)), (2, (Ad E 1))]) (lo' := [(0, (2, (Ad E 1))), (1, (0, t)), (2, (0, e)), (3, (0, q))]) rfl ?_
                        refine r_iald hX hP rfl al_16 s140 (by first | decide | omega) (by first | decide | omega) (fun x141 x141e x141a x141b => ?_)
                        refine r_ex hX hP 1 (pc' := 101) (st' := [(0, (-1)), (0, x141), (2, (Ad E 1))]) (lo' := [(0, (2, (Ad E 1))), (1, (0, t)), (2, (0, e)), (3, (0, q))]) rfl ?_
                        have mi142 : MI E (up (up G 1 (Ad E 1) 1 0) 1 (Ad E 1) 0 0) := mi_keep mi rfl rfl rfl rfl rfl rfl (fun _ => rfl) (fun _ => rfl) (fun _ => rfl) (fun _ => rfl) (fun _ => rfl) (fun _ => rfl) (fun _ => rfl) (fun _ => rfl) (fun _ => rfl) (fun _ => rfl) (fun _ => rfl) (fun _ => rfl) (fun _ => rfl)
                        refine r_callV gd hX hP rfl cv_12_597 hS (d' := 39) (mc' := 0) (ms' := 0) (as' := [(0, x141), (0, (-1))]) (st := []) (by first | decide | omega) (by first | decide | omega) (by first | decide | omega) rfl rfl (Nat.le_of_ble_eq_true rfl) (c_X12_runs E S (up (up G 1 (Ad E 1) 1 0) 1 (Ad E 1) 0 0) x141 (-1) hS (by first | decide | omega) (by first | decide | omega) (by first | decide | omega) (by first | decide | omega) mi142) ?_
                        rintro _ _ _ ⟨rfl, ⟨G143, rfl⟩, z144, rfl, z144a, z144b⟩
                        refine r_if_ne hX hP rfl (tgt := 115) rfl (by first | decide | omega) (by first | decide | omega) (fun c145 => ?_) (fun c145 => ?_)
                        · skip
                          refine r_ex hX hP 1 (pc' := 116) (st' := [(2, (Ad E 1))]) (lo' := [(0, (2, (Ad E 1))), (1, (0, t)), (2, (0, e)), (3, (0, q))]) rfl ?_
                          refine r_getC hX hP rfl fl_12_70 hS (fun s146 => ?_)
                          refine r_ex hX hP 1 (pc' := 120) (st' := [(0, t), (2, (Ad E 19))]) (lo' := [(0, (2, (Ad E 1))), (1, (0, t)), (2, (0, e)), (3, (0, q))]) rfl ?_
                          refine r_zald hX hP rfl al_19 s146 (by first | decide | omega) (by first | decide | omega) (fun x147 x147e x147a x147b => ?_)
                          refine r_if_ne hX hP rfl (tgt := 132) rfl (by first | decide | omega) (by first | decide | omega) (fun c148 => ?_) (fun c148 => ?_)
                          · skip
                            refine r_ex hX hP 1 (pc' := 133) (st' := [(2, (Ad E 1))]) (lo' := [(0, (2, (Ad E 1))), (1, (0, t)), (2, (0, e)), (3, (0, q))]) rfl ?_
                            refine r_getC hX hP rfl fl_12_58 hS (fun s149 => ?_)
                            refine r_ex hX hP 1 (pc' := 137) (st' := [(0, t), (2, (Ad E 15))]) (lo' := [(0, (2, (Ad E 1))), (1, (0, t)), (2, (0, e)), (3, (0, q))]) rfl ?_
                            refine r_iald hX hP rfl al_15 s149 (by first | decide | omega) (by first | decide | omega) (fun x150 x150e x150a x150b => ?_)
                            refine r_ex hX hP 1 (pc' := 139) (st' := [(2, (Ad E 1)), (0, x150)]) (lo' := [(0, (2, (Ad E 1))), (1, (0, t)), (2, (0, e)), (3, (0, q))]) rfl ?_
                            refine r_getC hX hP rfl fl_12_77 hS (fun s151 => ?_)
                            refine r_ex hX hP 1 (pc' := 143) (st' := [(0, e), (2, (Ad E 21)), (0, x150)]) (lo' := [(0, (2, (Ad E 1))), (1, (0, t)), (2, (0, e)), (3, (0, q))]) rfl ?_
                            refine r_iald hX hP rfl al_21 s151 (by first | decide | omega) (by first | decide | omega) (fun x152 x152e x152a x152b => ?_)
                            refine r_ic_ge hX hP rfl (tgt := 166) rfl (by first | decide | omega) (by first | decide | omega) (by first | decide | omega) (by first | decide | omega) (fun c153 => ?_) (fun c153 => ?_)
                            · skip
                              refine r_ex hX hP 3 (pc' := 170) (st' := [(2, (Ad E 1))]) (lo' := [(0, (2, (Ad E 1))), (1, (0, t)), (2, (0, e)), (3, (0, q)), (4, (0, 0))]) rfl ?_
                              refine r_getC hX hP rfl fl_12_58 hS (fun _ => ?_)
                              refine r_ex hX hP 1 (pc' := 174) (st' := [(0, t), (2, (Ad E 15))]) (lo' := [(0, (2, (Ad E 1))), (1, (0, t)), (2, (0, e)), (3, (0, q)), (4, (0, 0))]) rfl ?_
                              refine r_ialdK hX hP rfl al_15 s149 (by first | decide | omega) (by first | decide | omega) (x := x150) x150e ?_
                              refine r_ex hX hP 1 (pc' := 176) (st' := [(2, (Ad E 1)), (0, x150)]) (lo' := [(0, (2, (Ad E 1))), (1, (0, t)), (2, (0, e)), (3, (0, q)), (4, (0, 0))]) rfl ?_
                              refine r_getC hX hP rfl fl_12_77 hS (fun _ => ?_)
                              refine r_ex hX hP 1 (pc' := 180) (st' := [(0, e), (2, (Ad E 21)), (0, x150)]) (lo' := [(0, (2, (Ad E 1))), (1, (0, t)), (2, (0, e)), (3, (0, q)), (4, (0, 0))]) rfl ?_
                              refine r_ialdK hX hP rfl al_21 s151 (by first | decide | omega) (by first | decide | omega) (x := x152) x152e ?_
                              refine r_ic_lt hX hP rfl (tgt := 203) rfl (by first | decide | omega) (by first | decide | omega) (by first | decide | omega) (by first | decide | omega) (fun c154 => ?_) (fun c154 => ?_)
                              · skip
                                refine r_ex hX hP 3 (pc' := 208) (st' := [(0, 0)]) (lo' := [(0, (2, (Ad E 1))), (1, (0, t)), (2, (0, e)), (3, (0, q)), (4, (0, 0)), (5, (0, 0))]) rfl ?_
                                refine r_if_ne hX hP rfl (tgt := 218) rfl (by first | decide | omega) (by first | decide | omega) (fun c155 => ?_) (fun c155 => ?_)
                                · skip
                                  exfalso; omega
                                · skip
                                  refine r_ex hX hP 1 (pc' := 213) (st' := [(0, 0)]) (lo' := [(0, (2, (Ad E 1))), (1, (0, t)), (2, (0, e)), (3, (0, q)), (4, (0, 0)), (5, (0, 0))]) rfl ?_
                                  refine r_if_ne hX hP rfl (tgt := 218) rfl (by first | decide | omega) (by first | decide | omega) (fun c156 => ?_) (fun c156 => ?_)
                                  · skip
                                    exfalso; omega
                                  · skip
                                    refine r_ex hX hP 1 (pc' := 217) (st' := [(1, 0)]) (lo' := [(0, (2, (Ad E 1))), (1, (0, t)), (2, (0, e)), (3, (0, q)), (4, (0, 0)), (5, (0, 0))]) rfl ?_
                                    exact r_retL hX hP rfl rfl (by first | decide | omega) (by first | decide | omega) ⟨rfl, ⟨_, (hq_call (hq_up (hq_up (hq_refl _ _ _) rfl) rfl) rfl).symm⟩, 0, rfl, (by first | decide | omega)⟩
                              · skip
                                refine r_ex hX hP 1 (pc' := 185) (st' := [(2, (Ad E 1))]) (lo' := [(0, (2, (Ad E 1))), (1, (0, t)), (2, (0, e)), (3, (0, q)), (4, (0, 0))]) rfl ?_
                                refine r_getC hX hP rfl fl_12_61 hS (fun _ => ?_)
                                refine r_ex hX hP 1 (pc' := 189) (st' := [(0, t), (2, (Ad E 16))]) (lo' := [(0, (2, (Ad E 1))), (1, (0, t)), (2, (0, e)), (3, (0, q)), (4, (0, 0))]) rfl ?_
                                refine r_ialdK hX hP rfl al_16 s140 (by first | decide | omega) (by first | decide | omega) (x := x141) x141e ?_
                                refine r_ex hX hP 1 (pc' := 191) (st' := [(2, (Ad E 1)), (0, x141)]) (lo' := [(0, (2, (Ad E 1))), (1, (0, t)), (2, (0, e)), (3, (0, q)), (4, (0, 0))]) rfl ?_
                                refine r_getC hX hP rfl fl_12_80 hS (fun s157 => ?_)
                                refine r_ex hX hP 1 (pc' := 195) (st' := [(0, e), (2, (Ad E 22)), (0, x141)]) (lo' := [(0, (2, (Ad E 1))), (1, (0, t)), (2, (0, e)), (3, (0, q)), (4, (0, 0))]) rfl ?_
                                refine r_iald hX hP rfl al_22 s157 (by first | decide | omega) (by first | decide | omega) (fun x158 x158e x158a x158b => ?_)
                                refine r_ic_gt hX hP rfl (tgt := 203) rfl (by first | decide | omega) (by first | decide | omega) (by first | decide | omega) (by first | decide | omega) (fun c159 => ?_) (fun c159 => ?_)
                                · skip
                                  refine r_ex hX hP 3 (pc' := 208) (st' := [(0, 0)]) (lo' := [(0, (2, (Ad E 1))), (1, (0, t)), (2, (0, e)), (3, (0, q)), (4, (0, 0)), (5, (0, 0))]) rfl ?_
                                  refine r_if_ne hX hP rfl (tgt := 218) rfl (by first | decide | omega) (by first | decide | omega) (fun c160 => ?_) (fun c160 => ?_)
                                  · skip
                                    exfalso; omega
                                  · skip
                                    refine r_ex hX hP 1 (pc' := 213) (st' := [(0, 0)]) (lo' := [(0, (2, (Ad E 1))), (1, (0, t)), (2, (0, e)), (3, (0, q)), (4, (0, 0)), (5, (0, 0))]) rfl ?_
                                    refine r_if_ne hX hP rfl (tgt := 218) rfl (by first | decide | omega) (by first | decide | omega) (fun c161 => ?_) (fun c161 => ?_)
                                    · skip
                                      exfalso; omega
                                    · skip
                                      refine r_ex hX hP 1 (pc' := 217) (st' := [(1, 0)]) (lo' := [(0, (2, (Ad E 1))), (1, (0, t)), (2, (0, e)), (3, (0, q)), (4, (0, 0)), (5, (0, 0))]) rfl ?_
                                      exact r_retL hX hP rfl rfl (by first | decide | omega) (by first | decide | omega) ⟨rfl, ⟨_, (hq_call (hq_up (hq_up (hq_refl _ _ _) rfl) rfl) rfl).symm⟩, 0, rfl, (by first | decide | omega)⟩
                                · skip
                                  refine r_ex hX hP 4 (pc' := 208) (st' := [(0, 0)]) (lo' := [(0, (2, (Ad E 1))), (1, (0, t)), (2, (0, e)), (3, (0, q)), (4, (0, 0)), (5, (0, 1))]) rfl ?_
                                  refine r_if_ne hX hP rfl (tgt := 218) rfl (by first | decide | omega) (by first | decide | omega) (fun c162 => ?_) (fun c162 => ?_)
                                  · skip
                                    exfalso; omega
                                  · skip
                                    refine r_ex hX hP 1 (pc' := 213) (st' := [(0, 1)]) (lo' := [(0, (2, (Ad E 1))), (1, (0, t)), (2, (0, e)), (3, (0, q)), (4, (0, 0)), (5, (0, 1))]) rfl ?_
                                    refine r_if_ne hX hP rfl (tgt := 218) rfl (by first | decide | omega) (by first | decide | omega) (fun c163 => ?_) (fun c163 => ?_)
                                    · skip
                                      refine r_ex hX hP 4 (pc' := 222) (st' := [(2, (Ad E 1)), (0, (-1)), (0, e), (2, (Ad E 1))]) (lo' := [(0, (2, (Ad E 1))), (1, (0, t)), (2, (0, e)), (3, (0, q)), (4, (0, 0)), (5, (0, 1))]) rfl ?_
                                      refine r_getC hX hP rfl fl_12_55 hS (fun s164 => ?_)
                                      refine r_ex hX hP 1 (pc' := 226) (st' := [(0, t), (2, (Ad E 14)), (0, (-1)), (0, e), (2, (Ad E 1))]) (lo' := [(0, (2, (Ad E 1))), (1, (0, t)), (2, (0, e)), (3, (0, q)), (4, (0, 0)), (5, (0, 1))]) rfl ?_
                                      refine r_iald hX hP rfl al_14 s164 (by first | decide | omega) (by first | decide | omega) (fun x165 x165e x165a x165b => ?_)
                                      have mi166 : MI E (hv [120] [19, 72, 73, 74, 75, 76, 77, 78, 79, 80, 81, 82, 83, 84, 85, 86, 87, 88, 90, 91, 92] (up (up G 1 (Ad E 1) 1 0) 1 (Ad E 1) 0 0) G143) := mi_keep mi142 rfl rfl rfl rfl rfl rfl (fun _ => rfl) (fun _ => rfl) (fun _ => rfl) (fun _ => rfl) (fun _ => rfl) (fun _ => rfl) (fun _ => rfl) (fun _ => rfl) (fun _ => rfl) (fun _ => rfl) (fun _ => rfl) (fun _ => rfl) (fun _ => rfl)
                                      have x165m := mi_shares mi166 trp3e x165e (by first | decide | omega) (by first | decide | omega)
                                      refine r_i2l hX hP rfl (by first | decide | omega) (by first | decide | omega) ?_
                                      refine r_callV gd hX hP rfl cv_12_624 hS (d' := 34) (mc' := 0) (ms' := 0) (as' := [(0, e), (0, (-1)), (1, x165)]) (st := []) (by first | decide | omega) (by first | decide | omega) (by first | decide | omega) rfl rfl (Nat.le_of_ble_eq_true rfl) (c_X12_getsOf E S (hv [120] [19, 72, 73, 74, 75, 76, 77, 78, 79, 80, 81, 82, 83, 84, 85, 86, 87, 88, 90, 91, 92] (up (up G 1 (Ad E 1) 1 0) 1 (Ad E 1) 0 0) G143) e (-1) x165 hS evp9 evp9e (by first | decide | omega) (by first | decide | omega) (by first | decide | omega) (by first | decide | omega) (by first | decide | omega) (by first | decide | omega) (by first | decide | omega) mi166) ?_
                                      rintro _ _ _ ⟨rfl, ⟨G167, rfl⟩, rfl, -⟩
                                      refine r_ex hX hP 1 (pc' := 232) (st' := [(0, q)]) (lo' := [(0, (2, (Ad E 1))), (1, (0, t)), (2, (0, e)), (3, (0, q)), (4, (0, 0)), (5, (0, 1))]) rfl ?_
                                      refine r_if_ge hX hP rfl (tgt := 242) rfl (by first | decide | omega) (by first | decide | omega) (fun c168 => ?_) (fun c168 => ?_)
                                      · skip
                                        refine r_ex hX hP 1 (pc' := 243) (st' := [(2, (Ad E 1))]) (lo' := [(0, (2, (Ad E 1))), (1, (0, t)), (2, (0, e)), (3, (0, q)), (4, (0, 0)), (5, (0, 1))]) rfl ?_
                                        refine r_getC hX hP rfl fl_12_292 hS (fun s169 => ?_)
                                        refine r_ex hX hP 1 (pc' := 247) (st' := [(0, q), (2, (Ad E 89))]) (lo' := [(0, (2, (Ad E 1))), (1, (0, t)), (2, (0, e)), (3, (0, q)), (4, (0, 0)), (5, (0, 1))]) rfl ?_
                                        refine r_lald hX hP rfl al_89 s169 (by first | decide | omega) (by first | decide | omega) (fun x170 x170e x170a x170b => ?_)
                                        refine r_ex hX hP 2 (pc' := 252) (st' := [(0, 0)]) (lo' := [(0, (2, (Ad E 1))), (1, (0, t)), (2, (0, e)), (3, (0, q)), (4, (0, 0)), (5, (0, 1)), (6, (1, x170))]) rfl ?_
                                        refine r_if_eq hX hP rfl (tgt := 260) rfl (by first | decide | omega) (by first | decide | omega) (fun c171 => ?_) (fun c171 => ?_)
                                        · skip
                                          refine r_ex hX hP 2 (pc' := 263) (st' := [(1, (-x170))]) (lo' := [(0, (2, (Ad E 1))), (1, (0, t)), (2, (0, e)), (3, (0, q)), (4, (0, 0)), (5, (0, 1)), (6, (1, x170))]) rfl ?_
                                          refine r_hvL hX (fun w172 w172a w172b w172e => ?_)
                                          exact r_retL hX hP rfl rfl (by first | decide | omega) (by first | decide | omega) ⟨rfl, ⟨_, (hq_call (hq_call (hq_up (hq_up (hq_refl _ _ _) rfl) rfl) rfl) rfl).symm⟩, w172, rfl, (by first | decide | omega)⟩
                                        · skip
                                          exfalso; omega
                                      · skip
                                        exfalso; omega
                                    · skip
                                      exfalso; omega
                            · skip
                              refine r_ex hX hP 1 (pc' := 148) (st' := [(2, (Ad E 1))]) (lo' := [(0, (2, (Ad E 1))), (1, (0, t)), (2, (0, e)), (3, (0, q))]) rfl ?_
                              refine r_getC hX hP rfl fl_12_61 hS (fun _ => ?_)
                              refine r_ex hX hP 1 (pc' := 152) (st' := [(0, t), (2, (Ad E 16))]) (lo' := [(0, (2, (Ad E 1))), (1, (0, t)), (2, (0, e)), (3, (0, q))]) rfl ?_
                              refine r_ialdK hX hP rfl al_16 s140 (by first | decide | omega) (by first | decide | omega) (x := x141) x141e ?_
                              refine r_ex hX hP 1 (pc' := 154) (st' := [(2, (Ad E 1)), (0, x141)]) (lo' := [(0, (2, (Ad E 1))), (1, (0, t)), (2, (0, e)), (3, (0, q))]) rfl ?_
                              refine r_getC hX hP rfl fl_12_80 hS (fun s173 => ?_)
                              refine r_ex hX hP 1 (pc' := 158) (st' := [(0, e), (2, (Ad E 22)), (0, x141)]) (lo' := [(0, (2, (Ad E 1))), (1, (0, t)), (2, (0, e)), (3, (0, q))]) rfl ?_
                              refine r_iald hX hP rfl al_22 s173 (by first | decide | omega) (by first | decide | omega) (fun x174 x174e x174a x174b => ?_)
                              refine r_ic_le hX hP rfl (tgt := 166) rfl (by first | decide | omega) (by first | decide | omega) (by first | decide | omega) (by first | decide | omega) (fun c175 => ?_) (fun c175 => ?_)
                              · skip
                                refine r_ex hX hP 3 (pc' := 170) (st' := [(2, (Ad E 1))]) (lo' := [(0, (2, (Ad E 1))), (1, (0, t)), (2, (0, e)), (3, (0, q)), (4, (0, 0))]) rfl ?_
                                refine r_getC hX hP rfl fl_12_58 hS (fun _ => ?_)
                                refine r_ex hX hP 1 (pc' := 174) (st' := [(0, t), (2, (Ad E 15))]) (lo' := [(0, (2, (Ad E 1))), (1, (0, t)), (2, (0, e)), (3, (0, q)), (4, (0, 0))]) rfl ?_
                                refine r_ialdK hX hP rfl al_15 s149 (by first | decide | omega) (by first | decide | omega) (x := x150) x150e ?_
                                refine r_ex hX hP 1 (pc' := 176) (st' := [(2, (Ad E 1)), (0, x150)]) (lo' := [(0, (2, (Ad E 1))), (1, (0, t)), (2, (0, e)), (3, (0, q)), (4, (0, 0))]) rfl ?_
                                refine r_getC hX hP rfl fl_12_77 hS (fun _ => ?_)
                                refine r_ex hX hP 1 (pc' := 180) (st' := [(0, e), (2, (Ad E 21)), (0, x150)]) (lo' := [(0, (2, (Ad E 1))), (1, (0, t)), (2, (0, e)), (3, (0, q)), (4, (0, 0))]) rfl ?_
                                refine r_ialdK hX hP rfl al_21 s151 (by first | decide | omega) (by first | decide | omega) (x := x152) x152e ?_
                                refine r_ic_lt hX hP rfl (tgt := 203) rfl (by first | decide | omega) (by first | decide | omega) (by first | decide | omega) (by first | decide | omega) (fun c176 => ?_) (fun c176 => ?_)
                                · skip
                                  refine r_ex hX hP 3 (pc' := 208) (st' := [(0, 0)]) (lo' := [(0, (2, (Ad E 1))), (1, (0, t)), (2, (0, e)), (3, (0, q)), (4, (0, 0)), (5, (0, 0))]) rfl ?_
                                  refine r_if_ne hX hP rfl (tgt := 218) rfl (by first | decide | omega) (by first | decide | omega) (fun c177 => ?_) (fun c177 => ?_)
                                  · skip
                                    exfalso; omega
                                  · skip
                                    refine r_ex hX hP 1 (pc' := 213) (st' := [(0, 0)]) (lo' := [(0, (2, (Ad E 1))), (1, (0, t)), (2, (0, e)), (3, (0, q)), (4, (0, 0)), (5, (0, 0))]) rfl ?_
                                    refine r_if_ne hX hP rfl (tgt := 218) rfl (by first | decide | omega) (by first | decide | omega) (fun c178 => ?_) (fun c178 => ?_)
                                    · skip
                                      exfalso; omega
                                    · skip
                                      refine r_ex hX hP 1 (pc' := 217) (st' := [(1, 0)]) (lo' := [(0, (2, (Ad E 1))), (1, (0, t)), (2, (0, e)), (3, (0, q)), (4, (0, 0)), (5, (0, 0))]) rfl ?_
                                      exact r_retL hX hP rfl rfl (by first | decide | omega) (by first | decide | omega) ⟨rfl, ⟨_, (hq_call (hq_up (hq_up (hq_refl _ _ _) rfl) rfl) rfl).symm⟩, 0, rfl, (by first | decide | omega)⟩
                                · skip
                                  refine r_ex hX hP 1 (pc' := 185) (st' := [(2, (Ad E 1))]) (lo' := [(0, (2, (Ad E 1))), (1, (0, t)), (2, (0, e)), (3, (0, q)), (4, (0, 0))]) rfl ?_
                                  refine r_getC hX hP rfl fl_12_61 hS (fun _ => ?_)
                                  refine r_ex hX hP 1 (pc' := 189) (st' := [(0, t), (2, (Ad E 16))]) (lo' := [(0, (2, (Ad E 1))), (1, (0, t)), (2, (0, e)), (3, (0, q)), (4, (0, 0))]) rfl ?_
                                  refine r_ialdK hX hP rfl al_16 s140 (by first | decide | omega) (by first | decide | omega) (x := x141) x141e ?_
                                  refine r_ex hX hP 1 (pc' := 191) (st' := [(2, (Ad E 1)), (0, x141)]) (lo' := [(0, (2, (Ad E 1))), (1, (0, t)), (2, (0, e)), (3, (0, q)), (4, (0, 0))]) rfl ?_
                                  refine r_getC hX hP rfl fl_12_80 hS (fun _ => ?_)
                                  refine r_ex hX hP 1 (pc' := 195) (st' := [(0, e), (2, (Ad E 22)), (0, x141)]) (lo' := [(0, (2, (Ad E 1))), (1, (0, t)), (2, (0, e)), (3, (0, q)), (4, (0, 0))]) rfl ?_
                                  refine r_ialdK hX hP rfl al_22 s173 (by first | decide | omega) (by first | decide | omega) (x := x174) x174e ?_
                                  refine r_ic_gt hX hP rfl (tgt := 203) rfl (by first | decide | omega) (by first | decide | omega) (by first | decide | omega) (by first | decide | omega) (fun c179 => ?_) (fun c179 => ?_)
                                  · skip
                                    refine r_ex hX hP 3 (pc' := 208) (st' := [(0, 0)]) (lo' := [(0, (2, (Ad E 1))), (1, (0, t)), (2, (0, e)), (3, (0, q)), (4, (0, 0)), (5, (0, 0))]) rfl ?_
                                    refine r_if_ne hX hP rfl (tgt := 218) rfl (by first | decide | omega) (by first | decide | omega) (fun c180 => ?_) (fun c180 => ?_)
                                    · skip
                                      exfalso; omega
                                    · skip
                                      refine r_ex hX hP 1 (pc' := 213) (st' := [(0, 0)]) (lo' := [(0, (2, (Ad E 1))), (1, (0, t)), (2, (0, e)), (3, (0, q)), (4, (0, 0)), (5, (0, 0))]) rfl ?_
                                      refine r_if_ne hX hP rfl (tgt := 218) rfl (by first | decide | omega) (by first | decide | omega) (fun c181 => ?_) (fun c181 => ?_)
                                      · skip
                                        exfalso; omega
                                      · skip
                                        refine r_ex hX hP 1 (pc' := 217) (st' := [(1, 0)]) (lo' := [(0, (2, (Ad E 1))), (1, (0, t)), (2, (0, e)), (3, (0, q)), (4, (0, 0)), (5, (0, 0))]) rfl ?_
                                        exact r_retL hX hP rfl rfl (by first | decide | omega) (by first | decide | omega) ⟨rfl, ⟨_, (hq_call (hq_up (hq_up (hq_refl _ _ _) rfl) rfl) rfl).symm⟩, 0, rfl, (by first | decide | omega)⟩
                                  · skip
                                    refine r_ex hX hP 4 (pc' := 208) (st' := [(0, 0)]) (lo' := [(0, (2, (Ad E 1))), (1, (0, t)), (2, (0, e)), (3, (0, q)), (4, (0, 0)), (5, (0, 1))]) rfl ?_
                                    refine r_if_ne hX hP rfl (tgt := 218) rfl (by first | decide | omega) (by first | decide | omega) (fun c182 => ?_) (fun c182 => ?_)
                                    · skip
                                      exfalso; omega
                                    · skip
                                      refine r_ex hX hP 1 (pc' := 213) (st' := [(0, 1)]) (lo' := [(0, (2, (Ad E 1))), (1, (0, t)), (2, (0, e)), (3, (0, q)), (4, (0, 0)), (5, (0, 1))]) rfl ?_
                                      refine r_if_ne hX hP rfl (tgt := 218) rfl (by first | decide | omega) (by first | decide | omega) (fun c183 => ?_) (fun c183 => ?_)
                                      · skip
                                        refine r_ex hX hP 4 (pc' := 222) (st' := [(2, (Ad E 1)), (0, (-1)), (0, e), (2, (Ad E 1))]) (lo' := [(0, (2, (Ad E 1))), (1, (0, t)), (2, (0, e)), (3, (0, q)), (4, (0, 0)), (5, (0, 1))]) rfl ?_
                                        refine r_getC hX hP rfl fl_12_55 hS (fun s184 => ?_)
                                        refine r_ex hX hP 1 (pc' := 226) (st' := [(0, t), (2, (Ad E 14)), (0, (-1)), (0, e), (2, (Ad E 1))]) (lo' := [(0, (2, (Ad E 1))), (1, (0, t)), (2, (0, e)), (3, (0, q)), (4, (0, 0)), (5, (0, 1))]) rfl ?_
                                        refine r_iald hX hP rfl al_14 s184 (by first | decide | omega) (by first | decide | omega) (fun x185 x185e x185a x185b => ?_)
                                        have mi186 : MI E (hv [120] [19, 72, 73, 74, 75, 76, 77, 78, 79, 80, 81, 82, 83, 84, 85, 86, 87, 88, 90, 91, 92] (up (up G 1 (Ad E 1) 1 0) 1 (Ad E 1) 0 0) G143) := mi_keep mi142 rfl rfl rfl rfl rfl rfl (fun _ => rfl) (fun _ => rfl) (fun _ => rfl) (fun _ => rfl) (fun _ => rfl) (fun _ => rfl) (fun _ => rfl) (fun _ => rfl) (fun _ => rfl) (fun _ => rfl) (fun _ => rfl) (fun _ => rfl) (fun _ => rfl)
                                        have x185m := mi_shares mi186 trp3e x185e (by first | decide | omega) (by first | decide | omega)
                                        refine r_i2l hX hP rfl (by first | decide | omega) (by first | decide | omega) ?_
                                        refine r_callV gd hX hP rfl cv_12_624 hS (d' := 34) (mc' := 0) (ms' := 0) (as' := [(0, e), (0, (-1)), (1, x185)]) (st := []) (by first | decide | omega) (by first | decide | omega) (by first | decide | omega) rfl rfl (Nat.le_of_ble_eq_true rfl) (c_X12_getsOf E S (hv [120] [19, 72, 73, 74, 75, 76, 77, 78, 79, 80, 81, 82, 83, 84, 85, 86, 87, 88, 90, 91, 92] (up (up G 1 (Ad E 1) 1 0) 1 (Ad E 1) 0 0) G143) e (-1) x185 hS evp9 evp9e (by first | decide | omega) (by first | decide | omega) (by first | decide | omega) (by first | decide | omega) (by first | decide | omega) (by first | decide | omega) (by first | decide | omega) mi186) ?_
                                        rintro _ _ _ ⟨rfl, ⟨G187, rfl⟩, rfl, -⟩
                                        refine r_ex hX hP 1 (pc' := 232) (st' := [(0, q)]) (lo' := [(0, (2, (Ad E 1))), (1, (0, t)), (2, (0, e)), (3, (0, q)), (4, (0, 0)), (5, (0, 1))]) rfl ?_
                                        refine r_if_ge hX hP rfl (tgt := 242) rfl (by first | decide | omega) (by first | decide | omega) (fun c188 => ?_) (fun c188 => ?_)
                                        · skip
                                          refine r_ex hX hP 1 (pc' := 243) (st' := [(2, (Ad E 1))]) (lo' := [(0, (2, (Ad E 1))), (1, (0, t)), (2, (0, e)), (3, (0, q)), (4, (0, 0)), (5, (0, 1))]) rfl ?_
                                          refine r_getC hX hP rfl fl_12_292 hS (fun s189 => ?_)
                                          refine r_ex hX hP 1 (pc' := 247) (st' := [(0, q), (2, (Ad E 89))]) (lo' := [(0, (2, (Ad E 1))), (1, (0, t)), (2, (0, e)), (3, (0, q)), (4, (0, 0)), (5, (0, 1))]) rfl ?_
                                          refine r_lald hX hP rfl al_89 s189 (by first | decide | omega) (by first | decide | omega) (fun x190 x190e x190a x190b => ?_)
                                          refine r_ex hX hP 2 (pc' := 252) (st' := [(0, 0)]) (lo' := [(0, (2, (Ad E 1))), (1, (0, t)), (2, (0, e)), (3, (0, q)), (4, (0, 0)), (5, (0, 1)), (6, (1, x190))]) rfl ?_
                                          refine r_if_eq hX hP rfl (tgt := 260) rfl (by first | decide | omega) (by first | decide | omega) (fun c191 => ?_) (fun c191 => ?_)
                                          · skip
                                            refine r_ex hX hP 2 (pc' := 263) (st' := [(1, (-x190))]) (lo' := [(0, (2, (Ad E 1))), (1, (0, t)), (2, (0, e)), (3, (0, q)), (4, (0, 0)), (5, (0, 1)), (6, (1, x190))]) rfl ?_
                                            refine r_hvL hX (fun w192 w192a w192b w192e => ?_)
                                            exact r_retL hX hP rfl rfl (by first | decide | omega) (by first | decide | omega) ⟨rfl, ⟨_, (hq_call (hq_call (hq_up (hq_up (hq_refl _ _ _) rfl) rfl) rfl) rfl).symm⟩, w192, rfl, (by first | decide | omega)⟩
                                          · skip
                                            exfalso; omega
                                        · skip
                                          exfalso; omega
                                      · skip
                                        exfalso; omega
                              · skip
                                refine r_ex hX hP 4 (pc' := 170) (st' := [(2, (Ad E 1))]) (lo' := [(0, (2, (Ad E 1))), (1, (0, t)), (2, (0, e)), (3, (0, q)), (4, (0, 1))]) rfl ?_
                                refine r_getC hX hP rfl fl_12_58 hS (fun _ => ?_)
                                refine r_ex hX hP 1 (pc' := 174) (st' := [(0, t), (2, (Ad E 15))]) (lo' := [(0, (2, (Ad E 1))), (1, (0, t)), (2, (0, e)), (3, (0, q)), (4, (0, 1))]) rfl ?_
                                refine r_ialdK hX hP rfl al_15 s149 (by first | decide | omega) (by first | decide | omega) (x := x150) x150e ?_
                                refine r_ex hX hP 1 (pc' := 176) (st' := [(2, (Ad E 1)), (0, x150)]) (lo' := [(0, (2, (Ad E 1))), (1, (0, t)), (2, (0, e)), (3, (0, q)), (4, (0, 1))]) rfl ?_
                                refine r_getC hX hP rfl fl_12_77 hS (fun _ => ?_)
                                refine r_ex hX hP 1 (pc' := 180) (st' := [(0, e), (2, (Ad E 21)), (0, x150)]) (lo' := [(0, (2, (Ad E 1))), (1, (0, t)), (2, (0, e)), (3, (0, q)), (4, (0, 1))]) rfl ?_
                                refine r_ialdK hX hP rfl al_21 s151 (by first | decide | omega) (by first | decide | omega) (x := x152) x152e ?_
                                refine r_ic_lt hX hP rfl (tgt := 203) rfl (by first | decide | omega) (by first | decide | omega) (by first | decide | omega) (by first | decide | omega) (fun c193 => ?_) (fun c193 => ?_)
                                · skip
                                  refine r_ex hX hP 3 (pc' := 208) (st' := [(0, 1)]) (lo' := [(0, (2, (Ad E 1))), (1, (0, t)), (2, (0, e)), (3, (0, q)), (4, (0, 1)), (5, (0, 0))]) rfl ?_
                                  refine r_if_ne hX hP rfl (tgt := 218) rfl (by first | decide | omega) (by first | decide | omega) (fun c194 => ?_) (fun c194 => ?_)
                                  · skip
                                    refine r_ex hX hP 4 (pc' := 222) (st' := [(2, (Ad E 1)), (0, (-1)), (0, e), (2, (Ad E 1))]) (lo' := [(0, (2, (Ad E 1))), (1, (0, t)), (2, (0, e)), (3, (0, q)), (4, (0, 1)), (5, (0, 0))]) rfl ?_
                                    refine r_getC hX hP rfl fl_12_55 hS (fun s195 => ?_)
                                    refine r_ex hX hP 1 (pc' := 226) (st' := [(0, t), (2, (Ad E 14)), (0, (-1)), (0, e), (2, (Ad E 1))]) (lo' := [(0, (2, (Ad E 1))), (1, (0, t)), (2, (0, e)), (3, (0, q)), (4, (0, 1)), (5, (0, 0))]) rfl ?_
                                    refine r_iald hX hP rfl al_14 s195 (by first | decide | omega) (by first | decide | omega) (fun x196 x196e x196a x196b => ?_)
                                    have mi197 : MI E (hv [120] [19, 72, 73, 74, 75, 76, 77, 78, 79, 80, 81, 82, 83, 84, 85, 86, 87, 88, 90, 91, 92] (up (up G 1 (Ad E 1) 1 0) 1 (Ad E 1) 0 0) G143) := mi_keep mi142 rfl rfl rfl rfl rfl rfl (fun _ => rfl) (fun _ => rfl) (fun _ => rfl) (fun _ => rfl) (fun _ => rfl) (fun _ => rfl) (fun _ => rfl) (fun _ => rfl) (fun _ => rfl) (fun _ => rfl) (fun _ => rfl) (fun _ => rfl) (fun _ => rfl)
                                    have x196m := mi_shares mi197 trp3e x196e (by first | decide | omega) (by first | decide | omega)
                                    refine r_i2l hX hP rfl (by first | decide | omega) (by first | decide | omega) ?_
                                    refine r_callV gd hX hP rfl cv_12_624 hS (d' := 34) (mc' := 0) (ms' := 0) (as' := [(0, e), (0, (-1)), (1, x196)]) (st := []) (by first | decide | omega) (by first | decide | omega) (by first | decide | omega) rfl rfl (Nat.le_of_ble_eq_true rfl) (c_X12_getsOf E S (hv [120] [19, 72, 73, 74, 75, 76, 77, 78, 79, 80, 81, 82, 83, 84, 85, 86, 87, 88, 90, 91, 92] (up (up G 1 (Ad E 1) 1 0) 1 (Ad E 1) 0 0) G143) e (-1) x196 hS evp9 evp9e (by first | decide | omega) (by first | decide | omega) (by first | decide | omega) (by first | decide | omega) (by first | decide | omega) (by first | decide | omega) (by first | decide | omega) mi197) ?_
                                    rintro _ _ _ ⟨rfl, ⟨G198, rfl⟩, rfl, -⟩
                                    refine r_ex hX hP 1 (pc' := 232) (st' := [(0, q)]) (lo' := [(0, (2, (Ad E 1))), (1, (0, t)), (2, (0, e)), (3, (0, q)), (4, (0, 1)), (5, (0, 0))]) rfl ?_
                                    refine r_if_ge hX hP rfl (tgt := 242) rfl (by first | decide | omega) (by first | decide | omega) (fun c199 => ?_) (fun c199 => ?_)
                                    · skip
                                      refine r_ex hX hP 1 (pc' := 243) (st' := [(2, (Ad E 1))]) (lo' := [(0, (2, (Ad E 1))), (1, (0, t)), (2, (0, e)), (3, (0, q)), (4, (0, 1)), (5, (0, 0))]) rfl ?_
                                      refine r_getC hX hP rfl fl_12_292 hS (fun s200 => ?_)
                                      refine r_ex hX hP 1 (pc' := 247) (st' := [(0, q), (2, (Ad E 89))]) (lo' := [(0, (2, (Ad E 1))), (1, (0, t)), (2, (0, e)), (3, (0, q)), (4, (0, 1)), (5, (0, 0))]) rfl ?_
                                      refine r_lald hX hP rfl al_89 s200 (by first | decide | omega) (by first | decide | omega) (fun x201 x201e x201a x201b => ?_)
                                      refine r_ex hX hP 2 (pc' := 252) (st' := [(0, 1)]) (lo' := [(0, (2, (Ad E 1))), (1, (0, t)), (2, (0, e)), (3, (0, q)), (4, (0, 1)), (5, (0, 0)), (6, (1, x201))]) rfl ?_
                                      refine r_if_eq hX hP rfl (tgt := 260) rfl (by first | decide | omega) (by first | decide | omega) (fun c202 => ?_) (fun c202 => ?_)
                                      · skip
                                        exfalso; omega
                                      · skip
                                        refine r_ex hX hP 2 (pc' := 263) (st' := [(1, x201)]) (lo' := [(0, (2, (Ad E 1))), (1, (0, t)), (2, (0, e)), (3, (0, q)), (4, (0, 1)), (5, (0, 0)), (6, (1, x201))]) rfl ?_
                                        exact r_retL hX hP rfl rfl (by first | decide | omega) (by first | decide | omega) ⟨rfl, ⟨_, (hq_call (hq_call (hq_up (hq_up (hq_refl _ _ _) rfl) rfl) rfl) rfl).symm⟩, x201, rfl, (by first | decide | omega)⟩
                                    · skip
                                      exfalso; omega
                                  · skip
                                    exfalso; omega
                                · skip
                                  refine r_ex hX hP 1 (pc' := 185) (st' := [(2, (Ad E 1))]) (lo' := [(0, (2, (Ad E 1))), (1, (0, t)), (2, (0, e)), (3, (0, q)), (4, (0, 1))]) rfl ?_
                                  refine r_getC hX hP rfl fl_12_61 hS (fun _ => ?_)
                                  refine r_ex hX hP 1 (pc' := 189) (st' := [(0, t), (2, (Ad E 16))]) (lo' := [(0, (2, (Ad E 1))), (1, (0, t)), (2, (0, e)), (3, (0, q)), (4, (0, 1))]) rfl ?_
                                  refine r_ialdK hX hP rfl al_16 s140 (by first | decide | omega) (by first | decide | omega) (x := x141) x141e ?_
                                  refine r_ex hX hP 1 (pc' := 191) (st' := [(2, (Ad E 1)), (0, x141)]) (lo' := [(0, (2, (Ad E 1))), (1, (0, t)), (2, (0, e)), (3, (0, q)), (4, (0, 1))]) rfl ?_
                                  refine r_getC hX hP rfl fl_12_80 hS (fun _ => ?_)
                                  refine r_ex hX hP 1 (pc' := 195) (st' := [(0, e), (2, (Ad E 22)), (0, x141)]) (lo' := [(0, (2, (Ad E 1))), (1, (0, t)), (2, (0, e)), (3, (0, q)), (4, (0, 1))]) rfl ?_
                                  refine r_ialdK hX hP rfl al_22 s173 (by first | decide | omega) (by first | decide | omega) (x := x174) x174e ?_
                                  refine r_ic_gt hX hP rfl (tgt := 203) rfl (by first | decide | omega) (by first | decide | omega) (by first | decide | omega) (by first | decide | omega) (fun c203 => ?_) (fun c203 => ?_)
                                  · skip
                                    refine r_ex hX hP 3 (pc' := 208) (st' := [(0, 1)]) (lo' := [(0, (2, (Ad E 1))), (1, (0, t)), (2, (0, e)), (3, (0, q)), (4, (0, 1)), (5, (0, 0))]) rfl ?_
                                    refine r_if_ne hX hP rfl (tgt := 218) rfl (by first | decide | omega) (by first | decide | omega) (fun c204 => ?_) (fun c204 => ?_)
                                    · skip
                                      refine r_ex hX hP 4 (pc' := 222) (st' := [(2, (Ad E 1)), (0, (-1)), (0, e), (2, (Ad E 1))]) (lo' := [(0, (2, (Ad E 1))), (1, (0, t)), (2, (0, e)), (3, (0, q)), (4, (0, 1)), (5, (0, 0))]) rfl ?_
                                      refine r_getC hX hP rfl fl_12_55 hS (fun s205 => ?_)
                                      refine r_ex hX hP 1 (pc' := 226) (st' := [(0, t), (2, (Ad E 14)), (0, (-1)), (0, e), (2, (Ad E 1))]) (lo' := [(0, (2, (Ad E 1))), (1, (0, t)), (2, (0, e)), (3, (0, q)), (4, (0, 1)), (5, (0, 0))]) rfl ?_
                                      refine r_iald hX hP rfl al_14 s205 (by first | decide | omega) (by first | decide | omega) (fun x206 x206e x206a x206b => ?_)
                                      have mi207 : MI E (hv [120] [19, 72, 73, 74, 75, 76, 77, 78, 79, 80, 81, 82, 83, 84, 85, 86, 87, 88, 90, 91, 92] (up (up G 1 (Ad E 1) 1 0) 1 (Ad E 1) 0 0) G143) := mi_keep mi142 rfl rfl rfl rfl rfl rfl (fun _ => rfl) (fun _ => rfl) (fun _ => rfl) (fun _ => rfl) (fun _ => rfl) (fun _ => rfl) (fun _ => rfl) (fun _ => rfl) (fun _ => rfl) (fun _ => rfl) (fun _ => rfl) (fun _ => rfl) (fun _ => rfl)
                                      have x206m := mi_shares mi207 trp3e x206e (by first | decide | omega) (by first | decide | omega)
                                      refine r_i2l hX hP rfl (by first | decide | omega) (by first | decide | omega) ?_
                                      refine r_callV gd hX hP rfl cv_12_624 hS (d' := 34) (mc' := 0) (ms' := 0) (as' := [(0, e), (0, (-1)), (1, x206)]) (st := []) (by first | decide | omega) (by first | decide | omega) (by first | decide | omega) rfl rfl (Nat.le_of_ble_eq_true rfl) (c_X12_getsOf E S (hv [120] [19, 72, 73, 74, 75, 76, 77, 78, 79, 80, 81, 82, 83, 84, 85, 86, 87, 88, 90, 91, 92] (up (up G 1 (Ad E 1) 1 0) 1 (Ad E 1) 0 0) G143) e (-1) x206 hS evp9 evp9e (by first | decide | omega) (by first | decide | omega) (by first | decide | omega) (by first | decide | omega) (by first | decide | omega) (by first | decide | omega) (by first | decide | omega) mi207) ?_
                                      rintro _ _ _ ⟨rfl, ⟨G208, rfl⟩, rfl, -⟩
                                      refine r_ex hX hP 1 (pc' := 232) (st' := [(0, q)]) (lo' := [(0, (2, (Ad E 1))), (1, (0, t)), (2, (0, e)), (3, (0, q)), (4, (0, 1)), (5, (0, 0))]) rfl ?_
                                      refine r_if_ge hX hP rfl (tgt := 242) rfl (by first | decide | omega) (by first | decide | omega) (fun c209 => ?_) (fun c209 => ?_)
                                      · skip
                                        refine r_ex hX hP 1 (pc' := 243) (st' := [(2, (Ad E 1))]) (lo' := [(0, (2, (Ad E 1))), (1, (0, t)), (2, (0, e)), (3, (0, q)), (4, (0, 1)), (5, (0, 0))]) rfl ?_
                                        refine r_getC hX hP rfl fl_12_292 hS (fun s210 => ?_)
                                        refine r_ex hX hP 1 (pc' := 247) (st' := [(0, q), (2, (Ad E 89))]) (lo' := [(0, (2, (Ad E 1))), (1, (0, t)), (2, (0, e)), (3, (0, q)), (4, (0, 1)), (5, (0, 0))]) rfl ?_
                                        refine r_lald hX hP rfl al_89 s210 (by first | decide | omega) (by first | decide | omega) (fun x211 x211e x211a x211b => ?_)
                                        refine r_ex hX hP 2 (pc' := 252) (st' := [(0, 1)]) (lo' := [(0, (2, (Ad E 1))), (1, (0, t)), (2, (0, e)), (3, (0, q)), (4, (0, 1)), (5, (0, 0)), (6, (1, x211))]) rfl ?_
                                        refine r_if_eq hX hP rfl (tgt := 260) rfl (by first | decide | omega) (by first | decide | omega) (fun c212 => ?_) (fun c212 => ?_)
                                        · skip
                                          exfalso; omega
                                        · skip
                                          refine r_ex hX hP 2 (pc' := 263) (st' := [(1, x211)]) (lo' := [(0, (2, (Ad E 1))), (1, (0, t)), (2, (0, e)), (3, (0, q)), (4, (0, 1)), (5, (0, 0)), (6, (1, x211))]) rfl ?_
                                          exact r_retL hX hP rfl rfl (by first | decide | omega) (by first | decide | omega) ⟨rfl, ⟨_, (hq_call (hq_call (hq_up (hq_up (hq_refl _ _ _) rfl) rfl) rfl) rfl).symm⟩, x211, rfl, (by first | decide | omega)⟩
                                      · skip
                                        exfalso; omega
                                    · skip
                                      exfalso; omega
                                  · skip
                                    refine r_ex hX hP 4 (pc' := 208) (st' := [(0, 1)]) (lo' := [(0, (2, (Ad E 1))), (1, (0, t)), (2, (0, e)), (3, (0, q)), (4, (0, 1)), (5, (0, 1))]) rfl ?_
                                    refine r_if_ne hX hP rfl (tgt := 218) rfl (by first | decide | omega) (by first | decide | omega) (fun c213 => ?_) (fun c213 => ?_)
                                    · skip
                                      refine r_ex hX hP 4 (pc' := 222) (st' := [(2, (Ad E 1)), (0, (-1)), (0, e), (2, (Ad E 1))]) (lo' := [(0, (2, (Ad E 1))), (1, (0, t)), (2, (0, e)), (3, (0, q)), (4, (0, 1)), (5, (0, 1))]) rfl ?_
                                      refine r_getC hX hP rfl fl_12_55 hS (fun s214 => ?_)
                                      refine r_ex hX hP 1 (pc' := 226) (st' := [(0, t), (2, (Ad E 14)), (0, (-1)), (0, e), (2, (Ad E 1))]) (lo' := [(0, (2, (Ad E 1))), (1, (0, t)), (2, (0, e)), (3, (0, q)), (4, (0, 1)), (5, (0, 1))]) rfl ?_
                                      refine r_iald hX hP rfl al_14 s214 (by first | decide | omega) (by first | decide | omega) (fun x215 x215e x215a x215b => ?_)
                                      have mi216 : MI E (hv [120] [19, 72, 73, 74, 75, 76, 77, 78, 79, 80, 81, 82, 83, 84, 85, 86, 87, 88, 90, 91, 92] (up (up G 1 (Ad E 1) 1 0) 1 (Ad E 1) 0 0) G143) := mi_keep mi142 rfl rfl rfl rfl rfl rfl (fun _ => rfl) (fun _ => rfl) (fun _ => rfl) (fun _ => rfl) (fun _ => rfl) (fun _ => rfl) (fun _ => rfl) (fun _ => rfl) (fun _ => rfl) (fun _ => rfl) (fun _ => rfl) (fun _ => rfl) (fun _ => rfl)
                                      have x215m := mi_shares mi216 trp3e x215e (by first | decide | omega) (by first | decide | omega)
                                      refine r_i2l hX hP rfl (by first | decide | omega) (by first | decide | omega) ?_
                                      refine r_callV gd hX hP rfl cv_12_624 hS (d' := 34) (mc' := 0) (ms' := 0) (as' := [(0, e), (0, (-1)), (1, x215)]) (st := []) (by first | decide | omega) (by first | decide | omega) (by first | decide | omega) rfl rfl (Nat.le_of_ble_eq_true rfl) (c_X12_getsOf E S (hv [120] [19, 72, 73, 74, 75, 76, 77, 78, 79, 80, 81, 82, 83, 84, 85, 86, 87, 88, 90, 91, 92] (up (up G 1 (Ad E 1) 1 0) 1 (Ad E 1) 0 0) G143) e (-1) x215 hS evp9 evp9e (by first | decide | omega) (by first | decide | omega) (by first | decide | omega) (by first | decide | omega) (by first | decide | omega) (by first | decide | omega) (by first | decide | omega) mi216) ?_
                                      rintro _ _ _ ⟨rfl, ⟨G217, rfl⟩, rfl, -⟩
                                      refine r_ex hX hP 1 (pc' := 232) (st' := [(0, q)]) (lo' := [(0, (2, (Ad E 1))), (1, (0, t)), (2, (0, e)), (3, (0, q)), (4, (0, 1)), (5, (0, 1))]) rfl ?_
                                      refine r_if_ge hX hP rfl (tgt := 242) rfl (by first | decide | omega) (by first | decide | omega) (fun c218 => ?_) (fun c218 => ?_)
                                      · skip
                                        refine r_ex hX hP 1 (pc' := 243) (st' := [(2, (Ad E 1))]) (lo' := [(0, (2, (Ad E 1))), (1, (0, t)), (2, (0, e)), (3, (0, q)), (4, (0, 1)), (5, (0, 1))]) rfl ?_
                                        refine r_getC hX hP rfl fl_12_292 hS (fun s219 => ?_)
                                        refine r_ex hX hP 1 (pc' := 247) (st' := [(0, q), (2, (Ad E 89))]) (lo' := [(0, (2, (Ad E 1))), (1, (0, t)), (2, (0, e)), (3, (0, q)), (4, (0, 1)), (5, (0, 1))]) rfl ?_
                                        refine r_lald hX hP rfl al_89 s219 (by first | decide | omega) (by first | decide | omega) (fun x220 x220e x220a x220b => ?_)
                                        refine r_ex hX hP 2 (pc' := 252) (st' := [(0, 1)]) (lo' := [(0, (2, (Ad E 1))), (1, (0, t)), (2, (0, e)), (3, (0, q)), (4, (0, 1)), (5, (0, 1)), (6, (1, x220))]) rfl ?_
                                        refine r_if_eq hX hP rfl (tgt := 260) rfl (by first | decide | omega) (by first | decide | omega) (fun c221 => ?_) (fun c221 => ?_)
                                        · skip
                                          exfalso; omega
                                        · skip
                                          refine r_ex hX hP 2 (pc' := 263) (st' := [(1, x220)]) (lo' := [(0, (2, (Ad E 1))), (1, (0, t)), (2, (0, e)), (3, (0, q)), (4, (0, 1)), (5, (0, 1)), (6, (1, x220))]) rfl ?_
                                          exact r_retL hX hP rfl rfl (by first | decide | omega) (by first | decide | omega) ⟨rfl, ⟨_, (hq_call (hq_call (hq_up (hq_up (hq_refl _ _ _) rfl) rfl) rfl) rfl).symm⟩, x220, rfl, (by first | decide | omega)⟩
                                      · skip
                                        exfalso; omega
                                    · skip
                                      exfalso; omega
                          · skip
                            refine r_ex hX hP 2 (pc' := 127) (st' := [(0, 7), (2, (Ad E 1))]) (lo' := [(0, (2, (Ad E 1))), (1, (0, t)), (2, (0, e)), (3, (0, q))]) rfl ?_
                            refine r_callV gd hX hP rfl cv_12_327 hS (d' := 0) (mc' := 0) (ms' := 0) (as' := [(0, 7)]) (st := []) (by first | decide | omega) (by first | decide | omega) (by first | decide | omega) rfl rfl (Nat.le_of_ble_eq_true rfl) (c_X12_refuse E S (hv [120] [19, 72, 73, 74, 75, 76, 77, 78, 79, 80, 81, 82, 83, 84, 85, 86, 87, 88, 90, 91, 92] (up (up G 1 (Ad E 1) 1 0) 1 (Ad E 1) 0 0) G143) 7 hS (by first | decide | omega) (by first | decide | omega)) ?_
                            rintro _ _ _ ⟨rfl, ⟨G222, rfl⟩, z223, rfl, rfl⟩
                            refine r_i2l hX hP rfl (by first | decide | omega) (by first | decide | omega) ?_
                            exact r_retL hX hP rfl rfl (by first | decide | omega) (by first | decide | omega) ⟨rfl, ⟨_, (hq_call (hq_call (hq_up (hq_up (hq_refl _ _ _) rfl) rfl) rfl) rfl).symm⟩, (-1), rfl, (by first | decide | omega)⟩
                        · skip
                          refine r_ex hX hP 2 (pc' := 110) (st' := [(0, 8), (2, (Ad E 1))]) (lo' := [(0, (2, (Ad E 1))), (1, (0, t)), (2, (0, e)), (3, (0, q))]) rfl ?_
                          refine r_callV gd hX hP rfl cv_12_327 hS (d' := 0) (mc' := 0) (ms' := 0) (as' := [(0, 8)]) (st := []) (by first | decide | omega) (by first | decide | omega) (by first | decide | omega) rfl rfl (Nat.le_of_ble_eq_true rfl) (c_X12_refuse E S (hv [120] [19, 72, 73, 74, 75, 76, 77, 78, 79, 80, 81, 82, 83, 84, 85, 86, 87, 88, 90, 91, 92] (up (up G 1 (Ad E 1) 1 0) 1 (Ad E 1) 0 0) G143) 8 hS (by first | decide | omega) (by first | decide | omega)) ?_
                          rintro _ _ _ ⟨rfl, ⟨G224, rfl⟩, z225, rfl, rfl⟩
                          refine r_i2l hX hP rfl (by first | decide | omega) (by first | decide | omega) ?_
                          exact r_retL hX hP rfl rfl (by first | decide | omega) (by first | decide | omega) ⟨rfl, ⟨_, (hq_call (hq_call (hq_up (hq_up (hq_refl _ _ _) rfl) rfl) rfl) rfl).symm⟩, (-1), rfl, (by first | decide | omega)⟩
                      · skip
                        refine r_ex hX hP 2 (pc' := 88) (st' := [(0, 7), (2, (Ad E 1))]) (lo' := [(0, (2, (Ad E 1))), (1, (0, t)), (2, (0, e)), (3, (0, q))]) rfl ?_
                        refine r_callV gd hX hP rfl cv_12_327 hS (d' := 0) (mc' := 0) (ms' := 0) (as' := [(0, 7)]) (st := []) (by first | decide | omega) (by first | decide | omega) (by first | decide | omega) rfl rfl (Nat.le_of_ble_eq_true rfl) (c_X12_refuse E S (up (up G 1 (Ad E 1) 1 0) 1 (Ad E 1) 0 0) 7 hS (by first | decide | omega) (by first | decide | omega)) ?_
                        rintro _ _ _ ⟨rfl, ⟨G226, rfl⟩, z227, rfl, rfl⟩
                        refine r_i2l hX hP rfl (by first | decide | omega) (by first | decide | omega) ?_
                        exact r_retL hX hP rfl rfl (by first | decide | omega) (by first | decide | omega) ⟨rfl, ⟨_, (hq_call (hq_up (hq_up (hq_refl _ _ _) rfl) rfl) rfl).symm⟩, (-1), rfl, (by first | decide | omega)⟩
              · skip
                exfalso; omega
            · skip
              refine r_if_ne hX hP rfl (tgt := 45) rfl (by first | decide | omega) (by first | decide | omega) (fun c228 => ?_) (fun c228 => ?_)
              · skip
                exfalso; omega
              · skip
                refine r_ex hX hP 2 (pc' := 40) (st' := [(0, 1), (2, (Ad E 1))]) (lo' := [(0, (2, (Ad E 1))), (1, (0, t)), (2, (0, e)), (3, (0, q))]) rfl ?_
                refine r_callV gd hX hP rfl cv_12_327 hS (d' := 0) (mc' := 0) (ms' := 0) (as' := [(0, 1)]) (st := []) (by first | decide | omega) (by first | decide | omega) (by first | decide | omega) rfl rfl (Nat.le_of_ble_eq_true rfl) (c_X12_refuse E S (up (up G 1 (Ad E 1) 1 0) 1 (Ad E 1) 0 0) 1 hS (by first | decide | omega) (by first | decide | omega)) ?_
                rintro _ _ _ ⟨rfl, ⟨G229, rfl⟩, z230, rfl, rfl⟩
                refine r_i2l hX hP rfl (by first | decide | omega) (by first | decide | omega) ?_
                exact r_retL hX hP rfl rfl (by first | decide | omega) (by first | decide | omega) ⟨rfl, ⟨_, (hq_call (hq_up (hq_up (hq_refl _ _ _) rfl) rfl) rfl).symm⟩, (-1), rfl, (by first | decide | omega)⟩
      · skip
        refine r_if_eq hX hP rfl (tgt := 38) rfl (by first | decide | omega) (by first | decide | omega) (fun c231 => ?_) (fun c231 => ?_)
        · skip
          refine r_ex hX hP 2 (pc' := 40) (st' := [(0, 1), (2, (Ad E 1))]) (lo' := [(0, (2, (Ad E 1))), (1, (0, t)), (2, (0, e)), (3, (0, q))]) rfl ?_
          refine r_callV gd hX hP rfl cv_12_327 hS (d' := 0) (mc' := 0) (ms' := 0) (as' := [(0, 1)]) (st := []) (by first | decide | omega) (by first | decide | omega) (by first | decide | omega) rfl rfl (Nat.le_of_ble_eq_true rfl) (c_X12_refuse E S (up (up G 1 (Ad E 1) 1 0) 1 (Ad E 1) 0 0) 1 hS (by first | decide | omega) (by first | decide | omega)) ?_
          rintro _ _ _ ⟨rfl, ⟨G232, rfl⟩, z233, rfl, rfl⟩
          refine r_i2l hX hP rfl (by first | decide | omega) (by first | decide | omega) ?_
          exact r_retL hX hP rfl rfl (by first | decide | omega) (by first | decide | omega) ⟨rfl, ⟨_, (hq_call (hq_up (hq_up (hq_refl _ _ _) rfl) rfl) rfl).symm⟩, (-1), rfl, (by first | decide | omega)⟩
        · skip
          exfalso; omega
  · skip
    refine r_if_eq hX hP rfl (tgt := 38) rfl (by first | decide | omega) (by first | decide | omega) (fun c234 => ?_) (fun c234 => ?_)
    · skip
      refine r_ex hX hP 2 (pc' := 40) (st' := [(0, 1), (2, (Ad E 1))]) (lo' := [(0, (2, (Ad E 1))), (1, (0, t)), (2, (0, e)), (3, (0, q))]) rfl ?_
      refine r_callV gd hX hP rfl cv_12_327 hS (d' := 0) (mc' := 0) (ms' := 0) (as' := [(0, 1)]) (st := []) (by first | decide | omega) (by first | decide | omega) (by first | decide | omega) rfl rfl (Nat.le_of_ble_eq_true rfl) (c_X12_refuse E S (up (up G 1 (Ad E 1) 1 0) 1 (Ad E 1) 0 0) 1 hS (by first | decide | omega) (by first | decide | omega)) ?_
      rintro _ _ _ ⟨rfl, ⟨G235, rfl⟩, z236, rfl, rfl⟩
      refine r_i2l hX hP rfl (by first | decide | omega) (by first | decide | omega) ?_
      exact r_retL hX hP rfl rfl (by first | decide | omega) (by first | decide | omega) ⟨rfl, ⟨_, (hq_call (hq_up (hq_up (hq_refl _ _ _) rfl) rfl) rfl).symm⟩, (-1), rfl, (by first | decide | omega)⟩
    · skip
      exfalso; omega
set_option maxRecDepth 100000 in
set_option maxHeartbeats 4000000 in
theorem c_X12_explains (E : En) (S : Sg) (G : Gh) (set p sh day now has later : Int) (hS : S (Ad E 1) = 1) (set_a : (-2147483648) ≤ set) (set_b : set ≤ 2147483647) (p_a : 0 ≤ p) (p_b : p ≤ 19) (sh_a : (-9223372036854775808) ≤ sh) (sh_b : sh ≤ 9223372036854775807) (day_a : (-2147483648) ≤ day) (day_b : day ≤ 2147483647) (now_a : (-2147483648) ≤ now) (now_b : now ≤ 2147483647) (has_a : (-9223372036854775808) ≤ has) (has_b : has ≤ 9223372036854775807) (later_a : (-2147483648) ≤ later) (later_b : later ≤ 2147483647) (mi : MI E G) : Calls E mX12_explains [(2, (Ad E 1)), (0, set), (0, p), (1, sh), (0, day), (0, now), (1, has), (0, later)] S G 0 0 0 (fun r S' G' => S = S' ∧ G = G' ∧ ∃ z : Int, r = some (0, z) ∧ 0 ≤ z ∧ z ≤ 1) := by
  refine calls_by [(0, (2, (Ad E 1))), (1, (0, set)), (2, (0, p)), (3, (1, sh)), (5, (0, day)), (6, (0, now)), (7, (1, has)), (9, (0, later))] rfl rfl (Nat.le_of_ble_eq_true rfl) (fun X hX => ?_)
  have hP := hPX12_explains
  refine r_ex hX hP 6 (pc' := 9) (st' := []) (lo' := [(0, (2, (Ad E 1))), (1, (0, set)), (2, (0, p)), (3, (1, sh)), (5, (0, day)), (6, (0, now)), (7, (1, has)), (9, (0, later)), (10, (0, p)), (11, (1, sh)), (13, (0, 0))]) rfl ?_
  have loop9 : ∀ (nF : Nat) (l10_h9 l11_h9 l13_h9 : Int), (-2147483648) ≤ l10_h9 → l10_h9 ≤ 2147483647 → (-9223372036854775808) ≤ l11_h9 → l11_h9 ≤ 9223372036854775807 → 0 ≤ l13_h9 → l13_h9 ≤ 12 → 12 - l13_h9 < (nF : Int) → X 0 0 9 [] [(0, (2, (Ad E 1))), (1, (0, set)), (2, (0, p)), (3, (1, sh)), (5, (0, day)), (6, (0, now)), (7, (1, has)), (9, (0, later)), (10, (0, l10_h9)), (11, (1, l11_h9)), (13, (0, l13_h9))] S G := by
    intro nF
    induction nF with
    | zero => intro l10_h9 l11_h9 l13_h9 yh9_0 yh9_1 yh9_2 yh9_3 yh9_4 yh9_5 ym9; exfalso; omega
    | succ nF ih9 =>
      intro l10_h9 l11_h9 l13_h9 yh9_0 yh9_1 yh9_2 yh9_3 yh9_4 yh9_5 ym9
      refine r_ex hX hP 2 (pc' := 12) (st' := [(2, (Ad E 1)), (0, l13_h9)]) (lo' := [(0, (2, (Ad E 1))), (1, (0, set)), (2, (0, p)), (3, (1, sh)), (5, (0, day)), (6, (0, now)), (7, (1, has)), (9, (0, later)), (10, (0, l10_h9)), (11, (1, l11_h9)), (13, (0, l13_h9))]) rfl ?_
      refine r_getI hX hP rfl fl_12_704 hS (fun hf1 hf1e hf1a hf1b => ?_)
      refine r_ic_ge hX hP rfl (tgt := 160) rfl (by first | decide | omega) (by first | decide | omega) (by first | decide | omega) (by first | decide | omega) (fun c2 => ?_) (fun c2 => ?_)
      · skip
        refine r_ex hX hP 2 (pc' := 164) (st' := [(0, now), (0, l10_h9)]) (lo' := [(0, (2, (Ad E 1))), (1, (0, set)), (2, (0, p)), (3, (1, sh)), (5, (0, day)), (6, (0, now)), (7, (1, has)), (9, (0, later)), (10, (0, l10_h9)), (11, (1, l11_h9)), (13, (0, l13_h9))]) rfl ?_
        refine r_ic_ne hX hP rfl (tgt := 179) rfl (by first | decide | omega) (by first | decide | omega) (by first | decide | omega) (by first | decide | omega) (fun c3 => ?_) (fun c3 => ?_)
        · skip
          refine r_ex hX hP 1 (pc' := 180) (st' := [(0, 0)]) (lo' := [(0, (2, (Ad E 1))), (1, (0, set)), (2, (0, p)), (3, (1, sh)), (5, (0, day)), (6, (0, now)), (7, (1, has)), (9, (0, later)), (10, (0, l10_h9)), (11, (1, l11_h9)), (13, (0, l13_h9))]) rfl ?_
          exact r_retZ hX hP rfl rfl (by first | decide | omega) (by first | decide | omega) (by first | decide | omega) (by first | decide | omega) ⟨rfl, rfl, 0, rfl, (by first | decide | omega)⟩
        · skip
          refine r_ex hX hP 2 (pc' := 171) (st' := [(1, has), (1, l11_h9)]) (lo' := [(0, (2, (Ad E 1))), (1, (0, set)), (2, (0, p)), (3, (1, sh)), (5, (0, day)), (6, (0, now)), (7, (1, has)), (9, (0, later)), (10, (0, l10_h9)), (11, (1, l11_h9)), (13, (0, l13_h9))]) rfl ?_
          refine r_lc_ne hX hP rfl rfl (tgt := 179) rfl (by first | decide | omega) (by first | decide | omega) (by first | decide | omega) (by first | decide | omega) (fun c4 => ?_) (fun c4 => ?_)
          · skip
            refine r_ex hX hP 1 (pc' := 180) (st' := [(0, 0)]) (lo' := [(0, (2, (Ad E 1))), (1, (0, set)), (2, (0, p)), (3, (1, sh)), (5, (0, day)), (6, (0, now)), (7, (1, has)), (9, (0, later)), (10, (0, l10_h9)), (11, (1, l11_h9)), (13, (0, l13_h9))]) rfl ?_
            exact r_retZ hX hP rfl rfl (by first | decide | omega) (by first | decide | omega) (by first | decide | omega) (by first | decide | omega) ⟨rfl, rfl, 0, rfl, (by first | decide | omega)⟩
          · skip
            refine r_ex hX hP 2 (pc' := 180) (st' := [(0, 1)]) (lo' := [(0, (2, (Ad E 1))), (1, (0, set)), (2, (0, p)), (3, (1, sh)), (5, (0, day)), (6, (0, now)), (7, (1, has)), (9, (0, later)), (10, (0, l10_h9)), (11, (1, l11_h9)), (13, (0, l13_h9))]) rfl ?_
            exact r_retZ hX hP rfl rfl (by first | decide | omega) (by first | decide | omega) (by first | decide | omega) (by first | decide | omega) ⟨rfl, rfl, 1, rfl, (by first | decide | omega)⟩
      · skip
        refine r_ex hX hP 1 (pc' := 19) (st' := [(2, (Ad E 1))]) (lo' := [(0, (2, (Ad E 1))), (1, (0, set)), (2, (0, p)), (3, (1, sh)), (5, (0, day)), (6, (0, now)), (7, (1, has)), (9, (0, later)), (10, (0, l10_h9)), (11, (1, l11_h9)), (13, (0, l13_h9))]) rfl ?_
        refine r_getC hX hP rfl fl_12_191 hS (fun s5 => ?_)
        refine r_ex hX hP 1 (pc' := 24) (st' := [(0, l13_h9), (2, (Ad E 59))]) (lo' := [(0, (2, (Ad E 1))), (1, (0, set)), (2, (0, p)), (3, (1, sh)), (5, (0, day)), (6, (0, now)), (7, (1, has)), (9, (0, later)), (10, (0, l10_h9)), (11, (1, l11_h9)), (13, (0, l13_h9))]) rfl ?_
        refine r_iald hX hP rfl al_59 s5 (by first | decide | omega) (by first | decide | omega) (fun x6 x6e x6a x6b => ?_)
        have x6m := mi_hintO mi hf1e x6e (by first | decide | omega) (by first | decide | omega)
        refine r_ex hX hP 3 (pc' := 30) (st' := [(0, x6), (0, set)]) (lo' := [(0, (2, (Ad E 1))), (1, (0, set)), (2, (0, p)), (3, (1, sh)), (5, (0, day)), (6, (0, now)), (7, (1, has)), (9, (0, later)), (10, (0, l10_h9)), (11, (1, l11_h9)), (13, (0, l13_h9)), (14, (0, x6))]) rfl ?_
        refine r_ishr hX hP rfl (fun b7 b7a b7b b7e => ?_)
        refine r_ex hX hP 1 (pc' := 32) (st' := [(0, 1), (0, b7)]) (lo' := [(0, (2, (Ad E 1))), (1, (0, set)), (2, (0, p)), (3, (1, sh)), (5, (0, day)), (6, (0, now)), (7, (1, has)), (9, (0, later)), (10, (0, l10_h9)), (11, (1, l11_h9)), (13, (0, l13_h9)), (14, (0, x6))]) rfl ?_
        refine r_iand hX hP rfl (fun b8 b8a b8b b8e => ?_)
        have b8d := iand_bd b8a b8b b8e (by first | decide | omega) (by first | decide | omega)
        refine r_ex hX hP 1 (pc' := 34) (st' := [(0, 1), (0, b8)]) (lo' := [(0, (2, (Ad E 1))), (1, (0, set)), (2, (0, p)), (3, (1, sh)), (5, (0, day)), (6, (0, now)), (7, (1, has)), (9, (0, later)), (10, (0, l10_h9)), (11, (1, l11_h9)), (13, (0, l13_h9)), (14, (0, x6))]) rfl ?_
        refine r_ic_ne hX hP rfl (tgt := 41) rfl (by first | decide | omega) (by first | decide | omega) (by first | decide | omega) (by first | decide | omega) (fun c9 => ?_) (fun c9 => ?_)
        · skip
          refine r_ex hX hP 3 (pc' := 45) (st' := [(2, (Ad E 1))]) (lo' := [(0, (2, (Ad E 1))), (1, (0, set)), (2, (0, p)), (3, (1, sh)), (5, (0, day)), (6, (0, now)), (7, (1, has)), (9, (0, later)), (10, (0, l10_h9)), (11, (1, l11_h9)), (13, (0, l13_h9)), (14, (0, x6)), (15, (0, 0))]) rfl ?_
          refine r_getC hX hP rfl fl_12_182 hS (fun s10 => ?_)
          refine r_ex hX hP 1 (pc' := 50) (st' := [(0, x6), (2, (Ad E 56))]) (lo' := [(0, (2, (Ad E 1))), (1, (0, set)), (2, (0, p)), (3, (1, sh)), (5, (0, day)), (6, (0, now)), (7, (1, has)), (9, (0, later)), (10, (0, l10_h9)), (11, (1, l11_h9)), (13, (0, l13_h9)), (14, (0, x6)), (15, (0, 0))]) rfl ?_
          refine r_iald hX hP rfl al_56 s10 (by first | decide | omega) (by first | decide | omega) (fun x11 x11e x11a x11b => ?_)
          refine r_ex hX hP 1 (pc' := 53) (st' := [(0, day), (0, x11)]) (lo' := [(0, (2, (Ad E 1))), (1, (0, set)), (2, (0, p)), (3, (1, sh)), (5, (0, day)), (6, (0, now)), (7, (1, has)), (9, (0, later)), (10, (0, l10_h9)), (11, (1, l11_h9)), (13, (0, l13_h9)), (14, (0, x6)), (15, (0, 0))]) rfl ?_
          refine r_ic_le hX hP rfl (tgt := 68) rfl (by first | decide | omega) (by first | decide | omega) (by first | decide | omega) (by first | decide | omega) (fun c12 => ?_) (fun c12 => ?_)
          · skip
            refine r_ex hX hP 1 (pc' := 70) (st' := [(0, 0)]) (lo' := [(0, (2, (Ad E 1))), (1, (0, set)), (2, (0, p)), (3, (1, sh)), (5, (0, day)), (6, (0, now)), (7, (1, has)), (9, (0, later)), (10, (0, l10_h9)), (11, (1, l11_h9)), (13, (0, l13_h9)), (14, (0, x6)), (15, (0, 0))]) rfl ?_
            refine r_if_eq hX hP rfl (tgt := 154) rfl (by first | decide | omega) (by first | decide | omega) (fun c13 => ?_) (fun c13 => ?_)
            · skip
              refine r_ex hX hP 2 (pc' := 9) (st' := []) (lo' := [(0, (2, (Ad E 1))), (1, (0, set)), (2, (0, p)), (3, (1, sh)), (5, (0, day)), (6, (0, now)), (7, (1, has)), (9, (0, later)), (10, (0, l10_h9)), (11, (1, l11_h9)), (13, (0, (l13_h9 + 1))), (14, (0, x6)), (15, (0, 0))]) rfl ?_
              refine r_pick hX [0, 1, 2, 3, 4, 5, 6, 7, 8, 9, 10] (lo' := [(0, (2, (Ad E 1))), (1, (0, set)), (2, (0, p)), (3, (1, sh)), (5, (0, day)), (6, (0, now)), (7, (1, has)), (9, (0, later)), (10, (0, l10_h9)), (11, (1, l11_h9)), (13, (0, (l13_h9 + 1)))]) rfl ?_
              exact ih9 l10_h9 l11_h9 (l13_h9 + 1) (by first | decide | omega) (by first | decide | omega) (by first | decide | omega) (by first | decide | omega) (by first | decide | omega) (by first | decide | omega) (by first | decide | omega)
            · skip
              exfalso; omega
          · skip
            refine r_ex hX hP 1 (pc' := 57) (st' := [(2, (Ad E 1))]) (lo' := [(0, (2, (Ad E 1))), (1, (0, set)), (2, (0, p)), (3, (1, sh)), (5, (0, day)), (6, (0, now)), (7, (1, has)), (9, (0, later)), (10, (0, l10_h9)), (11, (1, l11_h9)), (13, (0, l13_h9)), (14, (0, x6)), (15, (0, 0))]) rfl ?_
            refine r_getC hX hP rfl fl_12_182 hS (fun _ => ?_)
            refine r_ex hX hP 1 (pc' := 62) (st' := [(0, x6), (2, (Ad E 56))]) (lo' := [(0, (2, (Ad E 1))), (1, (0, set)), (2, (0, p)), (3, (1, sh)), (5, (0, day)), (6, (0, now)), (7, (1, has)), (9, (0, later)), (10, (0, l10_h9)), (11, (1, l11_h9)), (13, (0, l13_h9)), (14, (0, x6)), (15, (0, 0))]) rfl ?_
            refine r_ialdK hX hP rfl al_56 s10 (by first | decide | omega) (by first | decide | omega) (x := x11) x11e ?_
            refine r_ex hX hP 1 (pc' := 65) (st' := [(0, later), (0, x11)]) (lo' := [(0, (2, (Ad E 1))), (1, (0, set)), (2, (0, p)), (3, (1, sh)), (5, (0, day)), (6, (0, now)), (7, (1, has)), (9, (0, later)), (10, (0, l10_h9)), (11, (1, l11_h9)), (13, (0, l13_h9)), (14, (0, x6)), (15, (0, 0))]) rfl ?_
            refine r_ic_le hX hP rfl (tgt := 75) rfl (by first | decide | omega) (by first | decide | omega) (by first | decide | omega) (by first | decide | omega) (fun c14 => ?_) (fun c14 => ?_)
            · skip
              refine r_ex hX hP 1 (pc' := 77) (st' := [(0, 0)]) (lo' := [(0, (2, (Ad E 1))), (1, (0, set)), (2, (0, p)), (3, (1, sh)), (5, (0, day)), (6, (0, now)), (7, (1, has)), (9, (0, later)), (10, (0, l10_h9)), (11, (1, l11_h9)), (13, (0, l13_h9)), (14, (0, x6)), (15, (0, 0))]) rfl ?_
              refine r_if_ne hX hP rfl (tgt := 93) rfl (by first | decide | omega) (by first | decide | omega) (fun c15 => ?_) (fun c15 => ?_)
              · skip
                exfalso; omega
              · skip
                refine r_ex hX hP 1 (pc' := 81) (st' := [(2, (Ad E 1))]) (lo' := [(0, (2, (Ad E 1))), (1, (0, set)), (2, (0, p)), (3, (1, sh)), (5, (0, day)), (6, (0, now)), (7, (1, has)), (9, (0, later)), (10, (0, l10_h9)), (11, (1, l11_h9)), (13, (0, l13_h9)), (14, (0, x6)), (15, (0, 0))]) rfl ?_
                refine r_getC hX hP rfl fl_12_194 hS (fun s16 => ?_)
                refine r_ex hX hP 1 (pc' := 86) (st' := [(0, x6), (2, (Ad E 60))]) (lo' := [(0, (2, (Ad E 1))), (1, (0, set)), (2, (0, p)), (3, (1, sh)), (5, (0, day)), (6, (0, now)), (7, (1, has)), (9, (0, later)), (10, (0, l10_h9)), (11, (1, l11_h9)), (13, (0, l13_h9)), (14, (0, x6)), (15, (0, 0))]) rfl ?_
                refine r_zald hX hP rfl al_60 s16 (by first | decide | omega) (by first | decide | omega) (fun x17 x17e x17a x17b => ?_)
                refine r_if_ne hX hP rfl (tgt := 93) rfl (by first | decide | omega) (by first | decide | omega) (fun c18 => ?_) (fun c18 => ?_)
                · skip
                  refine r_ex hX hP 1 (pc' := 94) (st' := [(2, (Ad E 1))]) (lo' := [(0, (2, (Ad E 1))), (1, (0, set)), (2, (0, p)), (3, (1, sh)), (5, (0, day)), (6, (0, now)), (7, (1, has)), (9, (0, later)), (10, (0, l10_h9)), (11, (1, l11_h9)), (13, (0, l13_h9)), (14, (0, x6)), (15, (0, 0))]) rfl ?_
                  refine r_getC hX hP rfl fl_12_176 hS (fun s19 => ?_)
                  refine r_ex hX hP 1 (pc' := 99) (st' := [(0, x6), (2, (Ad E 54))]) (lo' := [(0, (2, (Ad E 1))), (1, (0, set)), (2, (0, p)), (3, (1, sh)), (5, (0, day)), (6, (0, now)), (7, (1, has)), (9, (0, later)), (10, (0, l10_h9)), (11, (1, l11_h9)), (13, (0, l13_h9)), (14, (0, x6)), (15, (0, 0))]) rfl ?_
                  refine r_iald hX hP rfl al_54 s19 (by first | decide | omega) (by first | decide | omega) (fun x20 x20e x20a x20b => ?_)
                  refine r_ex hX hP 1 (pc' := 102) (st' := [(0, l10_h9), (0, x20)]) (lo' := [(0, (2, (Ad E 1))), (1, (0, set)), (2, (0, p)), (3, (1, sh)), (5, (0, day)), (6, (0, now)), (7, (1, has)), (9, (0, later)), (10, (0, l10_h9)), (11, (1, l11_h9)), (13, (0, l13_h9)), (14, (0, x6)), (15, (0, 0))]) rfl ?_
                  refine r_ic_eq hX hP rfl (tgt := 112) rfl (by first | decide | omega) (by first | decide | omega) (by first | decide | omega) (by first | decide | omega) (fun c21 => ?_) (fun c21 => ?_)
                  · skip
                    refine r_ex hX hP 2 (pc' := 115) (st' := [(2, (Ad E 1)), (1, l11_h9)]) (lo' := [(0, (2, (Ad E 1))), (1, (0, set)), (2, (0, p)), (3, (1, sh)), (5, (0, day)), (6, (0, now)), (7, (1, has)), (9, (0, later)), (10, (0, l10_h9)), (11, (1, l11_h9)), (13, (0, l13_h9)), (14, (0, x6)), (15, (0, 0))]) rfl ?_
                    refine r_getC hX hP rfl fl_12_185 hS (fun s22 => ?_)
                    refine r_ex hX hP 1 (pc' := 120) (st' := [(0, x6), (2, (Ad E 57)), (1, l11_h9)]) (lo' := [(0, (2, (Ad E 1))), (1, (0, set)), (2, (0, p)), (3, (1, sh)), (5, (0, day)), (6, (0, now)), (7, (1, has)), (9, (0, later)), (10, (0, l10_h9)), (11, (1, l11_h9)), (13, (0, l13_h9)), (14, (0, x6)), (15, (0, 0))]) rfl ?_
                    refine r_iald hX hP rfl al_57 s22 (by first | decide | omega) (by first | decide | omega) (fun x23 x23e x23a x23b => ?_)
                    refine r_i2l hX hP rfl (by first | decide | omega) (by first | decide | omega) ?_
                    refine r_ex hX hP 1 (pc' := 123) (st' := [(1, (l11_h9 * x23))]) (lo' := [(0, (2, (Ad E 1))), (1, (0, set)), (2, (0, p)), (3, (1, sh)), (5, (0, day)), (6, (0, now)), (7, (1, has)), (9, (0, later)), (10, (0, l10_h9)), (11, (1, l11_h9)), (13, (0, l13_h9)), (14, (0, x6)), (15, (0, 0))]) rfl ?_
                    refine r_hvL hX (fun w24 w24a w24b w24e => ?_)
                    refine r_ex hX hP 1 (pc' := 124) (st' := [(2, (Ad E 1)), (1, w24)]) (lo' := [(0, (2, (Ad E 1))), (1, (0, set)), (2, (0, p)), (3, (1, sh)), (5, (0, day)), (6, (0, now)), (7, (1, has)), (9, (0, later)), (10, (0, l10_h9)), (11, (1, l11_h9)), (13, (0, l13_h9)), (14, (0, x6)), (15, (0, 0))]) rfl ?_
                    refine r_getC hX hP rfl fl_12_188 hS (fun s25 => ?_)
                    refine r_ex hX hP 1 (pc' := 129) (st' := [(0, x6), (2, (Ad E 58)), (1, w24)]) (lo' := [(0, (2, (Ad E 1))), (1, (0, set)), (2, (0, p)), (3, (1, sh)), (5, (0, day)), (6, (0, now)), (7, (1, has)), (9, (0, later)), (10, (0, l10_h9)), (11, (1, l11_h9)), (13, (0, l13_h9)), (14, (0, x6)), (15, (0, 0))]) rfl ?_
                    refine r_iald hX hP rfl al_58 s25 (by first | decide | omega) (by first | decide | omega) (fun x26 x26e x26a x26b => ?_)
                    have x26m := mi_hintN mi hf1e x26e (by first | decide | omega) (by first | decide | omega)
                    refine r_i2l hX hP rfl (by first | decide | omega) (by first | decide | omega) ?_
                    refine r_ldiv hX hP rfl (by first | decide | omega) (by first | decide | omega) (by first | decide | omega) (by first | decide | omega) (by first | decide | omega) ?_
                    obtain ⟨q27, q27e⟩ : ∃ q : Int, q = (Int.tdiv w24 x26) := ⟨_, rfl⟩
                    rw [← q27e]
                    have q27b := td_gen q27e (by first | decide | omega)
                    refine r_hvL hX (fun w28 w28a w28b w28e => ?_)
                    refine r_ex hX hP 2 (pc' := 135) (st' := [(2, (Ad E 1))]) (lo' := [(0, (2, (Ad E 1))), (1, (0, set)), (2, (0, p)), (3, (1, sh)), (5, (0, day)), (6, (0, now)), (7, (1, has)), (9, (0, later)), (10, (0, l10_h9)), (11, (1, w28)), (13, (0, l13_h9)), (14, (0, x6)), (15, (0, 0))]) rfl ?_
                    refine r_getC hX hP rfl fl_12_179 hS (fun s29 => ?_)
                    refine r_ex hX hP 1 (pc' := 140) (st' := [(0, x6), (2, (Ad E 55))]) (lo' := [(0, (2, (Ad E 1))), (1, (0, set)), (2, (0, p)), (3, (1, sh)), (5, (0, day)), (6, (0, now)), (7, (1, has)), (9, (0, later)), (10, (0, l10_h9)), (11, (1, w28)), (13, (0, l13_h9)), (14, (0, x6)), (15, (0, 0))]) rfl ?_
                    refine r_iald hX hP rfl al_55 s29 (by first | decide | omega) (by first | decide | omega) (fun x30 x30e x30a x30b => ?_)
                    refine r_ex hX hP 2 (pc' := 145) (st' := [(1, w28)]) (lo' := [(0, (2, (Ad E 1))), (1, (0, set)), (2, (0, p)), (3, (1, sh)), (5, (0, day)), (6, (0, now)), (7, (1, has)), (9, (0, later)), (10, (0, x30)), (11, (1, w28)), (13, (0, l13_h9)), (14, (0, x6)), (15, (0, 0))]) rfl ?_
                    refine r_ldc2 hX hP rfl (v := 1000000000000) (tbg sg10 197 rfl rfl) ?_
                    refine r_lc_le hX hP rfl rfl (tgt := 154) rfl (by first | decide | omega) (by first | decide | omega) (by first | decide | omega) (by first | decide | omega) (fun c31 => ?_) (fun c31 => ?_)
                    · skip
                      refine r_ex hX hP 2 (pc' := 9) (st' := []) (lo' := [(0, (2, (Ad E 1))), (1, (0, set)), (2, (0, p)), (3, (1, sh)), (5, (0, day)), (6, (0, now)), (7, (1, has)), (9, (0, later)), (10, (0, x30)), (11, (1, w28)), (13, (0, (l13_h9 + 1))), (14, (0, x6)), (15, (0, 0))]) rfl ?_
                      refine r_pick hX [0, 1, 2, 3, 4, 5, 6, 7, 8, 9, 10] (lo' := [(0, (2, (Ad E 1))), (1, (0, set)), (2, (0, p)), (3, (1, sh)), (5, (0, day)), (6, (0, now)), (7, (1, has)), (9, (0, later)), (10, (0, x30)), (11, (1, w28)), (13, (0, (l13_h9 + 1)))]) rfl ?_
                      exact ih9 x30 w28 (l13_h9 + 1) (by first | decide | omega) (by first | decide | omega) (by first | decide | omega) (by first | decide | omega) (by first | decide | omega) (by first | decide | omega) (by first | decide | omega)
                    · skip
                      refine r_ex hX hP 1 (pc' := 153) (st' := [(0, 0)]) (lo' := [(0, (2, (Ad E 1))), (1, (0, set)), (2, (0, p)), (3, (1, sh)), (5, (0, day)), (6, (0, now)), (7, (1, has)), (9, (0, later)), (10, (0, x30)), (11, (1, w28)), (13, (0, l13_h9)), (14, (0, x6)), (15, (0, 0))]) rfl ?_
                      exact r_retZ hX hP rfl rfl (by first | decide | omega) (by first | decide | omega) (by first | decide | omega) (by first | decide | omega) ⟨rfl, rfl, 0, rfl, (by first | decide | omega)⟩
                  · skip
                    refine r_ex hX hP 1 (pc' := 107) (st' := [(0, 0)]) (lo' := [(0, (2, (Ad E 1))), (1, (0, set)), (2, (0, p)), (3, (1, sh)), (5, (0, day)), (6, (0, now)), (7, (1, has)), (9, (0, later)), (10, (0, l10_h9)), (11, (1, l11_h9)), (13, (0, l13_h9)), (14, (0, x6)), (15, (0, 0))]) rfl ?_
                    refine r_if_eq hX hP rfl (tgt := 154) rfl (by first | decide | omega) (by first | decide | omega) (fun c32 => ?_) (fun c32 => ?_)
                    · skip
                      refine r_ex hX hP 2 (pc' := 9) (st' := []) (lo' := [(0, (2, (Ad E 1))), (1, (0, set)), (2, (0, p)), (3, (1, sh)), (5, (0, day)), (6, (0, now)), (7, (1, has)), (9, (0, later)), (10, (0, l10_h9)), (11, (1, l11_h9)), (13, (0, (l13_h9 + 1))), (14, (0, x6)), (15, (0, 0))]) rfl ?_
                      refine r_pick hX [0, 1, 2, 3, 4, 5, 6, 7, 8, 9, 10] (lo' := [(0, (2, (Ad E 1))), (1, (0, set)), (2, (0, p)), (3, (1, sh)), (5, (0, day)), (6, (0, now)), (7, (1, has)), (9, (0, later)), (10, (0, l10_h9)), (11, (1, l11_h9)), (13, (0, (l13_h9 + 1)))]) rfl ?_
                      exact ih9 l10_h9 l11_h9 (l13_h9 + 1) (by first | decide | omega) (by first | decide | omega) (by first | decide | omega) (by first | decide | omega) (by first | decide | omega) (by first | decide | omega) (by first | decide | omega)
                    · skip
                      exfalso; omega
                · skip
                  refine r_ex hX hP 3 (pc' := 9) (st' := []) (lo' := [(0, (2, (Ad E 1))), (1, (0, set)), (2, (0, p)), (3, (1, sh)), (5, (0, day)), (6, (0, now)), (7, (1, has)), (9, (0, later)), (10, (0, l10_h9)), (11, (1, l11_h9)), (13, (0, (l13_h9 + 1))), (14, (0, x6)), (15, (0, 0))]) rfl ?_
                  refine r_pick hX [0, 1, 2, 3, 4, 5, 6, 7, 8, 9, 10] (lo' := [(0, (2, (Ad E 1))), (1, (0, set)), (2, (0, p)), (3, (1, sh)), (5, (0, day)), (6, (0, now)), (7, (1, has)), (9, (0, later)), (10, (0, l10_h9)), (11, (1, l11_h9)), (13, (0, (l13_h9 + 1)))]) rfl ?_
                  exact ih9 l10_h9 l11_h9 (l13_h9 + 1) (by first | decide | omega) (by first | decide | omega) (by first | decide | omega) (by first | decide | omega) (by first | decide | omega) (by first | decide | omega) (by first | decide | omega)
            · skip
              refine r_ex hX hP 1 (pc' := 70) (st' := [(0, 0)]) (lo' := [(0, (2, (Ad E 1))), (1, (0, set)), (2, (0, p)), (3, (1, sh)), (5, (0, day)), (6, (0, now)), (7, (1, has)), (9, (0, later)), (10, (0, l10_h9)), (11, (1, l11_h9)), (13, (0, l13_h9)), (14, (0, x6)), (15, (0, 0))]) rfl ?_
              refine r_if_eq hX hP rfl (tgt := 154) rfl (by first | decide | omega) (by first | decide | omega) (fun c33 => ?_) (fun c33 => ?_)
              · skip
                refine r_ex hX hP 2 (pc' := 9) (st' := []) (lo' := [(0, (2, (Ad E 1))), (1, (0, set)), (2, (0, p)), (3, (1, sh)), (5, (0, day)), (6, (0, now)), (7, (1, has)), (9, (0, later)), (10, (0, l10_h9)), (11, (1, l11_h9)), (13, (0, (l13_h9 + 1))), (14, (0, x6)), (15, (0, 0))]) rfl ?_
                refine r_pick hX [0, 1, 2, 3, 4, 5, 6, 7, 8, 9, 10] (lo' := [(0, (2, (Ad E 1))), (1, (0, set)), (2, (0, p)), (3, (1, sh)), (5, (0, day)), (6, (0, now)), (7, (1, has)), (9, (0, later)), (10, (0, l10_h9)), (11, (1, l11_h9)), (13, (0, (l13_h9 + 1)))]) rfl ?_
                exact ih9 l10_h9 l11_h9 (l13_h9 + 1) (by first | decide | omega) (by first | decide | omega) (by first | decide | omega) (by first | decide | omega) (by first | decide | omega) (by first | decide | omega) (by first | decide | omega)
              · skip
                exfalso; omega
        · skip
          refine r_ex hX hP 4 (pc' := 45) (st' := [(2, (Ad E 1))]) (lo' := [(0, (2, (Ad E 1))), (1, (0, set)), (2, (0, p)), (3, (1, sh)), (5, (0, day)), (6, (0, now)), (7, (1, has)), (9, (0, later)), (10, (0, l10_h9)), (11, (1, l11_h9)), (13, (0, l13_h9)), (14, (0, x6)), (15, (0, 1))]) rfl ?_
          refine r_getC hX hP rfl fl_12_182 hS (fun s34 => ?_)
          refine r_ex hX hP 1 (pc' := 50) (st' := [(0, x6), (2, (Ad E 56))]) (lo' := [(0, (2, (Ad E 1))), (1, (0, set)), (2, (0, p)), (3, (1, sh)), (5, (0, day)), (6, (0, now)), (7, (1, has)), (9, (0, later)), (10, (0, l10_h9)), (11, (1, l11_h9)), (13, (0, l13_h9)), (14, (0, x6)), (15, (0, 1))]) rfl ?_
          refine r_iald hX hP rfl al_56 s34 (by first | decide | omega) (by first | decide | omega) (fun x35 x35e x35a x35b => ?_)
          refine r_ex hX hP 1 (pc' := 53) (st' := [(0, day), (0, x35)]) (lo' := [(0, (2, (Ad E 1))), (1, (0, set)), (2, (0, p)), (3, (1, sh)), (5, (0, day)), (6, (0, now)), (7, (1, has)), (9, (0, later)), (10, (0, l10_h9)), (11, (1, l11_h9)), (13, (0, l13_h9)), (14, (0, x6)), (15, (0, 1))]) rfl ?_
          refine r_ic_le hX hP rfl (tgt := 68) rfl (by first | decide | omega) (by first | decide | omega) (by first | decide | omega) (by first | decide | omega) (fun c36 => ?_) (fun c36 => ?_)
          · skip
            refine r_ex hX hP 1 (pc' := 70) (st' := [(0, 1)]) (lo' := [(0, (2, (Ad E 1))), (1, (0, set)), (2, (0, p)), (3, (1, sh)), (5, (0, day)), (6, (0, now)), (7, (1, has)), (9, (0, later)), (10, (0, l10_h9)), (11, (1, l11_h9)), (13, (0, l13_h9)), (14, (0, x6)), (15, (0, 1))]) rfl ?_
            refine r_if_eq hX hP rfl (tgt := 154) rfl (by first | decide | omega) (by first | decide | omega) (fun c37 => ?_) (fun c37 => ?_)
            · skip
              exfalso; omega
            · skip
              refine r_ex hX hP 1 (pc' := 74) (st' := [(0, 0)]) (lo' := [(0, (2, (Ad E 1))), (1, (0, set)), (2, (0, p)), (3, (1, sh)), (5, (0, day)), (6, (0, now)), (7, (1, has)), (9, (0, later)), (10, (0, l10_h9)), (11, (1, l11_h9)), (13, (0, l13_h9)), (14, (0, x6)), (15, (0, 1))]) rfl ?_
              exact r_retZ hX hP rfl rfl (by first | decide | omega) (by first | decide | omega) (by first | decide | omega) (by first | decide | omega) ⟨rfl, rfl, 0, rfl, (by first | decide | omega)⟩
          · skip
            refine r_ex hX hP 1 (pc' := 57) (st' := [(2, (Ad E 1))]) (lo' := [(0, (2, (Ad E 1))), (1, (0, set)), (2, (0, p)), (3, (1, sh)), (5, (0, day)), (6, (0, now)), (7, (1, has)), (9, (0, later)), (10, (0, l10_h9)), (11, (1, l11_h9)), (13, (0, l13_h9)), (14, (0, x6)), (15, (0, 1))]) rfl ?_
            refine r_getC hX hP rfl fl_12_182 hS (fun _ => ?_)
            refine r_ex hX hP 1 (pc' := 62) (st' := [(0, x6), (2, (Ad E 56))]) (lo' := [(0, (2, (Ad E 1))), (1, (0, set)), (2, (0, p)), (3, (1, sh)), (5, (0, day)), (6, (0, now)), (7, (1, has)), (9, (0, later)), (10, (0, l10_h9)), (11, (1, l11_h9)), (13, (0, l13_h9)), (14, (0, x6)), (15, (0, 1))]) rfl ?_
            refine r_ialdK hX hP rfl al_56 s34 (by first | decide | omega) (by first | decide | omega) (x := x35) x35e ?_
            refine r_ex hX hP 1 (pc' := 65) (st' := [(0, later), (0, x35)]) (lo' := [(0, (2, (Ad E 1))), (1, (0, set)), (2, (0, p)), (3, (1, sh)), (5, (0, day)), (6, (0, now)), (7, (1, has)), (9, (0, later)), (10, (0, l10_h9)), (11, (1, l11_h9)), (13, (0, l13_h9)), (14, (0, x6)), (15, (0, 1))]) rfl ?_
            refine r_ic_le hX hP rfl (tgt := 75) rfl (by first | decide | omega) (by first | decide | omega) (by first | decide | omega) (by first | decide | omega) (fun c38 => ?_) (fun c38 => ?_)
            · skip
              refine r_ex hX hP 1 (pc' := 77) (st' := [(0, 1)]) (lo' := [(0, (2, (Ad E 1))), (1, (0, set)), (2, (0, p)), (3, (1, sh)), (5, (0, day)), (6, (0, now)), (7, (1, has)), (9, (0, later)), (10, (0, l10_h9)), (11, (1, l11_h9)), (13, (0, l13_h9)), (14, (0, x6)), (15, (0, 1))]) rfl ?_
              refine r_if_ne hX hP rfl (tgt := 93) rfl (by first | decide | omega) (by first | decide | omega) (fun c39 => ?_) (fun c39 => ?_)
              · skip
                refine r_ex hX hP 1 (pc' := 94) (st' := [(2, (Ad E 1))]) (lo' := [(0, (2, (Ad E 1))), (1, (0, set)), (2, (0, p)), (3, (1, sh)), (5, (0, day)), (6, (0, now)), (7, (1, has)), (9, (0, later)), (10, (0, l10_h9)), (11, (1, l11_h9)), (13, (0, l13_h9)), (14, (0, x6)), (15, (0, 1))]) rfl ?_
                refine r_getC hX hP rfl fl_12_176 hS (fun s40 => ?_)
                refine r_ex hX hP 1 (pc' := 99) (st' := [(0, x6), (2, (Ad E 54))]) (lo' := [(0, (2, (Ad E 1))), (1, (0, set)), (2, (0, p)), (3, (1, sh)), (5, (0, day)), (6, (0, now)), (7, (1, has)), (9, (0, later)), (10, (0, l10_h9)), (11, (1, l11_h9)), (13, (0, l13_h9)), (14, (0, x6)), (15, (0, 1))]) rfl ?_
                refine r_iald hX hP rfl al_54 s40 (by first | decide | omega) (by first | decide | omega) (fun x41 x41e x41a x41b => ?_)
                refine r_ex hX hP 1 (pc' := 102) (st' := [(0, l10_h9), (0, x41)]) (lo' := [(0, (2, (Ad E 1))), (1, (0, set)), (2, (0, p)), (3, (1, sh)), (5, (0, day)), (6, (0, now)), (7, (1, has)), (9, (0, later)), (10, (0, l10_h9)), (11, (1, l11_h9)), (13, (0, l13_h9)), (14, (0, x6)), (15, (0, 1))]) rfl ?_
                refine r_ic_eq hX hP rfl (tgt := 112) rfl (by first | decide | omega) (by first | decide | omega) (by first | decide | omega) (by first | decide | omega) (fun c42 => ?_) (fun c42 => ?_)
                · skip
                  refine r_ex hX hP 2 (pc' := 115) (st' := [(2, (Ad E 1)), (1, l11_h9)]) (lo' := [(0, (2, (Ad E 1))), (1, (0, set)), (2, (0, p)), (3, (1, sh)), (5, (0, day)), (6, (0, now)), (7, (1, has)), (9, (0, later)), (10, (0, l10_h9)), (11, (1, l11_h9)), (13, (0, l13_h9)), (14, (0, x6)), (15, (0, 1))]) rfl ?_
                  refine r_getC hX hP rfl fl_12_185 hS (fun s43 => ?_)
                  refine r_ex hX hP 1 (pc' := 120) (st' := [(0, x6), (2, (Ad E 57)), (1, l11_h9)]) (lo' := [(0, (2, (Ad E 1))), (1, (0, set)), (2, (0, p)), (3, (1, sh)), (5, (0, day)), (6, (0, now)), (7, (1, has)), (9, (0, later)), (10, (0, l10_h9)), (11, (1, l11_h9)), (13, (0, l13_h9)), (14, (0, x6)), (15, (0, 1))]) rfl ?_
                  refine r_iald hX hP rfl al_57 s43 (by first | decide | omega) (by first | decide | omega) (fun x44 x44e x44a x44b => ?_)
                  refine r_i2l hX hP rfl (by first | decide | omega) (by first | decide | omega) ?_
                  refine r_ex hX hP 1 (pc' := 123) (st' := [(1, (l11_h9 * x44))]) (lo' := [(0, (2, (Ad E 1))), (1, (0, set)), (2, (0, p)), (3, (1, sh)), (5, (0, day)), (6, (0, now)), (7, (1, has)), (9, (0, later)), (10, (0, l10_h9)), (11, (1, l11_h9)), (13, (0, l13_h9)), (14, (0, x6)), (15, (0, 1))]) rfl ?_
                  refine r_hvL hX (fun w45 w45a w45b w45e => ?_)
                  refine r_ex hX hP 1 (pc' := 124) (st' := [(2, (Ad E 1)), (1, w45)]) (lo' := [(0, (2, (Ad E 1))), (1, (0, set)), (2, (0, p)), (3, (1, sh)), (5, (0, day)), (6, (0, now)), (7, (1, has)), (9, (0, later)), (10, (0, l10_h9)), (11, (1, l11_h9)), (13, (0, l13_h9)), (14, (0, x6)), (15, (0, 1))]) rfl ?_
                  refine r_getC hX hP rfl fl_12_188 hS (fun s46 => ?_)
                  refine r_ex hX hP 1 (pc' := 129) (st' := [(0, x6), (2, (Ad E 58)), (1, w45)]) (lo' := [(0, (2, (Ad E 1))), (1, (0, set)), (2, (0, p)), (3, (1, sh)), (5, (0, day)), (6, (0, now)), (7, (1, has)), (9, (0, later)), (10, (0, l10_h9)), (11, (1, l11_h9)), (13, (0, l13_h9)), (14, (0, x6)), (15, (0, 1))]) rfl ?_
                  refine r_iald hX hP rfl al_58 s46 (by first | decide | omega) (by first | decide | omega) (fun x47 x47e x47a x47b => ?_)
                  have x47m := mi_hintN mi hf1e x47e (by first | decide | omega) (by first | decide | omega)
                  refine r_i2l hX hP rfl (by first | decide | omega) (by first | decide | omega) ?_
                  refine r_ldiv hX hP rfl (by first | decide | omega) (by first | decide | omega) (by first | decide | omega) (by first | decide | omega) (by first | decide | omega) ?_
                  obtain ⟨q48, q48e⟩ : ∃ q : Int, q = (Int.tdiv w45 x47) := ⟨_, rfl⟩
                  rw [← q48e]
                  have q48b := td_gen q48e (by first | decide | omega)
                  refine r_hvL hX (fun w49 w49a w49b w49e => ?_)
                  refine r_ex hX hP 2 (pc' := 135) (st' := [(2, (Ad E 1))]) (lo' := [(0, (2, (Ad E 1))), (1, (0, set)), (2, (0, p)), (3, (1, sh)), (5, (0, day)), (6, (0, now)), (7, (1, has)), (9, (0, later)), (10, (0, l10_h9)), (11, (1, w49)), (13, (0, l13_h9)), (14, (0, x6)), (15, (0, 1))]) rfl ?_
                  refine r_getC hX hP rfl fl_12_179 hS (fun s50 => ?_)
                  refine r_ex hX hP 1 (pc' := 140) (st' := [(0, x6), (2, (Ad E 55))]) (lo' := [(0, (2, (Ad E 1))), (1, (0, set)), (2, (0, p)), (3, (1, sh)), (5, (0, day)), (6, (0, now)), (7, (1, has)), (9, (0, later)), (10, (0, l10_h9)), (11, (1, w49)), (13, (0, l13_h9)), (14, (0, x6)), (15, (0, 1))]) rfl ?_
                  refine r_iald hX hP rfl al_55 s50 (by first | decide | omega) (by first | decide | omega) (fun x51 x51e x51a x51b => ?_)
                  refine r_ex hX hP 2 (pc' := 145) (st' := [(1, w49)]) (lo' := [(0, (2, (Ad E 1))), (1, (0, set)), (2, (0, p)), (3, (1, sh)), (5, (0, day)), (6, (0, now)), (7, (1, has)), (9, (0, later)), (10, (0, x51)), (11, (1, w49)), (13, (0, l13_h9)), (14, (0, x6)), (15, (0, 1))]) rfl ?_
                  refine r_ldc2 hX hP rfl (v := 1000000000000) (tbg sg10 197 rfl rfl) ?_
                  refine r_lc_le hX hP rfl rfl (tgt := 154) rfl (by first | decide | omega) (by first | decide | omega) (by first | decide | omega) (by first | decide | omega) (fun c52 => ?_) (fun c52 => ?_)
                  · skip
                    refine r_ex hX hP 2 (pc' := 9) (st' := []) (lo' := [(0, (2, (Ad E 1))), (1, (0, set)), (2, (0, p)), (3, (1, sh)), (5, (0, day)), (6, (0, now)), (7, (1, has)), (9, (0, later)), (10, (0, x51)), (11, (1, w49)), (13, (0, (l13_h9 + 1))), (14, (0, x6)), (15, (0, 1))]) rfl ?_
                    refine r_pick hX [0, 1, 2, 3, 4, 5, 6, 7, 8, 9, 10] (lo' := [(0, (2, (Ad E 1))), (1, (0, set)), (2, (0, p)), (3, (1, sh)), (5, (0, day)), (6, (0, now)), (7, (1, has)), (9, (0, later)), (10, (0, x51)), (11, (1, w49)), (13, (0, (l13_h9 + 1)))]) rfl ?_
                    exact ih9 x51 w49 (l13_h9 + 1) (by first | decide | omega) (by first | decide | omega) (by first | decide | omega) (by first | decide | omega) (by first | decide | omega) (by first | decide | omega) (by first | decide | omega)
                  · skip
                    refine r_ex hX hP 1 (pc' := 153) (st' := [(0, 0)]) (lo' := [(0, (2, (Ad E 1))), (1, (0, set)), (2, (0, p)), (3, (1, sh)), (5, (0, day)), (6, (0, now)), (7, (1, has)), (9, (0, later)), (10, (0, x51)), (11, (1, w49)), (13, (0, l13_h9)), (14, (0, x6)), (15, (0, 1))]) rfl ?_
                    exact r_retZ hX hP rfl rfl (by first | decide | omega) (by first | decide | omega) (by first | decide | omega) (by first | decide | omega) ⟨rfl, rfl, 0, rfl, (by first | decide | omega)⟩
                · skip
                  refine r_ex hX hP 1 (pc' := 107) (st' := [(0, 1)]) (lo' := [(0, (2, (Ad E 1))), (1, (0, set)), (2, (0, p)), (3, (1, sh)), (5, (0, day)), (6, (0, now)), (7, (1, has)), (9, (0, later)), (10, (0, l10_h9)), (11, (1, l11_h9)), (13, (0, l13_h9)), (14, (0, x6)), (15, (0, 1))]) rfl ?_
                  refine r_if_eq hX hP rfl (tgt := 154) rfl (by first | decide | omega) (by first | decide | omega) (fun c53 => ?_) (fun c53 => ?_)
                  · skip
                    exfalso; omega
                  · skip
                    refine r_ex hX hP 1 (pc' := 111) (st' := [(0, 0)]) (lo' := [(0, (2, (Ad E 1))), (1, (0, set)), (2, (0, p)), (3, (1, sh)), (5, (0, day)), (6, (0, now)), (7, (1, has)), (9, (0, later)), (10, (0, l10_h9)), (11, (1, l11_h9)), (13, (0, l13_h9)), (14, (0, x6)), (15, (0, 1))]) rfl ?_
                    exact r_retZ hX hP rfl rfl (by first | decide | omega) (by first | decide | omega) (by first | decide | omega) (by first | decide | omega) ⟨rfl, rfl, 0, rfl, (by first | decide | omega)⟩
              · skip
                exfalso; omega
            · skip
              refine r_ex hX hP 1 (pc' := 70) (st' := [(0, 1)]) (lo' := [(0, (2, (Ad E 1))), (1, (0, set)), (2, (0, p)), (3, (1, sh)), (5, (0, day)), (6, (0, now)), (7, (1, has)), (9, (0, later)), (10, (0, l10_h9)), (11, (1, l11_h9)), (13, (0, l13_h9)), (14, (0, x6)), (15, (0, 1))]) rfl ?_
              refine r_if_eq hX hP rfl (tgt := 154) rfl (by first | decide | omega) (by first | decide | omega) (fun c54 => ?_) (fun c54 => ?_)
              · skip
                exfalso; omega
              · skip
                refine r_ex hX hP 1 (pc' := 74) (st' := [(0, 0)]) (lo' := [(0, (2, (Ad E 1))), (1, (0, set)), (2, (0, p)), (3, (1, sh)), (5, (0, day)), (6, (0, now)), (7, (1, has)), (9, (0, later)), (10, (0, l10_h9)), (11, (1, l11_h9)), (13, (0, l13_h9)), (14, (0, x6)), (15, (0, 1))]) rfl ?_
                exact r_retZ hX hP rfl rfl (by first | decide | omega) (by first | decide | omega) (by first | decide | omega) (by first | decide | omega) ⟨rfl, rfl, 0, rfl, (by first | decide | omega)⟩
  exact loop9 ((12 - 0) + 1 : Int).toNat p sh 0 (by first | decide | omega) (by first | decide | omega) (by first | decide | omega) (by first | decide | omega) (by first | decide | omega) (by first | decide | omega) (by first | decide | omega)
set_option maxRecDepth 100000 in
set_option maxHeartbeats 4000000 in
theorem c_X12_explain (E : En) (S : Sg) (G : Gh) (p sh day now has later : Int) (hS : S (Ad E 1) = 1) (p_a : (-2147483648) ≤ p) (p_b : p ≤ 2147483647) (sh_a : (-2147483648) ≤ sh) (sh_b : sh ≤ 2147483647) (day_a : (-2147483648) ≤ day) (day_b : day ≤ 2147483647) (now_a : (-2147483648) ≤ now) (now_b : now ≤ 2147483647) (has_a : (-2147483648) ≤ has) (has_b : has ≤ 2147483647) (later_a : (-2147483648) ≤ later) (later_b : later ≤ 2147483647) (mi : MI E G) : Calls E mX12_explain [(2, (Ad E 1)), (0, p), (0, sh), (0, day), (0, now), (0, has), (0, later)] S G 2 0 0 (fun r S' G' => S = S' ∧ (∃ G1, hv [0, 1, 73, 74] [] G G1 = G') ∧ ∃ z : Int, r = some (0, z) ∧ (-2147483648) ≤ z ∧ z ≤ 2147483647) := by
  refine calls_by [(0, (2, (Ad E 1))), (1, (0, p)), (2, (0, sh)), (3, (0, day)), (4, (0, now)), (5, (0, has)), (6, (0, later))] rfl rfl (Nat.le_of_ble_eq_true rfl) (fun X hX => ?_)
  have hP := hPX12_explain
  refine r_ex hX hP 2 (pc' := 2) (st' := [(0, 0), (2, (Ad E 1))]) (lo' := [(0, (2, (Ad E 1))), (1, (0, p)), (2, (0, sh)), (3, (0, day)), (4, (0, now)), (5, (0, has)), (6, (0, later))]) rfl ?_
  refine r_putIK hX hP rfl fp_12_304 hS (by first | decide | omega) (by first | decide | omega) (fun h1 => ?_)
  refine r_ex hX hP 2 (pc' := 7) (st' := [(0, 0), (2, (Ad E 1))]) (lo' := [(0, (2, (Ad E 1))), (1, (0, p)), (2, (0, sh)), (3, (0, day)), (4, (0, now)), (5, (0, has)), (6, (0, later))]) rfl ?_
  refine r_putIK hX hP rfl fp_12_307 hS (by first | decide | omega) (by first | decide | omega) (fun h2 => ?_)
  refine r_ex hX hP 1 (pc' := 11) (st' := [(0, p)]) (lo' := [(0, (2, (Ad E 1))), (1, (0, p)), (2, (0, sh)), (3, (0, day)), (4, (0, now)), (5, (0, has)), (6, (0, later))]) rfl ?_
  refine r_callS gd hX hP rfl cs_12_331 (d' := 1) (mc' := 0) (ms' := 0) (as' := [(0, p)]) (st := []) (by first | decide | omega) (by first | decide | omega) (by first | decide | omega) rfl rfl (Nat.le_of_ble_eq_true rfl) (c_X12_isPaper E S (up (up G 1 (Ad E 1) 1 0) 1 (Ad E 1) 0 0) p (by first | decide | omega) (by first | decide | omega)) ?_
  rintro _ _ _ ⟨rfl, rfl, z3, rfl, (⟨rfl, f4, f5⟩ | ⟨rfl, f6⟩)⟩
  · skip
    refine r_if_eq hX hP rfl (tgt := 25) rfl (by first | decide | omega) (by first | decide | omega) (fun c7 => ?_) (fun c7 => ?_)
    · skip
      exfalso; omega
    · skip
      refine r_ex hX hP 1 (pc' := 19) (st' := [(0, now)]) (lo' := [(0, (2, (Ad E 1))), (1, (0, p)), (2, (0, sh)), (3, (0, day)), (4, (0, now)), (5, (0, has)), (6, (0, later))]) rfl ?_
      refine r_callS gd hX hP rfl cs_12_331 (d' := 1) (mc' := 0) (ms' := 0) (as' := [(0, now)]) (st := []) (by first | decide | omega) (by first | decide | omega) (by first | decide | omega) rfl rfl (Nat.le_of_ble_eq_true rfl) (c_X12_isPaper E S (up (up G 1 (Ad E 1) 1 0) 1 (Ad E 1) 0 0) now (by first | decide | omega) (by first | decide | omega)) ?_
      rintro _ _ _ ⟨rfl, rfl, z8, rfl, (⟨rfl, f9, f10⟩ | ⟨rfl, f11⟩)⟩
      · skip
        refine r_if_ne hX hP rfl (tgt := 31) rfl (by first | decide | omega) (by first | decide | omega) (fun c12 => ?_) (fun c12 => ?_)
        · skip
          refine r_ex hX hP 2 (pc' := 33) (st' := [(0, 1), (0, sh)]) (lo' := [(0, (2, (Ad E 1))), (1, (0, p)), (2, (0, sh)), (3, (0, day)), (4, (0, now)), (5, (0, has)), (6, (0, later))]) rfl ?_
          refine r_ldcw hX hP rfl (v := 1000000) (tbg sg9 103 rfl rfl) ?_
          refine r_callS gd hX hP rfl cs_12_310 (d' := 0) (mc' := 0) (ms' := 0) (as' := [(0, sh), (0, 1), (0, 1000000)]) (st := []) (by first | decide | omega) (by first | decide | omega) (by first | decide | omega) rfl rfl (Nat.le_of_ble_eq_true rfl) (c_X12_isIn E S (up (up G 1 (Ad E 1) 1 0) 1 (Ad E 1) 0 0) sh 1 1000000 (by first | decide | omega) (by first | decide | omega) (by first | decide | omega) (by first | decide | omega) (by first | decide | omega) (by first | decide | omega)) ?_
          rintro _ _ _ ⟨rfl, rfl, z13, rfl, (⟨rfl, f14, f15⟩ | ⟨rfl, f16⟩)⟩
          · skip
            refine r_if_eq hX hP rfl (tgt := 75) rfl (by first | decide | omega) (by first | decide | omega) (fun c17 => ?_) (fun c17 => ?_)
            · skip
              exfalso; omega
            · skip
              refine r_ex hX hP 2 (pc' := 45) (st' := [(0, 1), (0, has)]) (lo' := [(0, (2, (Ad E 1))), (1, (0, p)), (2, (0, sh)), (3, (0, day)), (4, (0, now)), (5, (0, has)), (6, (0, later))]) rfl ?_
              refine r_ldcw hX hP rfl (v := 1000000) (tbg sg9 103 rfl rfl) ?_
              refine r_callS gd hX hP rfl cs_12_310 (d' := 0) (mc' := 0) (ms' := 0) (as' := [(0, has), (0, 1), (0, 1000000)]) (st := []) (by first | decide | omega) (by first | decide | omega) (by first | decide | omega) rfl rfl (Nat.le_of_ble_eq_true rfl) (c_X12_isIn E S (up (up G 1 (Ad E 1) 1 0) 1 (Ad E 1) 0 0) has 1 1000000 (by first | decide | omega) (by first | decide | omega) (by first | decide | omega) (by first | decide | omega) (by first | decide | omega) (by first | decide | omega)) ?_
              rintro _ _ _ ⟨rfl, rfl, z18, rfl, (⟨rfl, f19, f20⟩ | ⟨rfl, f21⟩)⟩
              · skip
                refine r_if_eq hX hP rfl (tgt := 75) rfl (by first | decide | omega) (by first | decide | omega) (fun c22 => ?_) (fun c22 => ?_)
                · skip
                  exfalso; omega
                · skip
                  refine r_ex hX hP 1 (pc' := 55) (st' := [(0, day)]) (lo' := [(0, (2, (Ad E 1))), (1, (0, p)), (2, (0, sh)), (3, (0, day)), (4, (0, now)), (5, (0, has)), (6, (0, later))]) rfl ?_
                  refine r_callS gd hX hP rfl cs_12_317 (d' := 1) (mc' := 0) (ms' := 0) (as' := [(0, day)]) (st := []) (by first | decide | omega) (by first | decide | omega) (by first | decide | omega) rfl rfl (Nat.le_of_ble_eq_true rfl) (c_X12_isDay E S (up (up G 1 (Ad E 1) 1 0) 1 (Ad E 1) 0 0) day (by first | decide | omega) (by first | decide | omega)) ?_
                  rintro _ _ _ ⟨rfl, rfl, z23, rfl, (⟨rfl, f24, f25⟩ | ⟨rfl, f26⟩)⟩
                  · skip
                    refine r_if_eq hX hP rfl (tgt := 75) rfl (by first | decide | omega) (by first | decide | omega) (fun c27 => ?_) (fun c27 => ?_)
                    · skip
                      exfalso; omega
                    · skip
                      refine r_ex hX hP 1 (pc' := 63) (st' := [(0, later)]) (lo' := [(0, (2, (Ad E 1))), (1, (0, p)), (2, (0, sh)), (3, (0, day)), (4, (0, now)), (5, (0, has)), (6, (0, later))]) rfl ?_
                      refine r_callS gd hX hP rfl cs_12_317 (d' := 1) (mc' := 0) (ms' := 0) (as' := [(0, later)]) (st := []) (by first | decide | omega) (by first | decide | omega) (by first | decide | omega) rfl rfl (Nat.le_of_ble_eq_true rfl) (c_X12_isDay E S (up (up G 1 (Ad E 1) 1 0) 1 (Ad E 1) 0 0) later (by first | decide | omega) (by first | decide | omega)) ?_
                      rintro _ _ _ ⟨rfl, rfl, z28, rfl, (⟨rfl, f29, f30⟩ | ⟨rfl, f31⟩)⟩
                      · skip
                        refine r_if_eq hX hP rfl (tgt := 75) rfl (by first | decide | omega) (by first | decide | omega) (fun c32 => ?_) (fun c32 => ?_)
                        · skip
                          exfalso; omega
                        · skip
                          refine r_ex hX hP 2 (pc' := 72) (st' := [(0, day), (0, later)]) (lo' := [(0, (2, (Ad E 1))), (1, (0, p)), (2, (0, sh)), (3, (0, day)), (4, (0, now)), (5, (0, has)), (6, (0, later))]) rfl ?_
                          refine r_ic_ge hX hP rfl (tgt := 81) rfl (by first | decide | omega) (by first | decide | omega) (by first | decide | omega) (by first | decide | omega) (fun c33 => ?_) (fun c33 => ?_)
                          · skip
                            refine r_ex hX hP 6 (pc' := 90) (st' := []) (lo' := [(0, (2, (Ad E 1))), (1, (0, p)), (2, (0, sh)), (3, (0, day)), (4, (0, now)), (5, (0, has)), (6, (0, later)), (7, (0, (-1))), (8, (0, 0)), (9, (0, 0))]) rfl ?_
                            have loop90 : ∀ (nF : Nat) (l7_h90 l8_h90 l9_h90 : Int), (-2147483648) ≤ l7_h90 → l7_h90 ≤ 2147483647 → (-2147483648) ≤ l8_h90 → l8_h90 ≤ 2147483647 → 0 ≤ l9_h90 → l9_h90 ≤ 2147483647 → 2147483647 - l9_h90 < (nF : Int) → X 0 0 90 [] [(0, (2, (Ad E 1))), (1, (0, p)), (2, (0, sh)), (3, (0, day)), (4, (0, now)), (5, (0, has)), (6, (0, later)), (7, (0, l7_h90)), (8, (0, l8_h90)), (9, (0, l9_h90))] S (up (up G 1 (Ad E 1) 1 0) 1 (Ad E 1) 0 0) := by
                              intro nF
                              induction nF with
                              | zero => intro l7_h90 l8_h90 l9_h90 yh90_0 yh90_1 yh90_2 yh90_3 yh90_4 yh90_5 ym90; exfalso; omega
                              | succ nF ih90 =>
                                intro l7_h90 l8_h90 l9_h90 yh90_0 yh90_1 yh90_2 yh90_3 yh90_4 yh90_5 ym90
                                refine r_ex hX hP 3 (pc' := 94) (st' := [(2, (Ad E 1)), (0, 1), (0, l9_h90)]) (lo' := [(0, (2, (Ad E 1))), (1, (0, p)), (2, (0, sh)), (3, (0, day)), (4, (0, now)), (5, (0, has)), (6, (0, later)), (7, (0, l7_h90)), (8, (0, l8_h90)), (9, (0, l9_h90))]) rfl ?_
                                refine r_getI hX hP rfl fl_12_704 hS (fun hf34 hf34e hf34a hf34b => ?_)
                                refine r_ishl hX hP rfl (fun b35 b35a b35b b35e => ?_)
                                refine r_ic_ge hX hP rfl (tgt := 269) rfl (by first | decide | omega) (by first | decide | omega) (by first | decide | omega) (by first | decide | omega) (fun c36 => ?_) (fun c36 => ?_)
                                · skip
                                  refine r_ex hX hP 1 (pc' := 271) (st' := [(0, l7_h90)]) (lo' := [(0, (2, (Ad E 1))), (1, (0, p)), (2, (0, sh)), (3, (0, day)), (4, (0, now)), (5, (0, has)), (6, (0, later)), (7, (0, l7_h90)), (8, (0, l8_h90)), (9, (0, l9_h90))]) rfl ?_
                                  refine r_if_ge hX hP rfl (tgt := 280) rfl (by first | decide | omega) (by first | decide | omega) (fun c37 => ?_) (fun c37 => ?_)
                                  · skip
                                    refine r_ex hX hP 2 (pc' := 283) (st' := [(0, l7_h90), (2, (Ad E 1))]) (lo' := [(0, (2, (Ad E 1))), (1, (0, p)), (2, (0, sh)), (3, (0, day)), (4, (0, now)), (5, (0, has)), (6, (0, later)), (7, (0, l7_h90)), (8, (0, l8_h90)), (9, (0, l9_h90))]) rfl ?_
                                    refine r_putIK hX hP rfl fp_12_197 hS (by first | decide | omega) (by first | decide | omega) (fun h38 => ?_)
                                    refine r_ex hX hP 2 (pc' := 289) (st' := [(0, l8_h90), (2, (Ad E 1))]) (lo' := [(0, (2, (Ad E 1))), (1, (0, p)), (2, (0, sh)), (3, (0, day)), (4, (0, now)), (5, (0, has)), (6, (0, later)), (7, (0, l7_h90)), (8, (0, l8_h90)), (9, (0, l9_h90))]) rfl ?_
                                    refine r_putIK hX hP rfl fp_12_719 hS (by first | decide | omega) (by first | decide | omega) (fun h39 => ?_)
                                    refine r_ex hX hP 1 (pc' := 294) (st' := [(0, l7_h90)]) (lo' := [(0, (2, (Ad E 1))), (1, (0, p)), (2, (0, sh)), (3, (0, day)), (4, (0, now)), (5, (0, has)), (6, (0, later)), (7, (0, l7_h90)), (8, (0, l8_h90)), (9, (0, l9_h90))]) rfl ?_
                                    refine r_callS gd hX hP rfl cs_12_707 (d' := 0) (mc' := 0) (ms' := 0) (as' := [(0, l7_h90)]) (st := []) (by first | decide | omega) (by first | decide | omega) (by first | decide | omega) rfl rfl (Nat.le_of_ble_eq_true rfl) (c_J6_bitCount_0f7a4 E S (up (up (up (up G 1 (Ad E 1) 1 0) 1 (Ad E 1) 0 0) 1 (Ad E 1) 73 l7_h90) 1 (Ad E 1) 74 l8_h90) l7_h90 (by first | decide | omega) (by first | decide | omega)) ?_
                                    rintro _ _ _ ⟨rfl, rfl, z40, rfl, z40a, z40b⟩
                                    exact r_retI hX hP rfl rfl (by first | decide | omega) (by first | decide | omega) ⟨rfl, ⟨_, (hq_up (hq_up (hq_up (hq_up (hq_refl _ _ _) rfl) rfl) rfl) rfl).symm⟩, z40, rfl, (by first | decide | omega)⟩
                                  · skip
                                    refine r_ex hX hP 2 (pc' := 276) (st' := [(0, 5), (2, (Ad E 1))]) (lo' := [(0, (2, (Ad E 1))), (1, (0, p)), (2, (0, sh)), (3, (0, day)), (4, (0, now)), (5, (0, has)), (6, (0, later)), (7, (0, l7_h90)), (8, (0, l8_h90)), (9, (0, l9_h90))]) rfl ?_
                                    refine r_callV gd hX hP rfl cv_12_327 hS (d' := 0) (mc' := 0) (ms' := 0) (as' := [(0, 5)]) (st := []) (by first | decide | omega) (by first | decide | omega) (by first | decide | omega) rfl rfl (Nat.le_of_ble_eq_true rfl) (c_X12_refuse E S (up (up G 1 (Ad E 1) 1 0) 1 (Ad E 1) 0 0) 5 hS (by first | decide | omega) (by first | decide | omega)) ?_
                                    rintro _ _ _ ⟨rfl, ⟨G41, rfl⟩, z42, rfl, rfl⟩
                                    exact r_retI hX hP rfl rfl (by first | decide | omega) (by first | decide | omega) ⟨rfl, ⟨_, (hq_call (hq_up (hq_up (hq_refl _ _ _) rfl) rfl) rfl).symm⟩, (-1), rfl, (by first | decide | omega)⟩
                                · skip
                                  refine r_ex hX hP 4 (pc' := 107) (st' := []) (lo' := [(0, (2, (Ad E 1))), (1, (0, p)), (2, (0, sh)), (3, (0, day)), (4, (0, now)), (5, (0, has)), (6, (0, later)), (7, (0, l7_h90)), (8, (0, l8_h90)), (9, (0, l9_h90)), (10, (0, 1)), (11, (0, 0))]) rfl ?_
                                  have loop107 : ∀ (nF : Nat) (l10_h107 l11_h107 : Int), (-2147483648) ≤ l10_h107 → l10_h107 ≤ 2147483647 → 0 ≤ l11_h107 → l11_h107 ≤ 12 → 12 - l11_h107 < (nF : Int) → X 0 0 107 [] [(0, (2, (Ad E 1))), (1, (0, p)), (2, (0, sh)), (3, (0, day)), (4, (0, now)), (5, (0, has)), (6, (0, later)), (7, (0, l7_h90)), (8, (0, l8_h90)), (9, (0, l9_h90)), (10, (0, l10_h107)), (11, (0, l11_h107))] S (up (up G 1 (Ad E 1) 1 0) 1 (Ad E 1) 0 0) := by
                                    intro nF
                                    induction nF with
                                    | zero => intro l10_h107 l11_h107 yh107_0 yh107_1 yh107_2 yh107_3 ym107; exfalso; omega
                                    | succ nF ih107 =>
                                      intro l10_h107 l11_h107 yh107_0 yh107_1 yh107_2 yh107_3 ym107
                                      refine r_ex hX hP 2 (pc' := 110) (st' := [(2, (Ad E 1)), (0, l11_h107)]) (lo' := [(0, (2, (Ad E 1))), (1, (0, p)), (2, (0, sh)), (3, (0, day)), (4, (0, now)), (5, (0, has)), (6, (0, later)), (7, (0, l7_h90)), (8, (0, l8_h90)), (9, (0, l9_h90)), (10, (0, l10_h107)), (11, (0, l11_h107))]) rfl ?_
                                      refine r_getKI hX hP rfl fl_12_704 hS (x := hf34) hf34e ?_
                                      refine r_ic_ge hX hP rfl (tgt := 154) rfl (by first | decide | omega) (by first | decide | omega) (by first | decide | omega) (by first | decide | omega) (fun c43 => ?_) (fun c43 => ?_)
                                      · skip
                                        refine r_ex hX hP 1 (pc' := 156) (st' := [(0, l10_h107)]) (lo' := [(0, (2, (Ad E 1))), (1, (0, p)), (2, (0, sh)), (3, (0, day)), (4, (0, now)), (5, (0, has)), (6, (0, later)), (7, (0, l7_h90)), (8, (0, l8_h90)), (9, (0, l9_h90)), (10, (0, l10_h107)), (11, (0, l11_h107))]) rfl ?_
                                        refine r_if_eq hX hP rfl (tgt := 263) rfl (by first | decide | omega) (by first | decide | omega) (fun c44 => ?_) (fun c44 => ?_)
                                        · skip
                                          refine r_ex hX hP 2 (pc' := 90) (st' := []) (lo' := [(0, (2, (Ad E 1))), (1, (0, p)), (2, (0, sh)), (3, (0, day)), (4, (0, now)), (5, (0, has)), (6, (0, later)), (7, (0, l7_h90)), (8, (0, l8_h90)), (9, (0, (l9_h90 + 1))), (10, (0, l10_h107)), (11, (0, l11_h107))]) rfl ?_
                                          refine r_pick hX [0, 1, 2, 3, 4, 5, 6, 7, 8, 9] (lo' := [(0, (2, (Ad E 1))), (1, (0, p)), (2, (0, sh)), (3, (0, day)), (4, (0, now)), (5, (0, has)), (6, (0, later)), (7, (0, l7_h90)), (8, (0, l8_h90)), (9, (0, (l9_h90 + 1)))]) rfl ?_
                                          exact ih90 l7_h90 l8_h90 (l9_h90 + 1) (by first | decide | omega) (by first | decide | omega) (by first | decide | omega) (by first | decide | omega) (by first | decide | omega) (by first | decide | omega) (by first | decide | omega)
                                        · skip
                                          refine r_ex hX hP 1 (pc' := 161) (st' := [(0, l7_h90)]) (lo' := [(0, (2, (Ad E 1))), (1, (0, p)), (2, (0, sh)), (3, (0, day)), (4, (0, now)), (5, (0, has)), (6, (0, later)), (7, (0, l7_h90)), (8, (0, l8_h90)), (9, (0, l9_h90)), (10, (0, l10_h107)), (11, (0, l11_h107))]) rfl ?_
                                          refine r_if_lt hX hP rfl (tgt := 177) rfl (by first | decide | omega) (by first | decide | omega) (fun c45 => ?_) (fun c45 => ?_)
                                          · skip
                                            refine r_ex hX hP 4 (pc' := 182) (st' := [(0, sh), (0, p), (0, l9_h90), (2, (Ad E 1))]) (lo' := [(0, (2, (Ad E 1))), (1, (0, p)), (2, (0, sh)), (3, (0, day)), (4, (0, now)), (5, (0, has)), (6, (0, later)), (7, (0, l7_h90)), (8, (0, l8_h90)), (9, (0, l9_h90)), (10, (0, l10_h107)), (11, (0, l11_h107))]) rfl ?_
                                            refine r_i2l hX hP rfl (by first | decide | omega) (by first | decide | omega) ?_
                                            refine r_ex hX hP 3 (pc' := 188) (st' := [(0, has), (0, now), (0, day), (1, sh), (0, p), (0, l9_h90), (2, (Ad E 1))]) (lo' := [(0, (2, (Ad E 1))), (1, (0, p)), (2, (0, sh)), (3, (0, day)), (4, (0, now)), (5, (0, has)), (6, (0, later)), (7, (0, l7_h90)), (8, (0, l8_h90)), (9, (0, l9_h90)), (10, (0, l10_h107)), (11, (0, l11_h107))]) rfl ?_
                                            refine r_i2l hX hP rfl (by first | decide | omega) (by first | decide | omega) ?_
                                            refine r_ex hX hP 1 (pc' := 191) (st' := [(0, later), (1, has), (0, now), (0, day), (1, sh), (0, p), (0, l9_h90), (2, (Ad E 1))]) (lo' := [(0, (2, (Ad E 1))), (1, (0, p)), (2, (0, sh)), (3, (0, day)), (4, (0, now)), (5, (0, has)), (6, (0, later)), (7, (0, l7_h90)), (8, (0, l8_h90)), (9, (0, l9_h90)), (10, (0, l10_h107)), (11, (0, l11_h107))]) rfl ?_
                                            have mi46 : MI E (up (up G 1 (Ad E 1) 1 0) 1 (Ad E 1) 0 0) := mi_keep mi rfl rfl rfl rfl rfl rfl (fun _ => rfl) (fun _ => rfl) (fun _ => rfl) (fun _ => rfl) (fun _ => rfl) (fun _ => rfl) (fun _ => rfl) (fun _ => rfl) (fun _ => rfl) (fun _ => rfl) (fun _ => rfl) (fun _ => rfl) (fun _ => rfl)
                                            refine r_callV gd hX hP rfl cv_12_712 hS (d' := 0) (mc' := 0) (ms' := 0) (as' := [(0, l9_h90), (0, p), (1, sh), (0, day), (0, now), (1, has), (0, later)]) (st := []) (by first | decide | omega) (by first | decide | omega) (by first | decide | omega) rfl rfl (Nat.le_of_ble_eq_true rfl) (c_X12_explains E S (up (up G 1 (Ad E 1) 1 0) 1 (Ad E 1) 0 0) l9_h90 p sh day now has later hS (by first | decide | omega) (by first | decide | omega) (by first | decide | omega) (by first | decide | omega) (by first | decide | omega) (by first | decide | omega) (by first | decide | omega) (by first | decide | omega) (by first | decide | omega) (by first | decide | omega) (by first | decide | omega) (by first | decide | omega) (by first | decide | omega) (by first | decide | omega) mi46) ?_
                                            rintro _ _ _ ⟨rfl, rfl, z47, rfl, z47a, z47b⟩
                                            refine r_if_ne hX hP rfl (tgt := 200) rfl (by first | decide | omega) (by first | decide | omega) (fun c48 => ?_) (fun c48 => ?_)
                                            · skip
                                              refine r_ex hX hP 1 (pc' := 202) (st' := [(0, l7_h90)]) (lo' := [(0, (2, (Ad E 1))), (1, (0, p)), (2, (0, sh)), (3, (0, day)), (4, (0, now)), (5, (0, has)), (6, (0, later)), (7, (0, l7_h90)), (8, (0, l8_h90)), (9, (0, l9_h90)), (10, (0, l10_h107)), (11, (0, l11_h107))]) rfl ?_
                                              refine r_if_lt hX hP rfl (tgt := 218) rfl (by first | decide | omega) (by first | decide | omega) (fun c49 => ?_) (fun c49 => ?_)
                                              · skip
                                                refine r_ex hX hP 4 (pc' := 227) (st' := [(0, 1)]) (lo' := [(0, (2, (Ad E 1))), (1, (0, p)), (2, (0, sh)), (3, (0, day)), (4, (0, now)), (5, (0, has)), (6, (0, later)), (7, (0, l7_h90)), (8, (0, l8_h90)), (9, (0, l9_h90)), (10, (0, l10_h107)), (11, (0, 1))]) rfl ?_
                                                refine r_if_eq hX hP rfl (tgt := 234) rfl (by first | decide | omega) (by first | decide | omega) (fun c50 => ?_) (fun c50 => ?_)
                                                · skip
                                                  exfalso; omega
                                                · skip
                                                  refine r_ex hX hP 4 (pc' := 242) (st' := [(0, 1)]) (lo' := [(0, (2, (Ad E 1))), (1, (0, p)), (2, (0, sh)), (3, (0, day)), (4, (0, now)), (5, (0, has)), (6, (0, later)), (7, (0, l7_h90)), (8, (0, 1)), (9, (0, l9_h90)), (10, (0, l10_h107)), (11, (0, 1))]) rfl ?_
                                                  refine r_if_ne hX hP rfl (tgt := 259) rfl (by first | decide | omega) (by first | decide | omega) (fun c51 => ?_) (fun c51 => ?_)
                                                  · skip
                                                    refine r_ex hX hP 4 (pc' := 90) (st' := []) (lo' := [(0, (2, (Ad E 1))), (1, (0, p)), (2, (0, sh)), (3, (0, day)), (4, (0, now)), (5, (0, has)), (6, (0, later)), (7, (0, l9_h90)), (8, (0, 1)), (9, (0, (l9_h90 + 1))), (10, (0, l10_h107)), (11, (0, 1))]) rfl ?_
                                                    refine r_pick hX [0, 1, 2, 3, 4, 5, 6, 7, 8, 9] (lo' := [(0, (2, (Ad E 1))), (1, (0, p)), (2, (0, sh)), (3, (0, day)), (4, (0, now)), (5, (0, has)), (6, (0, later)), (7, (0, l9_h90)), (8, (0, 1)), (9, (0, (l9_h90 + 1)))]) rfl ?_
                                                    exact ih90 l9_h90 1 (l9_h90 + 1) (by first | decide | omega) (by first | decide | omega) (by first | decide | omega) (by first | decide | omega) (by first | decide | omega) (by first | decide | omega) (by first | decide | omega)
                                                  · skip
                                                    exfalso; omega
                                              · skip
                                                exfalso; omega
                                            · skip
                                              refine r_ex hX hP 3 (pc' := 90) (st' := []) (lo' := [(0, (2, (Ad E 1))), (1, (0, p)), (2, (0, sh)), (3, (0, day)), (4, (0, now)), (5, (0, has)), (6, (0, later)), (7, (0, l7_h90)), (8, (0, l8_h90)), (9, (0, (l9_h90 + 1))), (10, (0, l10_h107)), (11, (0, l11_h107))]) rfl ?_
                                              refine r_pick hX [0, 1, 2, 3, 4, 5, 6, 7, 8, 9] (lo' := [(0, (2, (Ad E 1))), (1, (0, p)), (2, (0, sh)), (3, (0, day)), (4, (0, now)), (5, (0, has)), (6, (0, later)), (7, (0, l7_h90)), (8, (0, l8_h90)), (9, (0, (l9_h90 + 1)))]) rfl ?_
                                              exact ih90 l7_h90 l8_h90 (l9_h90 + 1) (by first | decide | omega) (by first | decide | omega) (by first | decide | omega) (by first | decide | omega) (by first | decide | omega) (by first | decide | omega) (by first | decide | omega)
                                          · skip
                                            refine r_ex hX hP 1 (pc' := 166) (st' := [(0, l9_h90)]) (lo' := [(0, (2, (Ad E 1))), (1, (0, p)), (2, (0, sh)), (3, (0, day)), (4, (0, now)), (5, (0, has)), (6, (0, later)), (7, (0, l7_h90)), (8, (0, l8_h90)), (9, (0, l9_h90)), (10, (0, l10_h107)), (11, (0, l11_h107))]) rfl ?_
                                            refine r_callS gd hX hP rfl cs_12_707 (d' := 0) (mc' := 0) (ms' := 0) (as' := [(0, l9_h90)]) (st := []) (by first | decide | omega) (by first | decide | omega) (by first | decide | omega) rfl rfl (Nat.le_of_ble_eq_true rfl) (c_J6_bitCount_0f7a4 E S (up (up G 1 (Ad E 1) 1 0) 1 (Ad E 1) 0 0) l9_h90 (by first | decide | omega) (by first | decide | omega)) ?_
                                            rintro _ _ _ ⟨rfl, rfl, z52, rfl, z52a, z52b⟩
                                            refine r_ex hX hP 1 (pc' := 171) (st' := [(0, l7_h90), (0, z52)]) (lo' := [(0, (2, (Ad E 1))), (1, (0, p)), (2, (0, sh)), (3, (0, day)), (4, (0, now)), (5, (0, has)), (6, (0, later)), (7, (0, l7_h90)), (8, (0, l8_h90)), (9, (0, l9_h90)), (10, (0, l10_h107)), (11, (0, l11_h107))]) rfl ?_
                                            refine r_callS gd hX hP rfl cs_12_707 (d' := 0) (mc' := 0) (ms' := 0) (as' := [(0, l7_h90)]) (st := [(0, z52)]) (by first | decide | omega) (by first | decide | omega) (by first | decide | omega) rfl rfl (Nat.le_of_ble_eq_true rfl) (c_J6_bitCount_0f7a4 E S (up (up G 1 (Ad E 1) 1 0) 1 (Ad E 1) 0 0) l7_h90 (by first | decide | omega) (by first | decide | omega)) ?_
                                            rintro _ _ _ ⟨rfl, rfl, z53, rfl, z53a, z53b⟩
                                            refine r_ic_gt hX hP rfl (tgt := 263) rfl (by first | decide | omega) (by first | decide | omega) (by first | decide | omega) (by first | decide | omega) (fun c54 => ?_) (fun c54 => ?_)
                                            · skip
                                              refine r_ex hX hP 2 (pc' := 90) (st' := []) (lo' := [(0, (2, (Ad E 1))), (1, (0, p)), (2, (0, sh)), (3, (0, day)), (4, (0, now)), (5, (0, has)), (6, (0, later)), (7, (0, l7_h90)), (8, (0, l8_h90)), (9, (0, (l9_h90 + 1))), (10, (0, l10_h107)), (11, (0, l11_h107))]) rfl ?_
                                              refine r_pick hX [0, 1, 2, 3, 4, 5, 6, 7, 8, 9] (lo' := [(0, (2, (Ad E 1))), (1, (0, p)), (2, (0, sh)), (3, (0, day)), (4, (0, now)), (5, (0, has)), (6, (0, later)), (7, (0, l7_h90)), (8, (0, l8_h90)), (9, (0, (l9_h90 + 1)))]) rfl ?_
                                              exact ih90 l7_h90 l8_h90 (l9_h90 + 1) (by first | decide | omega) (by first | decide | omega) (by first | decide | omega) (by first | decide | omega) (by first | decide | omega) (by first | decide | omega) (by first | decide | omega)
                                            · skip
                                              refine r_ex hX hP 4 (pc' := 182) (st' := [(0, sh), (0, p), (0, l9_h90), (2, (Ad E 1))]) (lo' := [(0, (2, (Ad E 1))), (1, (0, p)), (2, (0, sh)), (3, (0, day)), (4, (0, now)), (5, (0, has)), (6, (0, later)), (7, (0, l7_h90)), (8, (0, l8_h90)), (9, (0, l9_h90)), (10, (0, l10_h107)), (11, (0, l11_h107))]) rfl ?_
                                              refine r_i2l hX hP rfl (by first | decide | omega) (by first | decide | omega) ?_
                                              refine r_ex hX hP 3 (pc' := 188) (st' := [(0, has), (0, now), (0, day), (1, sh), (0, p), (0, l9_h90), (2, (Ad E 1))]) (lo' := [(0, (2, (Ad E 1))), (1, (0, p)), (2, (0, sh)), (3, (0, day)), (4, (0, now)), (5, (0, has)), (6, (0, later)), (7, (0, l7_h90)), (8, (0, l8_h90)), (9, (0, l9_h90)), (10, (0, l10_h107)), (11, (0, l11_h107))]) rfl ?_
                                              refine r_i2l hX hP rfl (by first | decide | omega) (by first | decide | omega) ?_
                                              refine r_ex hX hP 1 (pc' := 191) (st' := [(0, later), (1, has), (0, now), (0, day), (1, sh), (0, p), (0, l9_h90), (2, (Ad E 1))]) (lo' := [(0, (2, (Ad E 1))), (1, (0, p)), (2, (0, sh)), (3, (0, day)), (4, (0, now)), (5, (0, has)), (6, (0, later)), (7, (0, l7_h90)), (8, (0, l8_h90)), (9, (0, l9_h90)), (10, (0, l10_h107)), (11, (0, l11_h107))]) rfl ?_
                                              have mi55 : MI E (up (up G 1 (Ad E 1) 1 0) 1 (Ad E 1) 0 0) := mi_keep mi rfl rfl rfl rfl rfl rfl (fun _ => rfl) (fun _ => rfl) (fun _ => rfl) (fun _ => rfl) (fun _ => rfl) (fun _ => rfl) (fun _ => rfl) (fun _ => rfl) (fun _ => rfl) (fun _ => rfl) (fun _ => rfl) (fun _ => rfl) (fun _ => rfl)
                                              refine r_callV gd hX hP rfl cv_12_712 hS (d' := 0) (mc' := 0) (ms' := 0) (as' := [(0, l9_h90), (0, p), (1, sh), (0, day), (0, now), (1, has), (0, later)]) (st := []) (by first | decide | omega) (by first | decide | omega) (by first | decide | omega) rfl rfl (Nat.le_of_ble_eq_true rfl) (c_X12_explains E S (up (up G 1 (Ad E 1) 1 0) 1 (Ad E 1) 0 0) l9_h90 p sh day now has later hS (by first | decide | omega) (by first | decide | omega) (by first | decide | omega) (by first | decide | omega) (by first | decide | omega) (by first | decide | omega) (by first | decide | omega) (by first | decide | omega) (by first | decide | omega) (by first | decide | omega) (by first | decide | omega) (by first | decide | omega) (by first | decide | omega) (by first | decide | omega) mi55) ?_
                                              rintro _ _ _ ⟨rfl, rfl, z56, rfl, z56a, z56b⟩
                                              refine r_if_ne hX hP rfl (tgt := 200) rfl (by first | decide | omega) (by first | decide | omega) (fun c57 => ?_) (fun c57 => ?_)
                                              · skip
                                                refine r_ex hX hP 1 (pc' := 202) (st' := [(0, l7_h90)]) (lo' := [(0, (2, (Ad E 1))), (1, (0, p)), (2, (0, sh)), (3, (0, day)), (4, (0, now)), (5, (0, has)), (6, (0, later)), (7, (0, l7_h90)), (8, (0, l8_h90)), (9, (0, l9_h90)), (10, (0, l10_h107)), (11, (0, l11_h107))]) rfl ?_
                                                refine r_if_lt hX hP rfl (tgt := 218) rfl (by first | decide | omega) (by first | decide | omega) (fun c58 => ?_) (fun c58 => ?_)
                                                · skip
                                                  exfalso; omega
                                                · skip
                                                  refine r_ex hX hP 1 (pc' := 207) (st' := [(0, l9_h90)]) (lo' := [(0, (2, (Ad E 1))), (1, (0, p)), (2, (0, sh)), (3, (0, day)), (4, (0, now)), (5, (0, has)), (6, (0, later)), (7, (0, l7_h90)), (8, (0, l8_h90)), (9, (0, l9_h90)), (10, (0, l10_h107)), (11, (0, l11_h107))]) rfl ?_
                                                  refine r_callS gd hX hP rfl cs_12_707 (d' := 0) (mc' := 0) (ms' := 0) (as' := [(0, l9_h90)]) (st := []) (by first | decide | omega) (by first | decide | omega) (by first | decide | omega) rfl rfl (Nat.le_of_ble_eq_true rfl) (c_J6_bitCount_0f7a4 E S (up (up G 1 (Ad E 1) 1 0) 1 (Ad E 1) 0 0) l9_h90 (by first | decide | omega) (by first | decide | omega)) ?_
                                                  rintro _ _ _ ⟨rfl, rfl, z59, rfl, z59a, z59b⟩
                                                  refine r_ex hX hP 1 (pc' := 212) (st' := [(0, l7_h90), (0, z59)]) (lo' := [(0, (2, (Ad E 1))), (1, (0, p)), (2, (0, sh)), (3, (0, day)), (4, (0, now)), (5, (0, has)), (6, (0, later)), (7, (0, l7_h90)), (8, (0, l8_h90)), (9, (0, l9_h90)), (10, (0, l10_h107)), (11, (0, l11_h107))]) rfl ?_
                                                  refine r_callS gd hX hP rfl cs_12_707 (d' := 0) (mc' := 0) (ms' := 0) (as' := [(0, l7_h90)]) (st := [(0, z59)]) (by first | decide | omega) (by first | decide | omega) (by first | decide | omega) rfl rfl (Nat.le_of_ble_eq_true rfl) (c_J6_bitCount_0f7a4 E S (up (up G 1 (Ad E 1) 1 0) 1 (Ad E 1) 0 0) l7_h90 (by first | decide | omega) (by first | decide | omega)) ?_
                                                  rintro _ _ _ ⟨rfl, rfl, z60, rfl, z60a, z60b⟩
                                                  refine r_ic_ge hX hP rfl (tgt := 222) rfl (by first | decide | omega) (by first | decide | omega) (by first | decide | omega) (by first | decide | omega) (fun c61 => ?_) (fun c61 => ?_)
                                                  · skip
                                                    refine r_ex hX hP 3 (pc' := 227) (st' := [(0, 0)]) (lo' := [(0, (2, (Ad E 1))), (1, (0, p)), (2, (0, sh)), (3, (0, day)), (4, (0, now)), (5, (0, has)), (6, (0, later)), (7, (0, l7_h90)), (8, (0, l8_h90)), (9, (0, l9_h90)), (10, (0, l10_h107)), (11, (0, 0))]) rfl ?_
                                                    refine r_if_eq hX hP rfl (tgt := 234) rfl (by first | decide | omega) (by first | decide | omega) (fun c62 => ?_) (fun c62 => ?_)
                                                    · skip
                                                      refine r_ex hX hP 3 (pc' := 238) (st' := [(0, (l8_h90 + 1))]) (lo' := [(0, (2, (Ad E 1))), (1, (0, p)), (2, (0, sh)), (3, (0, day)), (4, (0, now)), (5, (0, has)), (6, (0, later)), (7, (0, l7_h90)), (8, (0, l8_h90)), (9, (0, l9_h90)), (10, (0, l10_h107)), (11, (0, 0))]) rfl ?_
                                                      refine r_hvI hX (fun w63 w63a w63b w63e => ?_)
                                                      refine r_ex hX hP 2 (pc' := 242) (st' := [(0, 0)]) (lo' := [(0, (2, (Ad E 1))), (1, (0, p)), (2, (0, sh)), (3, (0, day)), (4, (0, now)), (5, (0, has)), (6, (0, later)), (7, (0, l7_h90)), (8, (0, w63)), (9, (0, l9_h90)), (10, (0, l10_h107)), (11, (0, 0))]) rfl ?_
                                                      refine r_if_ne hX hP rfl (tgt := 259) rfl (by first | decide | omega) (by first | decide | omega) (fun c64 => ?_) (fun c64 => ?_)
                                                      · skip
                                                        exfalso; omega
                                                      · skip
                                                        refine r_ex hX hP 3 (pc' := 251) (st' := [(0, l7_h90), (0, l9_h90), (0, l9_h90)]) (lo' := [(0, (2, (Ad E 1))), (1, (0, p)), (2, (0, sh)), (3, (0, day)), (4, (0, now)), (5, (0, has)), (6, (0, later)), (7, (0, l7_h90)), (8, (0, w63)), (9, (0, l9_h90)), (10, (0, l10_h107)), (11, (0, 0))]) rfl ?_
                                                        refine r_ixor hX hP rfl (fun b65 b65a b65b b65e => ?_)
                                                        refine r_callS gd hX hP rfl cs_12_716 (d' := 0) (mc' := 0) (ms' := 0) (as' := [(0, b65)]) (st := [(0, l9_h90)]) (by first | decide | omega) (by first | decide | omega) (by first | decide | omega) rfl rfl (Nat.le_of_ble_eq_true rfl) (c_J6_lowestOneBit_0f7a4 E S (up (up G 1 (Ad E 1) 1 0) 1 (Ad E 1) 0 0) b65 (by first | decide | omega) (by first | decide | omega)) ?_
                                                        rintro _ _ _ ⟨rfl, rfl, z66, rfl, z66a, z66b⟩
                                                        refine r_iand hX hP rfl (fun b67 b67a b67b b67e => ?_)
                                                        refine r_if_eq hX hP rfl (tgt := 263) rfl (by first | decide | omega) (by first | decide | omega) (fun c68 => ?_) (fun c68 => ?_)
                                                        · skip
                                                          refine r_ex hX hP 2 (pc' := 90) (st' := []) (lo' := [(0, (2, (Ad E 1))), (1, (0, p)), (2, (0, sh)), (3, (0, day)), (4, (0, now)), (5, (0, has)), (6, (0, later)), (7, (0, l7_h90)), (8, (0, w63)), (9, (0, (l9_h90 + 1))), (10, (0, l10_h107)), (11, (0, 0))]) rfl ?_
                                                          refine r_pick hX [0, 1, 2, 3, 4, 5, 6, 7, 8, 9] (lo' := [(0, (2, (Ad E 1))), (1, (0, p)), (2, (0, sh)), (3, (0, day)), (4, (0, now)), (5, (0, has)), (6, (0, later)), (7, (0, l7_h90)), (8, (0, w63)), (9, (0, (l9_h90 + 1)))]) rfl ?_
                                                          exact ih90 l7_h90 w63 (l9_h90 + 1) (by first | decide | omega) (by first | decide | omega) (by first | decide | omega) (by first | decide | omega) (by first | decide | omega) (by first | decide | omega) (by first | decide | omega)
                                                        · skip
                                                          refine r_ex hX hP 4 (pc' := 90) (st' := []) (lo' := [(0, (2, (Ad E 1))), (1, (0, p)), (2, (0, sh)), (3, (0, day)), (4, (0, now)), (5, (0, has)), (6, (0, later)), (7, (0, l9_h90)), (8, (0, w63)), (9, (0, (l9_h90 + 1))), (10, (0, l10_h107)), (11, (0, 0))]) rfl ?_
                                                          refine r_pick hX [0, 1, 2, 3, 4, 5, 6, 7, 8, 9] (lo' := [(0, (2, (Ad E 1))), (1, (0, p)), (2, (0, sh)), (3, (0, day)), (4, (0, now)), (5, (0, has)), (6, (0, later)), (7, (0, l9_h90)), (8, (0, w63)), (9, (0, (l9_h90 + 1)))]) rfl ?_
                                                          exact ih90 l9_h90 w63 (l9_h90 + 1) (by first | decide | omega) (by first | decide | omega) (by first | decide | omega) (by first | decide | omega) (by first | decide | omega) (by first | decide | omega) (by first | decide | omega)
                                                    · skip
                                                      exfalso; omega
                                                  · skip
                                                    refine r_ex hX hP 4 (pc' := 227) (st' := [(0, 1)]) (lo' := [(0, (2, (Ad E 1))), (1, (0, p)), (2, (0, sh)), (3, (0, day)), (4, (0, now)), (5, (0, has)), (6, (0, later)), (7, (0, l7_h90)), (8, (0, l8_h90)), (9, (0, l9_h90)), (10, (0, l10_h107)), (11, (0, 1))]) rfl ?_
                                                    refine r_if_eq hX hP rfl (tgt := 234) rfl (by first | decide | omega) (by first | decide | omega) (fun c69 => ?_) (fun c69 => ?_)
                                                    · skip
                                                      exfalso; omega
                                                    · skip
                                                      refine r_ex hX hP 4 (pc' := 242) (st' := [(0, 1)]) (lo' := [(0, (2, (Ad E 1))), (1, (0, p)), (2, (0, sh)), (3, (0, day)), (4, (0, now)), (5, (0, has)), (6, (0, later)), (7, (0, l7_h90)), (8, (0, 1)), (9, (0, l9_h90)), (10, (0, l10_h107)), (11, (0, 1))]) rfl ?_
                                                      refine r_if_ne hX hP rfl (tgt := 259) rfl (by first | decide | omega) (by first | decide | omega) (fun c70 => ?_) (fun c70 => ?_)
                                                      · skip
                                                        refine r_ex hX hP 4 (pc' := 90) (st' := []) (lo' := [(0, (2, (Ad E 1))), (1, (0, p)), (2, (0, sh)), (3, (0, day)), (4, (0, now)), (5, (0, has)), (6, (0, later)), (7, (0, l9_h90)), (8, (0, 1)), (9, (0, (l9_h90 + 1))), (10, (0, l10_h107)), (11, (0, 1))]) rfl ?_
                                                        refine r_pick hX [0, 1, 2, 3, 4, 5, 6, 7, 8, 9] (lo' := [(0, (2, (Ad E 1))), (1, (0, p)), (2, (0, sh)), (3, (0, day)), (4, (0, now)), (5, (0, has)), (6, (0, later)), (7, (0, l9_h90)), (8, (0, 1)), (9, (0, (l9_h90 + 1)))]) rfl ?_
                                                        exact ih90 l9_h90 1 (l9_h90 + 1) (by first | decide | omega) (by first | decide | omega) (by first | decide | omega) (by first | decide | omega) (by first | decide | omega) (by first | decide | omega) (by first | decide | omega)
                                                      · skip
                                                        exfalso; omega
                                              · skip
                                                refine r_ex hX hP 3 (pc' := 90) (st' := []) (lo' := [(0, (2, (Ad E 1))), (1, (0, p)), (2, (0, sh)), (3, (0, day)), (4, (0, now)), (5, (0, has)), (6, (0, later)), (7, (0, l7_h90)), (8, (0, l8_h90)), (9, (0, (l9_h90 + 1))), (10, (0, l10_h107)), (11, (0, l11_h107))]) rfl ?_
                                                refine r_pick hX [0, 1, 2, 3, 4, 5, 6, 7, 8, 9] (lo' := [(0, (2, (Ad E 1))), (1, (0, p)), (2, (0, sh)), (3, (0, day)), (4, (0, now)), (5, (0, has)), (6, (0, later)), (7, (0, l7_h90)), (8, (0, l8_h90)), (9, (0, (l9_h90 + 1)))]) rfl ?_
                                                exact ih90 l7_h90 l8_h90 (l9_h90 + 1) (by first | decide | omega) (by first | decide | omega) (by first | decide | omega) (by first | decide | omega) (by first | decide | omega) (by first | decide | omega) (by first | decide | omega)
                                      · skip
                                        refine r_ex hX hP 1 (pc' := 118) (st' := [(0, l10_h107)]) (lo' := [(0, (2, (Ad E 1))), (1, (0, p)), (2, (0, sh)), (3, (0, day)), (4, (0, now)), (5, (0, has)), (6, (0, later)), (7, (0, l7_h90)), (8, (0, l8_h90)), (9, (0, l9_h90)), (10, (0, l10_h107)), (11, (0, l11_h107))]) rfl ?_
                                        refine r_if_eq hX hP rfl (tgt := 145) rfl (by first | decide | omega) (by first | decide | omega) (fun c71 => ?_) (fun c71 => ?_)
                                        · skip
                                          refine r_ex hX hP 4 (pc' := 107) (st' := []) (lo' := [(0, (2, (Ad E 1))), (1, (0, p)), (2, (0, sh)), (3, (0, day)), (4, (0, now)), (5, (0, has)), (6, (0, later)), (7, (0, l7_h90)), (8, (0, l8_h90)), (9, (0, l9_h90)), (10, (0, 0)), (11, (0, (l11_h107 + 1)))]) rfl ?_
                                          exact ih107 0 (l11_h107 + 1) (by first | decide | omega) (by first | decide | omega) (by first | decide | omega) (by first | decide | omega) (by first | decide | omega)
                                        · skip
                                          refine r_ex hX hP 2 (pc' := 125) (st' := [(0, l11_h107), (0, l9_h90)]) (lo' := [(0, (2, (Ad E 1))), (1, (0, p)), (2, (0, sh)), (3, (0, day)), (4, (0, now)), (5, (0, has)), (6, (0, later)), (7, (0, l7_h90)), (8, (0, l8_h90)), (9, (0, l9_h90)), (10, (0, l10_h107)), (11, (0, l11_h107))]) rfl ?_
                                          refine r_ishr hX hP rfl (fun b72 b72a b72b b72e => ?_)
                                          refine r_ex hX hP 1 (pc' := 127) (st' := [(0, 1), (0, b72)]) (lo' := [(0, (2, (Ad E 1))), (1, (0, p)), (2, (0, sh)), (3, (0, day)), (4, (0, now)), (5, (0, has)), (6, (0, later)), (7, (0, l7_h90)), (8, (0, l8_h90)), (9, (0, l9_h90)), (10, (0, l10_h107)), (11, (0, l11_h107))]) rfl ?_
                                          refine r_iand hX hP rfl (fun b73 b73a b73b b73e => ?_)
                                          have b73d := iand_bd b73a b73b b73e (by first | decide | omega) (by first | decide | omega)
                                          refine r_if_eq hX hP rfl (tgt := 141) rfl (by first | decide | omega) (by first | decide | omega) (fun c74 => ?_) (fun c74 => ?_)
                                          · skip
                                            refine r_ex hX hP 5 (pc' := 107) (st' := []) (lo' := [(0, (2, (Ad E 1))), (1, (0, p)), (2, (0, sh)), (3, (0, day)), (4, (0, now)), (5, (0, has)), (6, (0, later)), (7, (0, l7_h90)), (8, (0, l8_h90)), (9, (0, l9_h90)), (10, (0, 1)), (11, (0, (l11_h107 + 1)))]) rfl ?_
                                            exact ih107 1 (l11_h107 + 1) (by first | decide | omega) (by first | decide | omega) (by first | decide | omega) (by first | decide | omega) (by first | decide | omega)
                                          · skip
                                            refine r_ex hX hP 1 (pc' := 132) (st' := [(2, (Ad E 1))]) (lo' := [(0, (2, (Ad E 1))), (1, (0, p)), (2, (0, sh)), (3, (0, day)), (4, (0, now)), (5, (0, has)), (6, (0, later)), (7, (0, l7_h90)), (8, (0, l8_h90)), (9, (0, l9_h90)), (10, (0, l10_h107)), (11, (0, l11_h107))]) rfl ?_
                                            refine r_getC hX hP rfl fl_12_194 hS (fun s75 => ?_)
                                            refine r_ex hX hP 1 (pc' := 137) (st' := [(0, l11_h107), (2, (Ad E 60))]) (lo' := [(0, (2, (Ad E 1))), (1, (0, p)), (2, (0, sh)), (3, (0, day)), (4, (0, now)), (5, (0, has)), (6, (0, later)), (7, (0, l7_h90)), (8, (0, l8_h90)), (9, (0, l9_h90)), (10, (0, l10_h107)), (11, (0, l11_h107))]) rfl ?_
                                            refine r_zald hX hP rfl al_60 s75 (by first | decide | omega) (by first | decide | omega) (fun x76 x76e x76a x76b => ?_)
                                            refine r_if_ne hX hP rfl (tgt := 145) rfl (by first | decide | omega) (by first | decide | omega) (fun c77 => ?_) (fun c77 => ?_)
                                            · skip
                                              refine r_ex hX hP 4 (pc' := 107) (st' := []) (lo' := [(0, (2, (Ad E 1))), (1, (0, p)), (2, (0, sh)), (3, (0, day)), (4, (0, now)), (5, (0, has)), (6, (0, later)), (7, (0, l7_h90)), (8, (0, l8_h90)), (9, (0, l9_h90)), (10, (0, 0)), (11, (0, (l11_h107 + 1)))]) rfl ?_
                                              exact ih107 0 (l11_h107 + 1) (by first | decide | omega) (by first | decide | omega) (by first | decide | omega) (by first | decide | omega) (by first | decide | omega)
                                            · skip
                                              refine r_ex hX hP 5 (pc' := 107) (st' := []) (lo' := [(0, (2, (Ad E 1))), (1, (0, p)), (2, (0, sh)), (3, (0, day)), (4, (0, now)), (5, (0, has)), (6, (0, later)), (7, (0, l7_h90)), (8, (0, l8_h90)), (9, (0, l9_h90)), (10, (0, 1)), (11, (0, (l11_h107 + 1)))]) rfl ?_
                                              exact ih107 1 (l11_h107 + 1) (by first | decide | omega) (by first | decide | omega) (by first | decide | omega) (by first | decide | omega) (by first | decide | omega)
                                  exact loop107 ((12 - 0) + 1 : Int).toNat 1 0 (by first | decide | omega) (by first | decide | omega) (by first | decide | omega) (by first | decide | omega) (by first | decide | omega)
                            exact loop90 ((2147483647 - 0) + 1 : Int).toNat (-1) 0 0 (by first | decide | omega) (by first | decide | omega) (by first | decide | omega) (by first | decide | omega) (by first | decide | omega) (by first | decide | omega) (by first | decide | omega)
                          · skip
                            refine r_ex hX hP 2 (pc' := 77) (st' := [(0, 2), (2, (Ad E 1))]) (lo' := [(0, (2, (Ad E 1))), (1, (0, p)), (2, (0, sh)), (3, (0, day)), (4, (0, now)), (5, (0, has)), (6, (0, later))]) rfl ?_
                            refine r_callV gd hX hP rfl cv_12_327 hS (d' := 0) (mc' := 0) (ms' := 0) (as' := [(0, 2)]) (st := []) (by first | decide | omega) (by first | decide | omega) (by first | decide | omega) rfl rfl (Nat.le_of_ble_eq_true rfl) (c_X12_refuse E S (up (up G 1 (Ad E 1) 1 0) 1 (Ad E 1) 0 0) 2 hS (by first | decide | omega) (by first | decide | omega)) ?_
                            rintro _ _ _ ⟨rfl, ⟨G78, rfl⟩, z79, rfl, rfl⟩
                            exact r_retI hX hP rfl rfl (by first | decide | omega) (by first | decide | omega) ⟨rfl, ⟨_, (hq_call (hq_up (hq_up (hq_refl _ _ _) rfl) rfl) rfl).symm⟩, (-1), rfl, (by first | decide | omega)⟩
                      · skip
                        refine r_if_eq hX hP rfl (tgt := 75) rfl (by first | decide | omega) (by first | decide | omega) (fun c80 => ?_) (fun c80 => ?_)
                        · skip
                          refine r_ex hX hP 2 (pc' := 77) (st' := [(0, 2), (2, (Ad E 1))]) (lo' := [(0, (2, (Ad E 1))), (1, (0, p)), (2, (0, sh)), (3, (0, day)), (4, (0, now)), (5, (0, has)), (6, (0, later))]) rfl ?_
                          refine r_callV gd hX hP rfl cv_12_327 hS (d' := 0) (mc' := 0) (ms' := 0) (as' := [(0, 2)]) (st := []) (by first | decide | omega) (by first | decide | omega) (by first | decide | omega) rfl rfl (Nat.le_of_ble_eq_true rfl) (c_X12_refuse E S (up (up G 1 (Ad E 1) 1 0) 1 (Ad E 1) 0 0) 2 hS (by first | decide | omega) (by first | decide | omega)) ?_
                          rintro _ _ _ ⟨rfl, ⟨G81, rfl⟩, z82, rfl, rfl⟩
                          exact r_retI hX hP rfl rfl (by first | decide | omega) (by first | decide | omega) ⟨rfl, ⟨_, (hq_call (hq_up (hq_up (hq_refl _ _ _) rfl) rfl) rfl).symm⟩, (-1), rfl, (by first | decide | omega)⟩
                        · skip
                          exfalso; omega
                  · skip
                    refine r_if_eq hX hP rfl (tgt := 75) rfl (by first | decide | omega) (by first | decide | omega) (fun c83 => ?_) (fun c83 => ?_)
                    · skip
                      refine r_ex hX hP 2 (pc' := 77) (st' := [(0, 2), (2, (Ad E 1))]) (lo' := [(0, (2, (Ad E 1))), (1, (0, p)), (2, (0, sh)), (3, (0, day)), (4, (0, now)), (5, (0, has)), (6, (0, later))]) rfl ?_
                      refine r_callV gd hX hP rfl cv_12_327 hS (d' := 0) (mc' := 0) (ms' := 0) (as' := [(0, 2)]) (st := []) (by first | decide | omega) (by first | decide | omega) (by first | decide | omega) rfl rfl (Nat.le_of_ble_eq_true rfl) (c_X12_refuse E S (up (up G 1 (Ad E 1) 1 0) 1 (Ad E 1) 0 0) 2 hS (by first | decide | omega) (by first | decide | omega)) ?_
                      rintro _ _ _ ⟨rfl, ⟨G84, rfl⟩, z85, rfl, rfl⟩
                      exact r_retI hX hP rfl rfl (by first | decide | omega) (by first | decide | omega) ⟨rfl, ⟨_, (hq_call (hq_up (hq_up (hq_refl _ _ _) rfl) rfl) rfl).symm⟩, (-1), rfl, (by first | decide | omega)⟩
                    · skip
                      exfalso; omega
              · skip
                refine r_if_eq hX hP rfl (tgt := 75) rfl (by first | decide | omega) (by first | decide | omega) (fun c86 => ?_) (fun c86 => ?_)
                · skip
                  refine r_ex hX hP 2 (pc' := 77) (st' := [(0, 2), (2, (Ad E 1))]) (lo' := [(0, (2, (Ad E 1))), (1, (0, p)), (2, (0, sh)), (3, (0, day)), (4, (0, now)), (5, (0, has)), (6, (0, later))]) rfl ?_
                  refine r_callV gd hX hP rfl cv_12_327 hS (d' := 0) (mc' := 0) (ms' := 0) (as' := [(0, 2)]) (st := []) (by first | decide | omega) (by first | decide | omega) (by first | decide | omega) rfl rfl (Nat.le_of_ble_eq_true rfl) (c_X12_refuse E S (up (up G 1 (Ad E 1) 1 0) 1 (Ad E 1) 0 0) 2 hS (by first | decide | omega) (by first | decide | omega)) ?_
                  rintro _ _ _ ⟨rfl, ⟨G87, rfl⟩, z88, rfl, rfl⟩
                  exact r_retI hX hP rfl rfl (by first | decide | omega) (by first | decide | omega) ⟨rfl, ⟨_, (hq_call (hq_up (hq_up (hq_refl _ _ _) rfl) rfl) rfl).symm⟩, (-1), rfl, (by first | decide | omega)⟩
                · skip
                  exfalso; omega
          · skip
            refine r_if_eq hX hP rfl (tgt := 75) rfl (by first | decide | omega) (by first | decide | omega) (fun c89 => ?_) (fun c89 => ?_)
            · skip
              refine r_ex hX hP 2 (pc' := 77) (st' := [(0, 2), (2, (Ad E 1))]) (lo' := [(0, (2, (Ad E 1))), (1, (0, p)), (2, (0, sh)), (3, (0, day)), (4, (0, now)), (5, (0, has)), (6, (0, later))]) rfl ?_
              refine r_callV gd hX hP rfl cv_12_327 hS (d' := 0) (mc' := 0) (ms' := 0) (as' := [(0, 2)]) (st := []) (by first | decide | omega) (by first | decide | omega) (by first | decide | omega) rfl rfl (Nat.le_of_ble_eq_true rfl) (c_X12_refuse E S (up (up G 1 (Ad E 1) 1 0) 1 (Ad E 1) 0 0) 2 hS (by first | decide | omega) (by first | decide | omega)) ?_
              rintro _ _ _ ⟨rfl, ⟨G90, rfl⟩, z91, rfl, rfl⟩
              exact r_retI hX hP rfl rfl (by first | decide | omega) (by first | decide | omega) ⟨rfl, ⟨_, (hq_call (hq_up (hq_up (hq_refl _ _ _) rfl) rfl) rfl).symm⟩, (-1), rfl, (by first | decide | omega)⟩
            · skip
              exfalso; omega
        · skip
          exfalso; omega
      · skip
        refine r_if_ne hX hP rfl (tgt := 31) rfl (by first | decide | omega) (by first | decide | omega) (fun c92 => ?_) (fun c92 => ?_)
        · skip
          exfalso; omega
        · skip
          refine r_ex hX hP 2 (pc' := 27) (st' := [(0, 1), (2, (Ad E 1))]) (lo' := [(0, (2, (Ad E 1))), (1, (0, p)), (2, (0, sh)), (3, (0, day)), (4, (0, now)), (5, (0, has)), (6, (0, later))]) rfl ?_
          refine r_callV gd hX hP rfl cv_12_327 hS (d' := 0) (mc' := 0) (ms' := 0) (as' := [(0, 1)]) (st := []) (by first | decide | omega) (by first | decide | omega) (by first | decide | omega) rfl rfl (Nat.le_of_ble_eq_true rfl) (c_X12_refuse E S (up (up G 1 (Ad E 1) 1 0) 1 (Ad E 1) 0 0) 1 hS (by first | decide | omega) (by first | decide | omega)) ?_
          rintro _ _ _ ⟨rfl, ⟨G93, rfl⟩, z94, rfl, rfl⟩
          exact r_retI hX hP rfl rfl (by first | decide | omega) (by first | decide | omega) ⟨rfl, ⟨_, (hq_call (hq_up (hq_up (hq_refl _ _ _) rfl) rfl) rfl).symm⟩, (-1), rfl, (by first | decide | omega)⟩
  · skip
    refine r_if_eq hX hP rfl (tgt := 25) rfl (by first | decide | omega) (by first | decide | omega) (fun c95 => ?_) (fun c95 => ?_)
    · skip
      refine r_ex hX hP 2 (pc' := 27) (st' := [(0, 1), (2, (Ad E 1))]) (lo' := [(0, (2, (Ad E 1))), (1, (0, p)), (2, (0, sh)), (3, (0, day)), (4, (0, now)), (5, (0, has)), (6, (0, later))]) rfl ?_
      refine r_callV gd hX hP rfl cv_12_327 hS (d' := 0) (mc' := 0) (ms' := 0) (as' := [(0, 1)]) (st := []) (by first | decide | omega) (by first | decide | omega) (by first | decide | omega) rfl rfl (Nat.le_of_ble_eq_true rfl) (c_X12_refuse E S (up (up G 1 (Ad E 1) 1 0) 1 (Ad E 1) 0 0) 1 hS (by first | decide | omega) (by first | decide | omega)) ?_
      rintro _ _ _ ⟨rfl, ⟨G96, rfl⟩, z97, rfl, rfl⟩
      exact r_retI hX hP rfl rfl (by first | decide | omega) (by first | decide | omega) ⟨rfl, ⟨_, (hq_call (hq_up (hq_up (hq_refl _ _ _) rfl) rfl) rfl).symm⟩, (-1), rfl, (by first | decide | omega)⟩
    · skip
      exfalso; omega
