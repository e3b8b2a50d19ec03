set_option maxRecDepth 100000 in
set_option maxHeartbeats 4000000 in
theorem c_J6_bitCount_0f7a4 (E : En) (S : Sg) (G : Gh) (a : Int) (a_a : (-2147483648) ≤ a) (a_b : a ≤ 2147483647) : Calls E mJ6_bitCount_0f7a4 [(0, a)] S G 0 0 0 (fun r S' G' => S = S' ∧ G = G' ∧ ∃ z : Int, r = some (0, z) ∧ (-2147483648) ≤ z ∧ z ≤ 2147483647) := by
  refine calls_by [(0, (0, a))] rfl rfl (Nat.le_of_ble_eq_true rfl) (fun X hX => ?_)
  have hP := hPJ6_bitCount_0f7a4
  refine r_ex hX hP 3 (pc' := 3) (st' := [(0, 1), (0, a), (0, a)]) (lo' := [(0, (0, a))]) rfl ?_
  refine r_iushr hX hP rfl (fun b1 b1a b1b b1e => ?_)
  refine r_ldcw hX hP rfl (v := 1431655765) (tbg sg7 104 rfl rfl) ?_
  refine r_iand hX hP rfl (fun b2 b2a b2b b2e => ?_)
  have b2d := iand_bd b2a b2b b2e (by first | decide | omega) (by first | decide | omega)
  refine r_ex hX hP 1 (pc' := 9) (st' := [(0, (a - b2))]) (lo' := [(0, (0, a))]) rfl ?_
  refine r_hvI hX (fun w3 w3a w3b w3e => ?_)
  refine r_ex hX hP 2 (pc' := 11) (st' := [(0, w3)]) (lo' := [(0, (0, w3))]) rfl ?_
  refine r_ldcw hX hP rfl (v := 858993459) (tbg sg7 105 rfl rfl) ?_
  refine r_iand hX hP rfl (fun b4 b4a b4b b4e => ?_)
  have b4d := iand_bd b4a b4b b4e (by first | decide | omega) (by first | decide | omega)
  refine r_ex hX hP 2 (pc' := 17) (st' := [(0, 2), (0, w3), (0, b4)]) (lo' := [(0, (0, w3))]) rfl ?_
  refine r_iushr hX hP rfl (fun b5 b5a b5b b5e => ?_)
  refine r_ldcw hX hP rfl (v := 858993459) (tbg sg7 105 rfl rfl) ?_
  refine r_iand hX hP rfl (fun b6 b6a b6b b6e => ?_)
  have b6d := iand_bd b6a b6b b6e (by first | decide | omega) (by first | decide | omega)
  refine r_ex hX hP 5 (pc' := 27) (st' := [(0, 4), (0, (b4 + b6)), (0, (b4 + b6))]) (lo' := [(0, (0, (b4 + b6)))]) rfl ?_
  refine r_iushr hX hP rfl (fun b7 b7a b7b b7e => ?_)
  refine r_ex hX hP 1 (pc' := 29) (st' := [(0, ((b4 + b6) + b7))]) (lo' := [(0, (0, (b4 + b6)))]) rfl ?_
  refine r_hvI hX (fun w8 w8a w8b w8e => ?_)
  refine r_ldcw hX hP rfl (v := 252645135) (tbg sg7 106 rfl rfl) ?_
  refine r_iand hX hP rfl (fun b9 b9a b9b b9e => ?_)
  have b9d := iand_bd b9a b9b b9e (by first | decide | omega) (by first | decide | omega)
  refine r_ex hX hP 4 (pc' := 38) (st' := [(0, 8), (0, b9), (0, b9)]) (lo' := [(0, (0, b9))]) rfl ?_
  refine r_iushr hX hP rfl (fun b10 b10a b10b b10e => ?_)
  refine r_ex hX hP 1 (pc' := 40) (st' := [(0, (b9 + b10))]) (lo' := [(0, (0, b9))]) rfl ?_
  refine r_hvI hX (fun w11 w11a w11b w11e => ?_)
  refine r_ex hX hP 4 (pc' := 45) (st' := [(0, 16), (0, w11), (0, w11)]) (lo' := [(0, (0, w11))]) rfl ?_
  refine r_iushr hX hP rfl (fun b12 b12a b12b b12e => ?_)
  refine r_ex hX hP 1 (pc' := 47) (st' := [(0, (w11 + b12))]) (lo' := [(0, (0, w11))]) rfl ?_
  refine r_hvI hX (fun w13 w13a w13b w13e => ?_)
  refine r_ex hX hP 3 (pc' := 51) (st' := [(0, 63), (0, w13)]) (lo' := [(0, (0, w13))]) rfl ?_
  refine r_iand hX hP rfl (fun b14 b14a b14b b14e => ?_)
  have b14d := iand_bd b14a b14b b14e (by first | decide | omega) (by first | decide | omega)
  exact r_retI hX hP rfl rfl (by first | decide | omega) (by first | decide | omega) ⟨rfl, rfl, b14, rfl, (by first | decide | omega)⟩
set_option maxRecDepth 100000 in
set_option maxHeartbeats 4000000 in
theorem c_J6_lowestOneBit_0f7a4 (E : En) (S : Sg) (G : Gh) (a : Int) (a_a : (-2147483648) ≤ a) (a_b : a ≤ 2147483647) : Calls E mJ6_lowestOneBit_0f7a4 [(0, a)] S G 0 0 0 (fun r S' G' => S = S' ∧ G = G' ∧ ∃ z : Int, r = some (0, z) ∧ (-2147483648) ≤ z ∧ z ≤ 2147483647) := by
  refine calls_by [(0, (0, a))] rfl rfl (Nat.le_of_ble_eq_true rfl) (fun X hX => ?_)
  have hP := hPJ6_lowestOneBit_0f7a4
  refine r_ex hX hP 3 (pc' := 3) (st' := [(0, (-a)), (0, a)]) (lo' := [(0, (0, a))]) rfl ?_
  refine r_hvI hX (fun w1 w1a w1b w1e => ?_)
  refine r_iand hX hP rfl (fun b2 b2a b2b b2e => ?_)
  exact r_retI hX hP rfl rfl (by first | decide | omega) (by first | decide | omega) ⟨rfl, rfl, b2, rfl, (by first | decide | omega)⟩
set_option maxRecDepth 100000 in
set_option maxHeartbeats 4000000 in
theorem c_X12_because (E : En) (S : Sg) (G : Gh) (k : Int) (hS : S (Ad E 1) = 1) (k_a : (-2147483648) ≤ k) (k_b : k ≤ 2147483647) : Calls E mX12_because [(2, (Ad E 1)), (0, k)] S G 1 0 0 (fun r S' G' => S = S' ∧ (∃ G1, hv [0, 1] [] G G1 = G') ∧ ∃ z : Int, r = some (0, z) ∧ (-2147483648) ≤ z ∧ z ≤ 2147483647) := by
  refine calls_by [(0, (2, (Ad E 1))), (1, (0, k))] rfl rfl (Nat.le_of_ble_eq_true rfl) (fun X hX => ?_)
  have hP := hPX12_because
  refine r_ex hX hP 2 (pc' := 2) (st' := [(0, 0), (2, (Ad E 1))]) (lo' := [(0, (2, (Ad E 1))), (1, (0, k))]) rfl ?_
  refine r_putIK hX hP rfl fp_12_304 hS (by first | decide | omega) (by first | decide | omega) (fun h1 => ?_)
  refine r_ex hX hP 2 (pc' := 7) (st' := [(0, 0), (2, (Ad E 1))]) (lo' := [(0, (2, (Ad E 1))), (1, (0, k))]) rfl ?_
  refine r_putIK hX hP rfl fp_12_307 hS (by first | decide | omega) (by first | decide | omega) (fun h2 => ?_)
  refine r_ex hX hP 4 (pc' := 14) (st' := []) (lo' := [(0, (2, (Ad E 1))), (1, (0, k)), (2, (0, 0)), (3, (0, 0))]) rfl ?_
  have x57 : ∀ (l2_x57 l3_x57 : Int), 0 ≤ l2_x57 → l2_x57 ≤ 12 → 0 ≤ l3_x57 → l3_x57 ≤ 12 → l2_x57 ≤ l3_x57 → X 0 0 57 [] [(0, (2, (Ad E 1))), (1, (0, k)), (2, (0, l2_x57)), (3, (0, l3_x57))] S (up (up G 1 (Ad E 1) 1 0) 1 (Ad E 1) 0 0) := by
    intro l2_x57 l3_x57 yx57_0 yx57_1 yx57_2 yx57_3 yx57_4
    refine r_ex hX hP 2 (pc' := 59) (st' := [(0, 5), (2, (Ad E 1))]) (lo' := [(0, (2, (Ad E 1))), (1, (0, k)), (2, (0, l2_x57)), (3, (0, l3_x57))]) rfl ?_
    refine r_callV gd hX hP rfl cv_12_327 hS (d' := 0) (mc' := 0) (ms' := 0) (as' := [(0, 5)]) (st := []) (by first | decide | omega) (by first | decide | omega) (by first | decide | omega) rfl rfl (Nat.le_of_ble_eq_true rfl) (c_X12_refuse E S (up (up G 1 (Ad E 1) 1 0) 1 (Ad E 1) 0 0) 5 hS (by first | decide | omega) (by first | decide | omega)) ?_
    rintro _ _ _ ⟨rfl, ⟨G3, rfl⟩, z4, rfl, rfl⟩
    exact r_retI hX hP rfl rfl (by first | decide | omega) (by first | decide | omega) ⟨rfl, ⟨_, (hq_call (hq_up (hq_up (hq_refl _ _ _) rfl) rfl) rfl).symm⟩, (-1), rfl, (by first | decide | omega)⟩
  have loop14 : ∀ (nF : Nat) (l2_h14 l3_h14 : Int), 0 ≤ l2_h14 → l2_h14 ≤ 12 → 0 ≤ l3_h14 → l3_h14 ≤ 12 → l2_h14 ≤ l3_h14 → 12 - l3_h14 < (nF : Int) → X 0 0 14 [] [(0, (2, (Ad E 1))), (1, (0, k)), (2, (0, l2_h14)), (3, (0, l3_h14))] S (up (up G 1 (Ad E 1) 1 0) 1 (Ad E 1) 0 0) := by
    intro nF
    induction nF with
    | zero => intro l2_h14 l3_h14 yh14_0 yh14_1 yh14_2 yh14_3 yh14_4 ym14; exfalso; omega
    | succ nF ih14 =>
      intro l2_h14 l3_h14 yh14_0 yh14_1 yh14_2 yh14_3 yh14_4 ym14
      refine r_ex hX hP 2 (pc' := 17) (st' := [(0, 12), (0, l3_h14)]) (lo' := [(0, (2, (Ad E 1))), (1, (0, k)), (2, (0, l2_h14)), (3, (0, l3_h14))]) rfl ?_
      refine r_ic_ge hX hP rfl (tgt := 57) rfl (by first | decide | omega) (by first | decide | omega) (by first | decide | omega) (by first | decide | omega) (fun c5 => ?_) (fun c5 => ?_)
      · skip
        exact x57 l2_h14 l3_h14 (by first | decide | omega) (by first | decide | omega) (by first | decide | omega) (by first | decide | omega) (by first | decide | omega)
      · skip
        refine r_ex hX hP 1 (pc' := 21) (st' := [(2, (Ad E 1))]) (lo' := [(0, (2, (Ad E 1))), (1, (0, k)), (2, (0, l2_h14)), (3, (0, l3_h14))]) rfl ?_
        refine r_getI hX hP rfl fl_12_197 hS (fun bf6 bf6e bf6a bf6b => ?_)
        refine r_if_lt hX hP rfl (tgt := 57) rfl (by first | decide | omega) (by first | decide | omega) (fun c7 => ?_) (fun c7 => ?_)
        · skip
          exact x57 l2_h14 l3_h14 (by first | decide | omega) (by first | decide | omega) (by first | decide | omega) (by first | decide | omega) (by first | decide | omega)
        · skip
          refine r_ex hX hP 1 (pc' := 28) (st' := [(2, (Ad E 1))]) (lo' := [(0, (2, (Ad E 1))), (1, (0, k)), (2, (0, l2_h14)), (3, (0, l3_h14))]) rfl ?_
          refine r_getKI hX hP rfl fl_12_197 hS (x := bf6) bf6e ?_
          refine r_ex hX hP 1 (pc' := 32) (st' := [(0, l3_h14), (0, bf6)]) (lo' := [(0, (2, (Ad E 1))), (1, (0, k)), (2, (0, l2_h14)), (3, (0, l3_h14))]) rfl ?_
          refine r_ishr hX hP rfl (fun b8 b8a b8b b8e => ?_)
          refine r_ex hX hP 1 (pc' := 34) (st' := [(0, 1), (0, b8)]) (lo' := [(0, (2, (Ad E 1))), (1, (0, k)), (2, (0, l2_h14)), (3, (0, l3_h14))]) rfl ?_
          refine r_iand hX hP rfl (fun b9 b9a b9b b9e => ?_)
          have b9d := iand_bd b9a b9b b9e (by first | decide | omega) (by first | decide | omega)
          refine r_if_ne hX hP rfl (tgt := 41) rfl (by first | decide | omega) (by first | decide | omega) (fun c10 => ?_) (fun c10 => ?_)
          · skip
            refine r_ex hX hP 2 (pc' := 43) (st' := [(0, k), (0, l2_h14)]) (lo' := [(0, (2, (Ad E 1))), (1, (0, k)), (2, (0, l2_h14)), (3, (0, l3_h14))]) rfl ?_
            refine r_ic_ne hX hP rfl (tgt := 48) rfl (by first | decide | omega) (by first | decide | omega) (by first | decide | omega) (by first | decide | omega) (fun c11 => ?_) (fun c11 => ?_)
            · skip
              refine r_ex hX hP 3 (pc' := 14) (st' := []) (lo' := [(0, (2, (Ad E 1))), (1, (0, k)), (2, (0, (l2_h14 + 1))), (3, (0, (l3_h14 + 1)))]) rfl ?_
              exact ih14 (l2_h14 + 1) (l3_h14 + 1) (by first | decide | omega) (by first | decide | omega) (by first | decide | omega) (by first | decide | omega) (by first | decide | omega) (by first | decide | omega)
            · skip
              refine r_ex hX hP 1 (pc' := 47) (st' := [(0, l3_h14)]) (lo' := [(0, (2, (Ad E 1))), (1, (0, k)), (2, (0, l2_h14)), (3, (0, l3_h14))]) rfl ?_
              exact r_retI hX hP rfl rfl (by first | decide | omega) (by first | decide | omega) ⟨rfl, ⟨_, (hq_up (hq_up (hq_refl _ _ _) rfl) rfl).symm⟩, l3_h14, rfl, (by first | decide | omega)⟩
          · skip
            refine r_ex hX hP 3 (pc' := 14) (st' := []) (lo' := [(0, (2, (Ad E 1))), (1, (0, k)), (2, (0, l2_h14)), (3, (0, (l3_h14 + 1)))]) rfl ?_
            exact ih14 l2_h14 (l3_h14 + 1) (by first | decide | omega) (by first | decide | omega) (by first | decide | omega) (by first | decide | omega) (by first | decide | omega) (by first | decide | omega)
  exact loop14 ((12 - 0) + 1 : Int).toNat 0 0 (by first | decide | omega) (by first | decide | omega) (by first | decide | omega) (by first | decide | omega) (by first | decide | omega) (by first | decide | omega)
set_option maxRecDepth 100000 in
set_option maxHeartbeats 4000000 in
theorem c_X12_daysUp (E : En) (S : Sg) (G : Gh) (a : Int) (hS : S (Ad E 1) = 1) (accounts : Int) (accounts_e : accounts = G 1 (Ad E 1) 6) (a_a : 0 ≤ a) (a_b : a ≤ 19) (pre0 : a < accounts) (mi : MI E G) : Calls E mX12_daysUp [(2, (Ad E 1)), (0, a)] S G 0 0 0 (fun r S' G' => S = S' ∧ G = G' ∧ ∃ z : Int, r = some (0, z) ∧ (-2147483648) ≤ z ∧ z ≤ 2147483647) := by
  refine calls_by [(0, (2, (Ad E 1))), (1, (0, a))] rfl rfl (Nat.le_of_ble_eq_true rfl) (fun X hX => ?_)
  have hP := hPX12_daysUp
  refine r_peekI hX (tl1 6 rfl (by decide)) hS (fun accounts_o accounts_oe accounts_oa accounts_ob => ?_)
  obtain rfl : accounts = accounts_o := accounts_e.trans accounts_oe.symm
  refine r_ex hX hP 1 (pc' := 1) (st' := [(2, (Ad E 1))]) (lo' := [(0, (2, (Ad E 1))), (1, (0, a))]) rfl ?_
  refine r_getC hX hP rfl fl_12_18 hS (fun s1 => ?_)
  refine r_ex hX hP 1 (pc' := 5) (st' := [(0, a), (2, (Ad E 2))]) (lo' := [(0, (2, (Ad E 1))), (1, (0, a))]) rfl ?_
  refine r_iald hX hP rfl al_2 s1 (by first | decide | omega) (by first | decide | omega) (fun x2 x2e x2a x2b => ?_)
  have x2m := mi_hand mi accounts_e x2e (by first | decide | omega) (by first | decide | omega)
  refine r_if_ge hX hP rfl (tgt := 18) rfl (by first | decide | omega) (by first | decide | omega) (fun c3 => ?_) (fun c3 => ?_)
  · skip
    refine r_ex hX hP 3 (pc' := 21) (st' := [(2, (Ad E 1))]) (lo' := [(0, (2, (Ad E 1))), (1, (0, a)), (2, (0, 0))]) rfl ?_
    refine r_getC hX hP rfl fl_12_18 hS (fun _ => ?_)
    refine r_ex hX hP 1 (pc' := 25) (st' := [(0, a), (2, (Ad E 2))]) (lo' := [(0, (2, (Ad E 1))), (1, (0, a)), (2, (0, 0))]) rfl ?_
    refine r_ialdK hX hP rfl al_2 s1 (by first | decide | omega) (by first | decide | omega) (x := x2) x2e ?_
    refine r_ex hX hP 1 (pc' := 27) (st' := []) (lo' := [(0, (2, (Ad E 1))), (1, (0, a)), (2, (0, 0)), (3, (0, x2))]) rfl ?_
    have loop27 : ∀ (nF : Nat) (l2_h27 l3_h27 : Int), (-2147483648) ≤ l2_h27 → l2_h27 ≤ 2147483647 → (-1) ≤ l3_h27 → l3_h27 ≤ 19 → l3_h27 < accounts → l3_h27 + 1 < (nF : Int) → X 0 0 27 [] [(0, (2, (Ad E 1))), (1, (0, a)), (2, (0, l2_h27)), (3, (0, l3_h27))] S G := by
      intro nF
      induction nF with
      | zero => intro l2_h27 l3_h27 yh27_0 yh27_1 yh27_2 yh27_3 yh27_4 ym27; exfalso; omega
      | succ nF ih27 =>
        intro l2_h27 l3_h27 yh27_0 yh27_1 yh27_2 yh27_3 yh27_4 ym27
        refine r_ex hX hP 1 (pc' := 28) (st' := [(0, l3_h27)]) (lo' := [(0, (2, (Ad E 1))), (1, (0, a)), (2, (0, l2_h27)), (3, (0, l3_h27))]) rfl ?_
        refine r_if_lt hX hP rfl (tgt := 50) rfl (by first | decide | omega) (by first | decide | omega) (fun c4 => ?_) (fun c4 => ?_)
        · skip
          refine r_ex hX hP 1 (pc' := 51) (st' := [(0, l2_h27)]) (lo' := [(0, (2, (Ad E 1))), (1, (0, a)), (2, (0, l2_h27)), (3, (0, l3_h27))]) rfl ?_
          exact r_retI hX hP rfl rfl (by first | decide | omega) (by first | decide | omega) ⟨rfl, rfl, l2_h27, rfl, (by first | decide | omega)⟩
        · skip
          refine r_ex hX hP 2 (pc' := 33) (st' := [(2, (Ad E 1)), (0, l2_h27)]) (lo' := [(0, (2, (Ad E 1))), (1, (0, a)), (2, (0, l2_h27)), (3, (0, l3_h27))]) rfl ?_
          refine r_getC hX hP rfl fl_12_25 hS (fun s5 => ?_)
          refine r_ex hX hP 1 (pc' := 37) (st' := [(0, l3_h27), (2, (Ad E 4)), (0, l2_h27)]) (lo' := [(0, (2, (Ad E 1))), (1, (0, a)), (2, (0, l2_h27)), (3, (0, l3_h27))]) rfl ?_
          refine r_iald hX hP rfl al_4 s5 (by first | decide | omega) (by first | decide | omega) (fun x6 x6e x6a x6b => ?_)
          refine r_ex hX hP 1 (pc' := 39) (st' := [(0, (l2_h27 + x6))]) (lo' := [(0, (2, (Ad E 1))), (1, (0, a)), (2, (0, l2_h27)), (3, (0, l3_h27))]) rfl ?_
          refine r_hvI hX (fun w7 w7a w7b w7e => ?_)
          refine r_ex hX hP 2 (pc' := 41) (st' := [(2, (Ad E 1))]) (lo' := [(0, (2, (Ad E 1))), (1, (0, a)), (2, (0, w7)), (3, (0, l3_h27))]) rfl ?_
          refine r_getC hX hP rfl fl_12_18 hS (fun _ => ?_)
          refine r_ex hX hP 1 (pc' := 45) (st' := [(0, l3_h27), (2, (Ad E 2))]) (lo' := [(0, (2, (Ad E 1))), (1, (0, a)), (2, (0, w7)), (3, (0, l3_h27))]) rfl ?_
          refine r_iald hX hP rfl al_2 s1 (by first | decide | omega) (by first | decide | omega) (fun x8 x8e x8a x8b => ?_)
          have x8m := mi_hand mi accounts_e x8e (by first | decide | omega) (by first | decide | omega)
          refine r_ex hX hP 2 (pc' := 27) (st' := []) (lo' := [(0, (2, (Ad E 1))), (1, (0, a)), (2, (0, w7)), (3, (0, x8))]) rfl ?_
          exact ih27 w7 x8 (by first | decide | omega) (by first | decide | omega) (by first | decide | omega) (by first | decide | omega) (by first | decide | omega) (by first | decide | omega)
    exact loop27 ((x2 + 1) + 1 : Int).toNat 0 x2 (by first | decide | omega) (by first | decide | omega) (by first | decide | omega) (by first | decide | omega) (by first | decide | omega) (by first | decide | omega)
  · skip
    refine r_ex hX hP 1 (pc' := 10) (st' := [(2, (Ad E 1))]) (lo' := [(0, (2, (Ad E 1))), (1, (0, a))]) rfl ?_
    refine r_getC hX hP rfl fl_12_25 hS (fun s9 => ?_)
    refine r_ex hX hP 1 (pc' := 14) (st' := [(0, a), (2, (Ad E 4))]) (lo' := [(0, (2, (Ad E 1))), (1, (0, a))]) rfl ?_
    refine r_iald hX hP rfl al_4 s9 (by first | decide | omega) (by first | decide | omega) (fun x10 x10e x10a x10b => ?_)
    refine r_ex hX hP 3 (pc' := 21) (st' := [(2, (Ad E 1))]) (lo' := [(0, (2, (Ad E 1))), (1, (0, a)), (2, (0, x10))]) rfl ?_
    refine r_getC hX hP rfl fl_12_18 hS (fun _ => ?_)
    refine r_ex hX hP 1 (pc' := 25) (st' := [(0, a), (2, (Ad E 2))]) (lo' := [(0, (2, (Ad E 1))), (1, (0, a)), (2, (0, x10))]) rfl ?_
    refine r_ialdK hX hP rfl al_2 s1 (by first | decide | omega) (by first | decide | omega) (x := x2) x2e ?_
    refine r_ex hX hP 1 (pc' := 27) (st' := []) (lo' := [(0, (2, (Ad E 1))), (1, (0, a)), (2, (0, x10)), (3, (0, x2))]) rfl ?_
    have loop27 : ∀ (nF : Nat) (l2_h27 l3_h27 : Int), (-2147483648) ≤ l2_h27 → l2_h27 ≤ 2147483647 → (-1) ≤ l3_h27 → l3_h27 ≤ 19 → l3_h27 < accounts → l3_h27 + 1 < (nF : Int) → X 0 0 27 [] [(0, (2, (Ad E 1))), (1, (0, a)), (2, (0, l2_h27)), (3, (0, l3_h27))] S G := by
      intro nF
      induction nF with
      | zero => intro l2_h27 l3_h27 yh27_0 yh27_1 yh27_2 yh27_3 yh27_4 ym27; exfalso; omega
      | succ nF ih27 =>
        intro l2_h27 l3_h27 yh27_0 yh27_1 yh27_2 yh27_3 yh27_4 ym27
        refine r_ex hX hP 1 (pc' := 28) (st' := [(0, l3_h27)]) (lo' := [(0, (2, (Ad E 1))), (1, (0, a)), (2, (0, l2_h27)), (3, (0, l3_h27))]) rfl ?_
        refine r_if_lt hX hP rfl (tgt := 50) rfl (by first | decide | omega) (by first | decide | omega) (fun c11 => ?_) (fun c11 => ?_)
        · skip
          refine r_ex hX hP 1 (pc' := 51) (st' := [(0, l2_h27)]) (lo' := [(0, (2, (Ad E 1))), (1, (0, a)), (2, (0, l2_h27)), (3, (0, l3_h27))]) rfl ?_
          exact r_retI hX hP rfl rfl (by first | decide | omega) (by first | decide | omega) ⟨rfl, rfl, l2_h27, rfl, (by first | decide | omega)⟩
        · skip
          refine r_ex hX hP 2 (pc' := 33) (st' := [(2, (Ad E 1)), (0, l2_h27)]) (lo' := [(0, (2, (Ad E 1))), (1, (0, a)), (2, (0, l2_h27)), (3, (0, l3_h27))]) rfl ?_
          refine r_getC hX hP rfl fl_12_25 hS (fun _ => ?_)
          refine r_ex hX hP 1 (pc' := 37) (st' := [(0, l3_h27), (2, (Ad E 4)), (0, l2_h27)]) (lo' := [(0, (2, (Ad E 1))), (1, (0, a)), (2, (0, l2_h27)), (3, (0, l3_h27))]) rfl ?_
          refine r_iald hX hP rfl al_4 s9 (by first | decide | omega) (by first | decide | omega) (fun x12 x12e x12a x12b => ?_)
          refine r_ex hX hP 1 (pc' := 39) (st' := [(0, (l2_h27 + x12))]) (lo' := [(0, (2, (Ad E 1))), (1, (0, a)), (2, (0, l2_h27)), (3, (0, l3_h27))]) rfl ?_
          refine r_hvI hX (fun w13 w13a w13b w13e => ?_)
          refine r_ex hX hP 2 (pc' := 41) (st' := [(2, (Ad E 1))]) (lo' := [(0, (2, (Ad E 1))), (1, (0, a)), (2, (0, w13)), (3, (0, l3_h27))]) rfl ?_
          refine r_getC hX hP rfl fl_12_18 hS (fun _ => ?_)
          refine r_ex hX hP 1 (pc' := 45) (st' := [(0, l3_h27), (2, (Ad E 2))]) (lo' := [(0, (2, (Ad E 1))), (1, (0, a)), (2, (0, w13)), (3, (0, l3_h27))]) rfl ?_
          refine r_iald hX hP rfl al_2 s1 (by first | decide | omega) (by first | decide | omega) (fun x14 x14e x14a x14b => ?_)
          have x14m := mi_hand mi accounts_e x14e (by first | decide | omega) (by first | decide | omega)
          refine r_ex hX hP 2 (pc' := 27) (st' := []) (lo' := [(0, (2, (Ad E 1))), (1, (0, a)), (2, (0, w13)), (3, (0, x14))]) rfl ?_
          exact ih27 w13 x14 (by first | decide | omega) (by first | decide | omega) (by first | decide | omega) (by first | decide | omega) (by first | decide | omega) (by first | decide | omega)
    exact loop27 ((x2 + 1) + 1 : Int).toNat x10 x2 (by first | decide | omega) (by first | decide | omega) (by first | decide | omega) (by first | decide | omega) (by first | decide | omega) (by first | decide | omega)
set_option maxRecDepth 100000 in
set_option maxHeartbeats 4000000 in
theorem c_X12_inTime (E : En) (S : Sg) (G : Gh) (s : Int) (hS : S (Ad E 1) = 1) (says : Int) (says_e : says = G 1 (Ad E 1) 10) (s_a : 0 ≤ s) (s_b : s ≤ 59) (pre0 : s < says) (mi : MI E G) : Calls E mX12_inTime [(2, (Ad E 1)), (0, s)] S G 1 0 0 (fun r S' G' => S = S' ∧ G = G' ∧ ∃ z : Int, r = some (0, z) ∧ 0 ≤ z ∧ z ≤ 1) := by
  refine calls_by [(0, (2, (Ad E 1))), (1, (0, s))] rfl rfl (Nat.le_of_ble_eq_true rfl) (fun X hX => ?_)
  have hP := hPX12_inTime
  refine r_peekI hX (tl1 10 rfl (by decide)) hS (fun says_o says_oe says_oa says_ob => ?_)
  obtain rfl : says = says_o := says_e.trans says_oe.symm
  refine r_ex hX hP 1 (pc' := 1) (st' := [(2, (Ad E 1))]) (lo' := [(0, (2, (Ad E 1))), (1, (0, s))]) rfl ?_
  refine r_getC hX hP rfl fl_12_137 hS (fun s1 => ?_)
  refine r_ex hX hP 1 (pc' := 5) (st' := [(0, s), (2, (Ad E 41))]) (lo' := [(0, (2, (Ad E 1))), (1, (0, s))]) rfl ?_
  refine r_iald hX hP rfl al_41 s1 (by first | decide | omega) (by first | decide | omega) (fun x2 x2e x2a x2b => ?_)
  refine r_ex hX hP 2 (pc' := 8) (st' := [(2, (Ad E 1)), (2, (Ad E 1)), (0, x2)]) (lo' := [(0, (2, (Ad E 1))), (1, (0, s))]) rfl ?_
  refine r_getC hX hP rfl fl_12_131 hS (fun s3 => ?_)
  refine r_ex hX hP 1 (pc' := 12) (st' := [(0, s), (2, (Ad E 39)), (2, (Ad E 1)), (0, x2)]) (lo' := [(0, (2, (Ad E 1))), (1, (0, s))]) rfl ?_
  refine r_iald hX hP rfl al_39 s3 (by first | decide | omega) (by first | decide | omega) (fun x4 x4e x4a x4b => ?_)
  refine r_peekI hX (tl1 6 rfl (by decide)) hS (fun acp5 acp5e acp5a acp5b => ?_)
  have x4m := mi_sayA mi says_e acp5e x4e (by first | decide | omega) (by first | decide | omega)
  refine r_callV gd hX hP rfl cv_12_503 hS (d' := 0) (mc' := 0) (ms' := 0) (as' := [(0, x4)]) (st := [(0, x2)]) (by first | decide | omega) (by first | decide | omega) (by first | decide | omega) rfl rfl (Nat.le_of_ble_eq_true rfl) (c_X12_daysUp E S G x4 hS acp5 acp5e (by first | decide | omega) (by first | decide | omega) (by first | decide | omega) mi) ?_
  rintro _ _ _ ⟨rfl, rfl, z6, rfl, z6a, z6b⟩
  refine r_ex hX hP 1 (pc' := 17) (st' := [(0, (x2 + z6))]) (lo' := [(0, (2, (Ad E 1))), (1, (0, s))]) rfl ?_
  refine r_hvI hX (fun w7 w7a w7b w7e => ?_)
  refine r_ex hX hP 1 (pc' := 18) (st' := [(2, (Ad E 1)), (0, w7)]) (lo' := [(0, (2, (Ad E 1))), (1, (0, s))]) rfl ?_
  refine r_getC hX hP rfl fl_12_83 hS (fun s8 => ?_)
  refine r_ex hX hP 1 (pc' := 22) (st' := [(2, (Ad E 1)), (2, (Ad E 23)), (0, w7)]) (lo' := [(0, (2, (Ad E 1))), (1, (0, s))]) rfl ?_
  refine r_getC hX hP rfl fl_12_128 hS (fun s9 => ?_)
  refine r_ex hX hP 1 (pc' := 26) (st' := [(0, s), (2, (Ad E 38)), (2, (Ad E 23)), (0, w7)]) (lo' := [(0, (2, (Ad E 1))), (1, (0, s))]) rfl ?_
  refine r_iald hX hP rfl al_38 s9 (by first | decide | omega) (by first | decide | omega) (fun x10 x10e x10a x10b => ?_)
  refine r_iald hX hP rfl al_23 s8 (by first | decide | omega) (by first | decide | omega) (fun x11 x11e x11a x11b => ?_)
  refine r_ic_gt hX hP rfl (tgt := 35) rfl (by first | decide | omega) (by first | decide | omega) (by first | decide | omega) (by first | decide | omega) (fun c12 => ?_) (fun c12 => ?_)
  · skip
    refine r_ex hX hP 1 (pc' := 36) (st' := [(0, 0)]) (lo' := [(0, (2, (Ad E 1))), (1, (0, s))]) rfl ?_
    exact r_retZ hX hP rfl rfl (by first | decide | omega) (by first | decide | omega) (by first | decide | omega) (by first | decide | omega) ⟨rfl, rfl, 0, rfl, (by first | decide | omega)⟩
  · skip
    refine r_ex hX hP 2 (pc' := 36) (st' := [(0, 1)]) (lo' := [(0, (2, (Ad E 1))), (1, (0, s))]) rfl ?_
    exact r_retZ hX hP rfl rfl (by first | decide | omega) (by first | decide | omega) (by first | decide | omega) (by first | decide | omega) ⟨rfl, rfl, 1, rfl, (by first | decide | omega)⟩
set_option maxRecDepth 100000 in
set_option maxHeartbeats 4000000 in
theorem c_X12_chosenOf (E : En) (S : Sg) (G : Gh) (e a : Int) (hS : S (Ad E 1) = 1) (e_a : 0 ≤ e) (e_b : e ≤ 15) (a_a : 0 ≤ a) (a_b : a ≤ 19) (mi : MI E G) : Calls E mX12_chosenOf [(2, (Ad E 1)), (0, e), (0, a)] S G 2 0 0 (fun r S' G' => S = S' ∧ G = G' ∧ ∃ z : Int, r = some (0, z) ∧ (-1) ≤ z ∧ z ≤ 2) := by
  refine calls_by [(0, (2, (Ad E 1))), (1, (0, e)), (2, (0, a))] rfl rfl (Nat.le_of_ble_eq_true rfl) (fun X hX => ?_)
  have hP := hPX12_chosenOf
  refine r_ex hX hP 4 (pc' := 5) (st' := []) (lo' := [(0, (2, (Ad E 1))), (1, (0, e)), (2, (0, a)), (3, (0, (-1))), (4, (0, 0))]) rfl ?_
  have loop5 : ∀ (nF : Nat) (l3_h5 l4_h5 : Int), (-1) ≤ l3_h5 → l3_h5 ≤ 59 → 0 ≤ l4_h5 → l4_h5 ≤ 60 → 60 - l4_h5 < (nF : Int) → X 0 0 5 [] [(0, (2, (Ad E 1))), (1, (0, e)), (2, (0, a)), (3, (0, l3_h5)), (4, (0, l4_h5))] S G := by
    intro nF
    induction nF with
    | zero => intro l3_h5 l4_h5 yh5_0 yh5_1 yh5_2 yh5_3 ym5; exfalso; omega
    | succ nF ih5 =>
      intro l3_h5 l4_h5 yh5_0 yh5_1 yh5_2 yh5_3 ym5
      refine r_ex hX hP 2 (pc' := 8) (st' := [(2, (Ad E 1)), (0, l4_h5)]) (lo' := [(0, (2, (Ad E 1))), (1, (0, e)), (2, (0, a)), (3, (0, l3_h5)), (4, (0, l4_h5))]) rfl ?_
      refine r_getI hX hP rfl fl_12_496 hS (fun sf1 sf1e sf1a sf1b => ?_)
      refine r_ic_ge hX hP rfl (tgt := 83) rfl (by first | decide | omega) (by first | decide | omega) (by first | decide | omega) (by first | decide | omega) (fun c2 => ?_) (fun c2 => ?_)
      · skip
        refine r_ex hX hP 1 (pc' := 84) (st' := [(0, l3_h5)]) (lo' := [(0, (2, (Ad E 1))), (1, (0, e)), (2, (0, a)), (3, (0, l3_h5)), (4, (0, l4_h5))]) rfl ?_
        refine r_if_ge hX hP rfl (tgt := 96) rfl (by first | decide | omega) (by first | decide | omega) (fun c3 => ?_) (fun c3 => ?_)
        · skip
          refine r_ex hX hP 1 (pc' := 97) (st' := [(2, (Ad E 1))]) (lo' := [(0, (2, (Ad E 1))), (1, (0, e)), (2, (0, a)), (3, (0, l3_h5)), (4, (0, l4_h5))]) rfl ?_
          refine r_getC hX hP rfl fl_12_134 hS (fun s4 => ?_)
          refine r_ex hX hP 1 (pc' := 101) (st' := [(0, l3_h5), (2, (Ad E 40))]) (lo' := [(0, (2, (Ad E 1))), (1, (0, e)), (2, (0, a)), (3, (0, l3_h5)), (4, (0, l4_h5))]) rfl ?_
          refine r_iald hX hP rfl al_40 s4 (by first | decide | omega) (by first | decide | omega) (fun x5 x5e x5a x5b => ?_)
          exact r_retI hX hP rfl rfl (by first | decide | omega) (by first | decide | omega) ⟨rfl, rfl, x5, rfl, (by first | decide | omega)⟩
        · skip
          refine r_ex hX hP 1 (pc' := 88) (st' := [(2, (Ad E 1))]) (lo' := [(0, (2, (Ad E 1))), (1, (0, e)), (2, (0, a)), (3, (0, l3_h5)), (4, (0, l4_h5))]) rfl ?_
          refine r_getC hX hP rfl fl_12_98 hS (fun s6 => ?_)
          refine r_ex hX hP 1 (pc' := 92) (st' := [(0, e), (2, (Ad E 28))]) (lo' := [(0, (2, (Ad E 1))), (1, (0, e)), (2, (0, a)), (3, (0, l3_h5)), (4, (0, l4_h5))]) rfl ?_
          refine r_iald hX hP rfl al_28 s6 (by first | decide | omega) (by first | decide | omega) (fun x7 x7e x7a x7b => ?_)
          refine r_ex hX hP 1 (pc' := 102) (st' := [(0, x7)]) (lo' := [(0, (2, (Ad E 1))), (1, (0, e)), (2, (0, a)), (3, (0, l3_h5)), (4, (0, l4_h5))]) rfl ?_
          exact r_retI hX hP rfl rfl (by first | decide | omega) (by first | decide | omega) ⟨rfl, rfl, x7, rfl, (by first | decide | omega)⟩
      · skip
        refine r_ex hX hP 1 (pc' := 15) (st' := [(2, (Ad E 1))]) (lo' := [(0, (2, (Ad E 1))), (1, (0, e)), (2, (0, a)), (3, (0, l3_h5)), (4, (0, l4_h5))]) rfl ?_
        refine r_getC hX hP rfl fl_12_128 hS (fun s8 => ?_)
        refine r_ex hX hP 1 (pc' := 20) (st' := [(0, l4_h5), (2, (Ad E 38))]) (lo' := [(0, (2, (Ad E 1))), (1, (0, e)), (2, (0, a)), (3, (0, l3_h5)), (4, (0, l4_h5))]) rfl ?_
        refine r_iald hX hP rfl al_38 s8 (by first | decide | omega) (by first | decide | omega) (fun x9 x9e x9a x9b => ?_)
        refine r_ex hX hP 1 (pc' := 22) (st' := [(0, e), (0, x9)]) (lo' := [(0, (2, (Ad E 1))), (1, (0, e)), (2, (0, a)), (3, (0, l3_h5)), (4, (0, l4_h5))]) rfl ?_
        refine r_ic_ne hX hP rfl (tgt := 77) rfl (by first | decide | omega) (by first | decide | omega) (by first | decide | omega) (by first | decide | omega) (fun c10 => ?_) (fun c10 => ?_)
        · skip
          refine r_ex hX hP 2 (pc' := 5) (st' := []) (lo' := [(0, (2, (Ad E 1))), (1, (0, e)), (2, (0, a)), (3, (0, l3_h5)), (4, (0, (l4_h5 + 1)))]) rfl ?_
          exact ih5 l3_h5 (l4_h5 + 1) (by first | decide | omega) (by first | decide | omega) (by first | decide | omega) (by first | decide | omega) (by first | decide | omega)
        · skip
          refine r_ex hX hP 1 (pc' := 26) (st' := [(2, (Ad E 1))]) (lo' := [(0, (2, (Ad E 1))), (1, (0, e)), (2, (0, a)), (3, (0, l3_h5)), (4, (0, l4_h5))]) rfl ?_
          refine r_getC hX hP rfl fl_12_131 hS (fun s11 => ?_)
          refine r_ex hX hP 1 (pc' := 31) (st' := [(0, l4_h5), (2, (Ad E 39))]) (lo' := [(0, (2, (Ad E 1))), (1, (0, e)), (2, (0, a)), (3, (0, l3_h5)), (4, (0, l4_h5))]) rfl ?_
          refine r_iald hX hP rfl al_39 s11 (by first | decide | omega) (by first | decide | omega) (fun x12 x12e x12a x12b => ?_)
          refine r_peekI hX (tl1 6 rfl (by decide)) hS (fun acp13 acp13e acp13a acp13b => ?_)
          have x12m := mi_sayA mi sf1e acp13e x12e (by first | decide | omega) (by first | decide | omega)
          refine r_ex hX hP 1 (pc' := 33) (st' := [(0, a), (0, x12)]) (lo' := [(0, (2, (Ad E 1))), (1, (0, e)), (2, (0, a)), (3, (0, l3_h5)), (4, (0, l4_h5))]) rfl ?_
          refine r_ic_ne hX hP rfl (tgt := 77) rfl (by first | decide | omega) (by first | decide | omega) (by first | decide | omega) (by first | decide | omega) (fun c14 => ?_) (fun c14 => ?_)
          · skip
            refine r_ex hX hP 2 (pc' := 5) (st' := []) (lo' := [(0, (2, (Ad E 1))), (1, (0, e)), (2, (0, a)), (3, (0, l3_h5)), (4, (0, (l4_h5 + 1)))]) rfl ?_
            exact ih5 l3_h5 (l4_h5 + 1) (by first | decide | omega) (by first | decide | omega) (by first | decide | omega) (by first | decide | omega) (by first | decide | omega)
          · skip
            refine r_ex hX hP 2 (pc' := 39) (st' := [(0, l4_h5), (2, (Ad E 1))]) (lo' := [(0, (2, (Ad E 1))), (1, (0, e)), (2, (0, a)), (3, (0, l3_h5)), (4, (0, l4_h5))]) rfl ?_
            refine r_callV gd hX hP rfl cv_12_506 hS (d' := 1) (mc' := 0) (ms' := 0) (as' := [(0, l4_h5)]) (st := []) (by first | decide | omega) (by first | decide | omega) (by first | decide | omega) rfl rfl (Nat.le_of_ble_eq_true rfl) (c_X12_sayCounts E S G l4_h5 hS (by first | decide | omega) (by first | decide | omega)) ?_
            rintro _ _ _ ⟨rfl, rfl, z15, rfl, z15a, z15b⟩
            refine r_if_eq hX hP rfl (tgt := 77) rfl (by first | decide | omega) (by first | decide | omega) (fun c16 => ?_) (fun c16 => ?_)
            · skip
              refine r_ex hX hP 2 (pc' := 5) (st' := []) (lo' := [(0, (2, (Ad E 1))), (1, (0, e)), (2, (0, a)), (3, (0, l3_h5)), (4, (0, (l4_h5 + 1)))]) rfl ?_
              exact ih5 l3_h5 (l4_h5 + 1) (by first | decide | omega) (by first | decide | omega) (by first | decide | omega) (by first | decide | omega) (by first | decide | omega)
            · skip
              refine r_ex hX hP 2 (pc' := 48) (st' := [(0, l4_h5), (2, (Ad E 1))]) (lo' := [(0, (2, (Ad E 1))), (1, (0, e)), (2, (0, a)), (3, (0, l3_h5)), (4, (0, l4_h5))]) rfl ?_
              refine r_callV gd hX hP rfl cv_12_509 hS (d' := 1) (mc' := 0) (ms' := 0) (as' := [(0, l4_h5)]) (st := []) (by first | decide | omega) (by first | decide | omega) (by first | decide | omega) rfl rfl (Nat.le_of_ble_eq_true rfl) (c_X12_inTime E S G l4_h5 hS sf1 sf1e (by first | decide | omega) (by first | decide | omega) (by first | decide | omega) mi) ?_
              rintro _ _ _ ⟨rfl, rfl, z17, rfl, z17a, z17b⟩
              refine r_if_eq hX hP rfl (tgt := 77) rfl (by first | decide | omega) (by first | decide | omega) (fun c18 => ?_) (fun c18 => ?_)
              · skip
                refine r_ex hX hP 2 (pc' := 5) (st' := []) (lo' := [(0, (2, (Ad E 1))), (1, (0, e)), (2, (0, a)), (3, (0, l3_h5)), (4, (0, (l4_h5 + 1)))]) rfl ?_
                exact ih5 l3_h5 (l4_h5 + 1) (by first | decide | omega) (by first | decide | omega) (by first | decide | omega) (by first | decide | omega) (by first | decide | omega)
              · skip
                refine r_ex hX hP 1 (pc' := 55) (st' := [(0, l3_h5)]) (lo' := [(0, (2, (Ad E 1))), (1, (0, e)), (2, (0, a)), (3, (0, l3_h5)), (4, (0, l4_h5))]) rfl ?_
                refine r_if_lt hX hP rfl (tgt := 74) rfl (by first | decide | omega) (by first | decide | omega) (fun c19 => ?_) (fun c19 => ?_)
                · skip
                  refine r_ex hX hP 4 (pc' := 5) (st' := []) (lo' := [(0, (2, (Ad E 1))), (1, (0, e)), (2, (0, a)), (3, (0, l4_h5)), (4, (0, (l4_h5 + 1)))]) rfl ?_
                  exact ih5 l4_h5 (l4_h5 + 1) (by first | decide | omega) (by first | decide | omega) (by first | decide | omega) (by first | decide | omega) (by first | decide | omega)
                · skip
                  refine r_ex hX hP 1 (pc' := 59) (st' := [(2, (Ad E 1))]) (lo' := [(0, (2, (Ad E 1))), (1, (0, e)), (2, (0, a)), (3, (0, l3_h5)), (4, (0, l4_h5))]) rfl ?_
                  refine r_getC hX hP rfl fl_12_137 hS (fun s20 => ?_)
                  refine r_ex hX hP 1 (pc' := 64) (st' := [(0, l4_h5), (2, (Ad E 41))]) (lo' := [(0, (2, (Ad E 1))), (1, (0, e)), (2, (0, a)), (3, (0, l3_h5)), (4, (0, l4_h5))]) rfl ?_
                  refine r_iald hX hP rfl al_41 s20 (by first | decide | omega) (by first | decide | omega) (fun x21 x21e x21a x21b => ?_)
                  refine r_ex hX hP 1 (pc' := 66) (st' := [(2, (Ad E 1)), (0, x21)]) (lo' := [(0, (2, (Ad E 1))), (1, (0, e)), (2, (0, a)), (3, (0, l3_h5)), (4, (0, l4_h5))]) rfl ?_
                  refine r_getC hX hP rfl fl_12_137 hS (fun _ => ?_)
                  refine r_ex hX hP 1 (pc' := 70) (st' := [(0, l3_h5), (2, (Ad E 41)), (0, x21)]) (lo' := [(0, (2, (Ad E 1))), (1, (0, e)), (2, (0, a)), (3, (0, l3_h5)), (4, (0, l4_h5))]) rfl ?_
                  refine r_iald hX hP rfl al_41 s20 (by first | decide | omega) (by first | decide | omega) (fun x22 x22e x22a x22b => ?_)
                  refine r_ic_lt hX hP rfl (tgt := 77) rfl (by first | decide | omega) (by first | decide | omega) (by first | decide | omega) (by first | decide | omega) (fun c23 => ?_) (fun c23 => ?_)
                  · skip
                    refine r_ex hX hP 2 (pc' := 5) (st' := []) (lo' := [(0, (2, (Ad E 1))), (1, (0, e)), (2, (0, a)), (3, (0, l3_h5)), (4, (0, (l4_h5 + 1)))]) rfl ?_
                    exact ih5 l3_h5 (l4_h5 + 1) (by first | decide | omega) (by first | decide | omega) (by first | decide | omega) (by first | decide | omega) (by first | decide | omega)
                  · skip
                    refine r_ex hX hP 4 (pc' := 5) (st' := []) (lo' := [(0, (2, (Ad E 1))), (1, (0, e)), (2, (0, a)), (3, (0, l4_h5)), (4, (0, (l4_h5 + 1)))]) rfl ?_
                    exact ih5 l4_h5 (l4_h5 + 1) (by first | decide | omega) (by first | decide | omega) (by first | decide | omega) (by first | decide | omega) (by first | decide | omega)
  exact loop5 ((60 - 0) + 1 : Int).toNat (-1) 0 (by first | decide | omega) (by first | decide | omega) (by first | decide | omega) (by first | decide | omega) (by first | decide | omega)
set_option maxRecDepth 100000 in
set_option maxHeartbeats 4000000 in
theorem c_X12_chosen (E : En) (S : Sg) (G : Gh) (e a : Int) (hS : S (Ad E 1) = 1) (e_a : (-2147483648) ≤ e) (e_b : e ≤ 2147483647) (a_a : (-2147483648) ≤ a) (a_b : a ≤ 2147483647) (mi : MI E G) : Calls E mX12_chosen [(2, (Ad E 1)), (0, e), (0, a)] S G 3 0 0 (fun r S' G' => S = S' ∧ (∃ G1, hv [0, 1] [] G G1 = G') ∧ ∃ z : Int, r = some (0, z) ∧ (-2147483648) ≤ z ∧ z ≤ 2147483647) := by
  refine calls_by [(0, (2, (Ad E 1))), (1, (0, e)), (2, (0, a))] rfl rfl (Nat.le_of_ble_eq_true rfl) (fun X hX => ?_)
  have hP := hPX12_chosen
  refine r_ex hX hP 2 (pc' := 2) (st' := [(0, 0), (2, (Ad E 1))]) (lo' := [(0, (2, (Ad E 1))), (1, (0, e)), (2, (0, a))]) rfl ?_
  refine r_putIK hX hP rfl fp_12_304 hS (by first | decide | omega) (by first | decide | omega) (fun h1 => ?_)
  refine r_ex hX hP 2 (pc' := 7) (st' := [(0, 0), (2, (Ad E 1))]) (lo' := [(0, (2, (Ad E 1))), (1, (0, e)), (2, (0, a))]) rfl ?_
  refine r_putIK hX hP rfl fp_12_307 hS (by first | decide | omega) (by first | decide | omega) (fun h2 => ?_)
  refine r_ex hX hP 2 (pc' := 12) (st' := [(0, e), (2, (Ad E 1))]) (lo' := [(0, (2, (Ad E 1))), (1, (0, e)), (2, (0, a))]) rfl ?_
  refine r_peekI hX (tl1 9 rfl (by decide)) hS (fun evp3 evp3e evp3a evp3b => ?_)
  refine r_callV gd hX hP rfl cv_12_493 hS (d' := 1) (mc' := 0) (ms' := 0) (as' := [(0, e)]) (st := []) (by first | decide | omega) (by first | decide | omega) (by first | decide | omega) rfl rfl (Nat.le_of_ble_eq_true rfl) (c_X12_isEvent E S (up (up G 1 (Ad E 1) 1 0) 1 (Ad E 1) 0 0) e hS evp3 evp3e (by first | decide | omega) (by first | decide | omega)) ?_
  rintro _ _ _ ⟨rfl, rfl, z4, rfl, (⟨rfl, f5, f6⟩ | ⟨rfl, f7⟩)⟩
  · skip
    refine r_if_eq hX hP rfl (tgt := 26) rfl (by first | decide | omega) (by first | decide | omega) (fun c8 => ?_) (fun c8 => ?_)
    · skip
      exfalso; omega
    · skip
      refine r_ex hX hP 2 (pc' := 20) (st' := [(0, a), (2, (Ad E 1))]) (lo' := [(0, (2, (Ad E 1))), (1, (0, e)), (2, (0, a))]) rfl ?_
      refine r_peekI hX (tl1 6 rfl (by decide)) hS (fun acp9 acp9e acp9a acp9b => ?_)
      refine r_callV gd hX hP rfl cv_12_324 hS (d' := 1) (mc' := 0) (ms' := 0) (as' := [(0, a)]) (st := []) (by first | decide | omega) (by first | decide | omega) (by first | decide | omega) rfl rfl (Nat.le_of_ble_eq_true rfl) (c_X12_isAccount E S (up (up G 1 (Ad E 1) 1 0) 1 (Ad E 1) 0 0) a hS acp9 acp9e (by first | decide | omega) (by first | decide | omega)) ?_
      rintro _ _ _ ⟨rfl, rfl, z10, rfl, (⟨rfl, f11, f12⟩ | ⟨rfl, f13⟩)⟩
      · skip
        refine r_if_ne hX hP rfl (tgt := 32) rfl (by first | decide | omega) (by first | decide | omega) (fun c14 => ?_) (fun c14 => ?_)
        · skip
          refine r_ex hX hP 2 (pc' := 34) (st' := [(0, e), (2, (Ad E 1))]) (lo' := [(0, (2, (Ad E 1))), (1, (0, e)), (2, (0, a))]) rfl ?_
          refine r_callV gd hX hP rfl cv_12_512 hS (d' := 1) (mc' := 0) (ms' := 0) (as' := [(0, e)]) (st := []) (by first | decide | omega) (by first | decide | omega) (by first | decide | omega) rfl rfl (Nat.le_of_ble_eq_true rfl) (c_X12_eventCounts E S (up (up G 1 (Ad E 1) 1 0) 1 (Ad E 1) 0 0) e hS (by first | decide | omega) (by first | decide | omega)) ?_
          rintro _ _ _ ⟨rfl, rfl, z15, rfl, z15a, z15b⟩
          refine r_if_ne hX hP rfl (tgt := 47) rfl (by first | decide | omega) (by first | decide | omega) (fun c16 => ?_) (fun c16 => ?_)
          · skip
            refine r_ex hX hP 3 (pc' := 50) (st' := [(0, a), (0, e), (2, (Ad E 1))]) (lo' := [(0, (2, (Ad E 1))), (1, (0, e)), (2, (0, a))]) rfl ?_
            have mi17 : MI E (up (up G 1 (Ad E 1) 1 0) 1 (Ad E 1) 0 0) := mi_keep mi rfl rfl rfl rfl rfl rfl (fun _ => rfl) (fun _ => rfl) (fun _ => rfl) (fun _ => rfl) (fun _ => rfl) (fun _ => rfl) (fun _ => rfl) (fun _ => rfl) (fun _ => rfl) (fun _ => rfl) (fun _ => rfl) (fun _ => rfl) (fun _ => rfl)
            refine r_callV gd hX hP rfl cv_12_515 hS (d' := 2) (mc' := 0) (ms' := 0) (as' := [(0, e), (0, a)]) (st := []) (by first | decide | omega) (by first | decide | omega) (by first | decide | omega) rfl rfl (Nat.le_of_ble_eq_true rfl) (c_X12_chosenOf E S (up (up G 1 (Ad E 1) 1 0) 1 (Ad E 1) 0 0) e a hS (by first | decide | omega) (by first | decide | omega) (by first | decide | omega) (by first | decide | omega) mi17) ?_
            rintro _ _ _ ⟨rfl, rfl, z18, rfl, z18a, z18b⟩
            refine r_ex hX hP 2 (pc' := 55) (st' := [(0, z18)]) (lo' := [(0, (2, (Ad E 1))), (1, (0, e)), (2, (0, a)), (3, (0, z18))]) rfl ?_
            refine r_if_ge hX hP rfl (tgt := 66) rfl (by first | decide | omega) (by first | decide | omega) (fun c19 => ?_) (fun c19 => ?_)
            · skip
              refine r_ex hX hP 1 (pc' := 67) (st' := [(0, z18)]) (lo' := [(0, (2, (Ad E 1))), (1, (0, e)), (2, (0, a)), (3, (0, z18))]) rfl ?_
              exact r_retI hX hP rfl rfl (by first | decide | omega) (by first | decide | omega) ⟨rfl, ⟨_, (hq_up (hq_up (hq_refl _ _ _) rfl) rfl).symm⟩, z18, rfl, (by first | decide | omega)⟩
            · skip
              refine r_ex hX hP 2 (pc' := 60) (st' := [(0, 5), (2, (Ad E 1))]) (lo' := [(0, (2, (Ad E 1))), (1, (0, e)), (2, (0, a)), (3, (0, z18))]) rfl ?_
              refine r_callV gd hX hP rfl cv_12_327 hS (d' := 0) (mc' := 0) (ms' := 0) (as' := [(0, 5)]) (st := []) (by first | decide | omega) (by first | decide | omega) (by first | decide | omega) rfl rfl (Nat.le_of_ble_eq_true rfl) (c_X12_refuse E S (up (up G 1 (Ad E 1) 1 0) 1 (Ad E 1) 0 0) 5 hS (by first | decide | omega) (by first | decide | omega)) ?_
              rintro _ _ _ ⟨rfl, ⟨G20, rfl⟩, z21, rfl, rfl⟩
              refine r_ex hX hP 1 (pc' := 67) (st' := [(0, (-1))]) (lo' := [(0, (2, (Ad E 1))), (1, (0, e)), (2, (0, a)), (3, (0, z18))]) rfl ?_
              exact r_retI hX hP rfl rfl (by first | decide | omega) (by first | decide | omega) ⟨rfl, ⟨_, (hq_call (hq_up (hq_up (hq_refl _ _ _) rfl) rfl) rfl).symm⟩, (-1), rfl, (by first | decide | omega)⟩
          · skip
            refine r_ex hX hP 2 (pc' := 43) (st' := [(0, 7), (2, (Ad E 1))]) (lo' := [(0, (2, (Ad E 1))), (1, (0, e)), (2, (0, a))]) rfl ?_
            refine r_callV gd hX hP rfl cv_12_327 hS (d' := 0) (mc' := 0) (ms' := 0) (as' := [(0, 7)]) (st := []) (by first | decide | omega) (by first | decide | omega) (by first | decide | omega) rfl rfl (Nat.le_of_ble_eq_true rfl) (c_X12_refuse E S (up (up G 1 (Ad E 1) 1 0) 1 (Ad E 1) 0 0) 7 hS (by first | decide | omega) (by first | decide | omega)) ?_
            rintro _ _ _ ⟨rfl, ⟨G22, rfl⟩, z23, rfl, rfl⟩
            exact r_retI hX hP rfl rfl (by first | decide | omega) (by first | decide | omega) ⟨rfl, ⟨_, (hq_call (hq_up (hq_up (hq_refl _ _ _) rfl) rfl) rfl).symm⟩, (-1), rfl, (by first | decide | omega)⟩
        · skip
          exfalso; omega
      · skip
        refine r_if_ne hX hP rfl (tgt := 32) rfl (by first | decide | omega) (by first | decide | omega) (fun c24 => ?_) (fun c24 => ?_)
        · skip
          exfalso; omega
        · skip
          refine r_ex hX hP 2 (pc' := 28) (st' := [(0, 1), (2, (Ad E 1))]) (lo' := [(0, (2, (Ad E 1))), (1, (0, e)), (2, (0, a))]) rfl ?_
          refine r_callV gd hX hP rfl cv_12_327 hS (d' := 0) (mc' := 0) (ms' := 0) (as' := [(0, 1)]) (st := []) (by first | decide | omega) (by first | decide | omega) (by first | decide | omega) rfl rfl (Nat.le_of_ble_eq_true rfl) (c_X12_refuse E S (up (up G 1 (Ad E 1) 1 0) 1 (Ad E 1) 0 0) 1 hS (by first | decide | omega) (by first | decide | omega)) ?_
          rintro _ _ _ ⟨rfl, ⟨G25, rfl⟩, z26, rfl, rfl⟩
          exact r_retI hX hP rfl rfl (by first | decide | omega) (by first | decide | omega) ⟨rfl, ⟨_, (hq_call (hq_up (hq_up (hq_refl _ _ _) rfl) rfl) rfl).symm⟩, (-1), rfl, (by first | decide | omega)⟩
  · skip
    refine r_if_eq hX hP rfl (tgt := 26) rfl (by first | decide | omega) (by first | decide | omega) (fun c27 => ?_) (fun c27 => ?_)
    · skip
      refine r_ex hX hP 2 (pc' := 28) (st' := [(0, 1), (2, (Ad E 1))]) (lo' := [(0, (2, (Ad E 1))), (1, (0, e)), (2, (0, a))]) rfl ?_
      refine r_callV gd hX hP rfl cv_12_327 hS (d' := 0) (mc' := 0) (ms' := 0) (as' := [(0, 1)]) (st := []) (by first | decide | omega) (by first | decide | omega) (by first | decide | omega) rfl rfl (Nat.le_of_ble_eq_true rfl) (c_X12_refuse E S (up (up G 1 (Ad E 1) 1 0) 1 (Ad E 1) 0 0) 1 hS (by first | decide | omega) (by first | decide | omega)) ?_
      rintro _ _ _ ⟨rfl, ⟨G28, rfl⟩, z29, rfl, rfl⟩
      exact r_retI hX hP rfl rfl (by first | decide | omega) (by first | decide | omega) ⟨rfl, ⟨_, (hq_call (hq_up (hq_up (hq_refl _ _ _) rfl) rfl) rfl).symm⟩, (-1), rfl, (by first | decide | omega)⟩
    · skip
      exfalso; omega
set_option maxRecDepth 100000 in
set_option maxHeartbeats 4000000 in
theorem c_X12_isBelow (E : En) (S : Sg) (G : Gh) (a root : Int) (hS : S (Ad E 1) = 1) (accounts : Int) (accounts_e : accounts = G 1 (Ad E 1) 6) (a_a : 0 ≤ a) (a_b : a ≤ 19) (root_a : 0 ≤ root) (root_b : root ≤ 19) (pre0 : a < accounts) (mi : MI E G) : Calls E mX12_isBelow [(2, (Ad E 1)), (0, a), (0, root)] S G 0 0 0 (fun r S' G' => S = S' ∧ G = G' ∧ ∃ z : Int, r = some (0, z) ∧ 0 ≤ z ∧ z ≤ 1) := by
  refine calls_by [(0, (2, (Ad E 1))), (1, (0, a)), (2, (0, root))] rfl rfl (Nat.le_of_ble_eq_true rfl) (fun X hX => ?_)
  have hP := hPX12_isBelow
  refine r_peekI hX (tl1 6 rfl (by decide)) hS (fun accounts_o accounts_oe accounts_oa accounts_ob => ?_)
  obtain rfl : accounts = accounts_o := accounts_e.trans accounts_oe.symm
  refine r_ex hX hP 2 (pc' := 2) (st' := []) (lo' := [(0, (2, (Ad E 1))), (1, (0, a)), (2, (0, root)), (3, (0, a))]) rfl ?_
  have x21 : ∀ (l3_x21 : Int), (-1) ≤ l3_x21 → l3_x21 ≤ 19 → l3_x21 < accounts → X 0 0 21 [] [(0, (2, (Ad E 1))), (1, (0, a)), (2, (0, root)), (3, (0, l3_x21))] S G := by
    intro l3_x21 yx21_0 yx21_1 yx21_2
    refine r_ex hX hP 2 (pc' := 23) (st' := [(0, root), (0, l3_x21)]) (lo' := [(0, (2, (Ad E 1))), (1, (0, a)), (2, (0, root)), (3, (0, l3_x21))]) rfl ?_
    refine r_ic_ne hX hP rfl (tgt := 30) rfl (by first | decide | omega) (by first | decide | omega) (by first | decide | omega) (by first | decide | omega) (fun c1 => ?_) (fun c1 => ?_)
    · skip
      refine r_ex hX hP 1 (pc' := 31) (st' := [(0, 0)]) (lo' := [(0, (2, (Ad E 1))), (1, (0, a)), (2, (0, root)), (3, (0, l3_x21))]) rfl ?_
      exact r_retZ hX hP rfl rfl (by first | decide | omega) (by first | decide | omega) (by first | decide | omega) (by first | decide | omega) ⟨rfl, rfl, 0, rfl, (by first | decide | omega)⟩
    · skip
      refine r_ex hX hP 2 (pc' := 31) (st' := [(0, 1)]) (lo' := [(0, (2, (Ad E 1))), (1, (0, a)), (2, (0, root)), (3, (0, l3_x21))]) rfl ?_
      exact r_retZ hX hP rfl rfl (by first | decide | omega) (by first | decide | omega) (by first | decide | omega) (by first | decide | omega) ⟨rfl, rfl, 1, rfl, (by first | decide | omega)⟩
  have loop2 : ∀ (nF : Nat) (l3_h2 : Int), (-1) ≤ l3_h2 → l3_h2 ≤ 19 → l3_h2 < accounts → l3_h2 + 1 < (nF : Int) → X 0 0 2 [] [(0, (2, (Ad E 1))), (1, (0, a)), (2, (0, root)), (3, (0, l3_h2))] S G := by
    intro nF
    induction nF with
    | zero => intro l3_h2 yh2_0 yh2_1 yh2_2 ym2; exfalso; omega
    | succ nF ih2 =>
      intro l3_h2 yh2_0 yh2_1 yh2_2 ym2
      refine r_ex hX hP 1 (pc' := 3) (st' := [(0, l3_h2)]) (lo' := [(0, (2, (Ad E 1))), (1, (0, a)), (2, (0, root)), (3, (0, l3_h2))]) rfl ?_
      refine r_if_lt hX hP rfl (tgt := 21) rfl (by first | decide | omega) (by first | decide | omega) (fun c2 => ?_) (fun c2 => ?_)
      · skip
        exact x21 l3_h2 (by first | decide | omega) (by first | decide | omega) (by first | decide | omega)
      · skip
        refine r_ex hX hP 2 (pc' := 8) (st' := [(0, root), (0, l3_h2)]) (lo' := [(0, (2, (Ad E 1))), (1, (0, a)), (2, (0, root)), (3, (0, l3_h2))]) rfl ?_
        refine r_ic_eq hX hP rfl (tgt := 21) rfl (by first | decide | omega) (by first | decide | omega) (by first | decide | omega) (by first | decide | omega) (fun c3 => ?_) (fun c3 => ?_)
        · skip
          exact x21 l3_h2 (by first | decide | omega) (by first | decide | omega) (by first | decide | omega)
        · skip
          refine r_ex hX hP 1 (pc' := 12) (st' := [(2, (Ad E 1))]) (lo' := [(0, (2, (Ad E 1))), (1, (0, a)), (2, (0, root)), (3, (0, l3_h2))]) rfl ?_
          refine r_getC hX hP rfl fl_12_18 hS (fun s4 => ?_)
          refine r_ex hX hP 1 (pc' := 16) (st' := [(0, l3_h2), (2, (Ad E 2))]) (lo' := [(0, (2, (Ad E 1))), (1, (0, a)), (2, (0, root)), (3, (0, l3_h2))]) rfl ?_
          refine r_iald hX hP rfl al_2 s4 (by first | decide | omega) (by first | decide | omega) (fun x5 x5e x5a x5b => ?_)
          have x5m := mi_hand mi accounts_e x5e (by first | decide | omega) (by first | decide | omega)
          refine r_ex hX hP 2 (pc' := 2) (st' := []) (lo' := [(0, (2, (Ad E 1))), (1, (0, a)), (2, (0, root)), (3, (0, x5))]) rfl ?_
          exact ih2 x5 (by first | decide | omega) (by first | decide | omega) (by first | decide | omega) (by first | decide | omega)
  exact loop2 ((a + 1) + 1 : Int).toNat a (by first | decide | omega) (by first | decide | omega) (by first | decide | omega) (by first | decide | omega)
set_option maxRecDepth 100000 in
set_option maxHeartbeats 4000000 in
theorem c_X12_sumUp (E : En) (S : Sg) (G : Gh) (hS : S (Ad E 1) = 1) : Calls E mX12_sumUp [(2, (Ad E 1))] S G 0 0 0 (fun r S' G' => S = S' ∧ (∃ G1, hv [] [84] G G1 = G') ∧ r = none ∧ True) := by
  refine calls_by [(0, (2, (Ad E 1)))] rfl rfl (Nat.le_of_ble_eq_true rfl) (fun X hX => ?_)
  have hP := hPX12_sumUp
  refine r_ex hX hP 2 (pc' := 2) (st' := []) (lo' := [(0, (2, (Ad E 1))), (1, (0, 0))]) rfl ?_
  have loop2 : ∀ (nF : Nat) (l1_h2 : Int) (Gh2 : Gh), 0 ≤ l1_h2 → l1_h2 ≤ 20 → 20 - l1_h2 < (nF : Int) → X 0 0 2 [] [(0, (2, (Ad E 1))), (1, (0, l1_h2))] S (hv [] [84] G Gh2) := by
    intro nF
    induction nF with
    | zero => intro l1_h2 Gh2 yh2_0 yh2_1 ym2; exfalso; omega
    | succ nF ih2 =>
      intro l1_h2 Gh2 yh2_0 yh2_1 ym2
      refine r_ex hX hP 2 (pc' := 4) (st' := [(2, (Ad E 1)), (0, l1_h2)]) (lo' := [(0, (2, (Ad E 1))), (1, (0, l1_h2))]) rfl ?_
      refine r_getI hX hP rfl fl_12_314 hS (fun af1 af1e af1a af1b => ?_)
      refine r_ic_ge hX hP rfl (tgt := 28) rfl (by first | decide | omega) (by first | decide | omega) (by first | decide | omega) (by first | decide | omega) (fun c2 => ?_) (fun c2 => ?_)
      · skip
        refine r_ex hX hP 1 (pc' := 29) (st' := [(2, (Ad E 1))]) (lo' := [(0, (2, (Ad E 1))), (1, (0, l1_h2))]) rfl ?_
        refine r_getKI hX hP rfl fl_12_314 hS (x := af1) af1e ?_
        refine r_ex hX hP 3 (pc' := 35) (st' := []) (lo' := [(0, (2, (Ad E 1))), (1, (0, (af1 - 1)))]) rfl ?_
        have loop35 : ∀ (nF : Nat) (l1_h35 : Int) (Gh35 : Gh), (-1) ≤ l1_h35 → l1_h35 ≤ 19 → l1_h35 - (-1) < (nF : Int) → X 0 0 35 [] [(0, (2, (Ad E 1))), (1, (0, l1_h35))] S (hv [] [84] (hv [] [84] G Gh2) Gh35) := by
          intro nF
          induction nF with
          | zero => intro l1_h35 Gh35 yh35_0 yh35_1 ym35; exfalso; omega
          | succ nF ih35 =>
            intro l1_h35 Gh35 yh35_0 yh35_1 ym35
            refine r_ex hX hP 1 (pc' := 36) (st' := [(0, l1_h35)]) (lo' := [(0, (2, (Ad E 1))), (1, (0, l1_h35))]) rfl ?_
            refine r_if_lt hX hP rfl (tgt := 74) rfl (by first | decide | omega) (by first | decide | omega) (fun c3 => ?_) (fun c3 => ?_)
            · skip
              exact r_retV hX hP rfl rfl (by first | decide | omega) (by first | decide | omega) ⟨rfl, ⟨_, (hq_loop (hq_loop (hq_refl _ _ _) rfl) rfl).symm⟩, rfl, trivial⟩
            · skip
              refine r_ex hX hP 1 (pc' := 40) (st' := [(2, (Ad E 1))]) (lo' := [(0, (2, (Ad E 1))), (1, (0, l1_h35))]) rfl ?_
              refine r_getC hX hP rfl fl_12_18 hS (fun s4 => ?_)
              refine r_ex hX hP 1 (pc' := 44) (st' := [(0, l1_h35), (2, (Ad E 2))]) (lo' := [(0, (2, (Ad E 1))), (1, (0, l1_h35))]) rfl ?_
              refine r_iald hX hP rfl al_2 s4 (by first | decide | omega) (by first | decide | omega) (fun x5 x5e x5a x5b => ?_)
              refine r_if_lt hX hP rfl (tgt := 68) rfl (by first | decide | omega) (by first | decide | omega) (fun c6 => ?_) (fun c6 => ?_)
              · skip
                refine r_ex hX hP 2 (pc' := 35) (st' := []) (lo' := [(0, (2, (Ad E 1))), (1, (0, (l1_h35 + (-1))))]) rfl ?_
                refine r_eqG (X := X) (hq_base _ _ _ _) ?_
                exact ih35 (l1_h35 + (-1)) _ (by first | decide | omega) (by first | decide | omega) (by first | decide | omega)
              · skip
                refine r_ex hX hP 1 (pc' := 49) (st' := [(2, (Ad E 1))]) (lo' := [(0, (2, (Ad E 1))), (1, (0, l1_h35))]) rfl ?_
                refine r_getC hX hP rfl fl_12_277 hS (fun s7 => ?_)
                refine r_ex hX hP 1 (pc' := 53) (st' := [(2, (Ad E 1)), (2, (Ad E 84))]) (lo' := [(0, (2, (Ad E 1))), (1, (0, l1_h35))]) rfl ?_
                refine r_getC hX hP rfl fl_12_18 hS (fun _ => ?_)
                refine r_ex hX hP 1 (pc' := 57) (st' := [(0, l1_h35), (2, (Ad E 2)), (2, (Ad E 84))]) (lo' := [(0, (2, (Ad E 1))), (1, (0, l1_h35))]) rfl ?_
                refine r_ialdK hX hP rfl al_2 s4 (by first | decide | omega) (by first | decide | omega) (x := x5) x5e ?_
                refine r_ex hX hP 1 (pc' := 59) (st' := [(0, x5), (2, (Ad E 84)), (0, x5), (2, (Ad E 84))]) (lo' := [(0, (2, (Ad E 1))), (1, (0, l1_h35))]) rfl ?_
                refine r_lald hX hP rfl al_84 s7 (by first | decide | omega) (by first | decide | omega) (fun x8 x8e x8a x8b => ?_)
                refine r_ex hX hP 1 (pc' := 61) (st' := [(2, (Ad E 1)), (1, x8), (0, x5), (2, (Ad E 84))]) (lo' := [(0, (2, (Ad E 1))), (1, (0, l1_h35))]) rfl ?_
                refine r_getC hX hP rfl fl_12_277 hS (fun _ => ?_)
                refine r_ex hX hP 1 (pc' := 65) (st' := [(0, l1_h35), (2, (Ad E 84)), (1, x8), (0, x5), (2, (Ad E 84))]) (lo' := [(0, (2, (Ad E 1))), (1, (0, l1_h35))]) rfl ?_
                refine r_lald hX hP rfl al_84 s7 (by first | decide | omega) (by first | decide | omega) (fun x9 x9e x9a x9b => ?_)
                refine r_ex hX hP 1 (pc' := 67) (st' := [(1, (x8 + x9)), (0, x5), (2, (Ad E 84))]) (lo' := [(0, (2, (Ad E 1))), (1, (0, l1_h35))]) rfl ?_
                refine r_hvL hX (fun w10 w10a w10b w10e => ?_)
                refine r_lastK hX hP rfl al_84 s7 (by first | decide | omega) (by first | decide | omega) (by first | decide | omega) (by first | decide | omega) (fun h11 => ?_)
                refine r_ex hX hP 2 (pc' := 35) (st' := []) (lo' := [(0, (2, (Ad E 1))), (1, (0, (l1_h35 + (-1))))]) rfl ?_
                refine r_eqG (X := X) (hq_up (hq_base _ _ _ _) rfl) ?_
                exact ih35 (l1_h35 + (-1)) _ (by first | decide | omega) (by first | decide | omega) (by first | decide | omega)
        refine r_eqG (X := X) (hq_refl [] [84] _) ?_
        exact loop35 (((af1 - 1) - (-1)) + 1 : Int).toNat (af1 - 1) _ (by first | decide | omega) (by first | decide | omega) (by first | decide | omega)
      · skip
        refine r_ex hX hP 1 (pc' := 11) (st' := [(2, (Ad E 1))]) (lo' := [(0, (2, (Ad E 1))), (1, (0, l1_h2))]) rfl ?_
        refine r_getC hX hP rfl fl_12_277 hS (fun s12 => ?_)
        refine r_ex hX hP 2 (pc' := 16) (st' := [(2, (Ad E 1)), (0, l1_h2), (2, (Ad E 84))]) (lo' := [(0, (2, (Ad E 1))), (1, (0, l1_h2))]) rfl ?_
        refine r_getC hX hP rfl fl_12_268 hS (fun s13 => ?_)
        refine r_ex hX hP 1 (pc' := 20) (st' := [(0, l1_h2), (2, (Ad E 81)), (0, l1_h2), (2, (Ad E 84))]) (lo' := [(0, (2, (Ad E 1))), (1, (0, l1_h2))]) rfl ?_
        refine r_lald hX hP rfl al_81 s13 (by first | decide | omega) (by first | decide | omega) (fun x14 x14e x14a x14b => ?_)
        refine r_lastK hX hP rfl al_84 s12 (by first | decide | omega) (by first | decide | omega) (by first | decide | omega) (by first | decide | omega) (fun h15 => ?_)
        refine r_ex hX hP 2 (pc' := 2) (st' := []) (lo' := [(0, (2, (Ad E 1))), (1, (0, (l1_h2 + 1)))]) rfl ?_
        refine r_eqG (X := X) (hq_up (hq_base _ _ _ _) rfl) ?_
        exact ih2 (l1_h2 + 1) _ (by first | decide | omega) (by first | decide | omega) (by first | decide | omega)
  refine r_eqG (X := X) (hq_refl [] [84] _) ?_
  exact loop2 ((20 - 0) + 1 : Int).toNat 0 _ (by first | decide | omega) (by first | decide | omega) (by first | decide | omega)
set_option maxRecDepth 100000 in
set_option maxHeartbeats 4000000 in
theorem c_X12_partOne (E : En) (S : Sg) (G : Gh) (a : Int) (hS : S (Ad E 1) = 1) (below_a : Int) (below_a_e : below_a = G 84 (Ad E 84) a) (a_a : 0 ≤ a) (a_b : a ≤ 19) (pre0 : 1 ≤ below_a) : Calls E mX12_partOne [(2, (Ad E 1)), (0, a)] S G 0 0 0 (fun r S' G' => S = S' ∧ (∃ G1, hv [] [82, 83, 90, 91] G G1 = G') ∧ r = none ∧ True) := by
  refine calls_by [(0, (2, (Ad E 1))), (1, (0, a))] rfl rfl (Nat.le_of_ble_eq_true rfl) (fun X hX => ?_)
  have hP := hPX12_partOne
  refine r_labC hX (tl1 115 rfl (by decide)) hS (fun s1 => ?_)
  refine r_apeekL hX al_84 s1 (i := a) (by first | decide | omega) (by first | decide | omega) (fun below_a_o below_a_oe below_a_oa below_a_ob => ?_)
  obtain rfl : below_a = below_a_o := below_a_e.trans below_a_oe.symm
  refine r_ex hX hP 1 (pc' := 1) (st' := [(2, (Ad E 1))]) (lo' := [(0, (2, (Ad E 1))), (1, (0, a))]) rfl ?_
  refine r_getC hX hP rfl fl_12_274 hS (fun s2 => ?_)
  refine r_ex hX hP 1 (pc' := 5) (st' := [(0, a), (2, (Ad E 83))]) (lo' := [(0, (2, (Ad E 1))), (1, (0, a))]) rfl ?_
  refine r_lald hX hP rfl al_83 s2 (by first | decide | omega) (by first | decide | omega) (fun x3 x3e x3a x3b => ?_)
  refine r_ex hX hP 2 (pc' := 8) (st' := [(2, (Ad E 1))]) (lo' := [(0, (2, (Ad E 1))), (1, (0, a)), (2, (1, x3))]) rfl ?_
  refine r_getC hX hP rfl fl_12_277 hS (fun _ => ?_)
  refine r_ex hX hP 1 (pc' := 12) (st' := [(0, a), (2, (Ad E 84))]) (lo' := [(0, (2, (Ad E 1))), (1, (0, a)), (2, (1, x3))]) rfl ?_
  refine r_laldK hX hP rfl al_84 s1 (by first | decide | omega) (by first | decide | omega) (x := below_a) below_a_e ?_
  refine r_ex hX hP 5 (pc' := 21) (st' := []) (lo' := [(0, (2, (Ad E 1))), (1, (0, a)), (2, (1, x3)), (4, (1, below_a)), (6, (1, x3)), (8, (0, 0))]) rfl ?_
  have loop21 : ∀ (nF : Nat) (l6_h21 l8_h21 : Int) (Gh21 : Gh), (-9223372036854775808) ≤ l6_h21 → l6_h21 ≤ 9223372036854775807 → 0 ≤ l8_h21 → l8_h21 ≤ 21 → 21 - l8_h21 < (nF : Int) → X 0 0 21 [] [(0, (2, (Ad E 1))), (1, (0, a)), (2, (1, x3)), (4, (1, below_a)), (6, (1, l6_h21)), (8, (0, l8_h21))] S (hv [] [90, 91] G Gh21) := by
    intro nF
    induction nF with
    | zero => intro l6_h21 l8_h21 Gh21 yh21_0 yh21_1 yh21_2 yh21_3 ym21; exfalso; omega
    | succ nF ih21 =>
      intro l6_h21 l8_h21 Gh21 yh21_0 yh21_1 yh21_2 yh21_3 ym21
      refine r_ex hX hP 2 (pc' := 24) (st' := [(2, (Ad E 1)), (0, l8_h21)]) (lo' := [(0, (2, (Ad E 1))), (1, (0, a)), (2, (1, x3)), (4, (1, below_a)), (6, (1, l6_h21)), (8, (0, l8_h21))]) rfl ?_
      refine r_getI hX hP rfl fl_12_314 hS (fun af4 af4e af4a af4b => ?_)
      refine r_ic_gt hX hP rfl (tgt := 149) rfl (by first | decide | omega) (by first | decide | omega) (by first | decide | omega) (by first | decide | omega) (fun c5 => ?_) (fun c5 => ?_)
      · skip
        have loop149 : ∀ (nF : Nat) (l6_h149 l8_h149 : Int) (Gh149 : Gh), (-9223372036854775808) ≤ l6_h149 → l6_h149 ≤ 9223372036854775807 → (-2147483648) ≤ l8_h149 → l8_h149 ≤ 2147483647 → max l6_h149 0 < (nF : Int) → X 0 0 149 [] [(0, (2, (Ad E 1))), (1, (0, a)), (2, (1, x3)), (4, (1, below_a)), (6, (1, l6_h149)), (8, (0, l8_h149))] S (hv [] [90, 91] (hv [] [90, 91] G Gh21) Gh149) := by
          intro nF
          induction nF with
          | zero => intro l6_h149 l8_h149 Gh149 yh149_0 yh149_1 yh149_2 yh149_3 ym149; exfalso; omega
          | succ nF ih149 =>
            intro l6_h149 l8_h149 Gh149 yh149_0 yh149_1 yh149_2 yh149_3 ym149
            refine r_ex hX hP 2 (pc' := 152) (st' := [(1, 0), (1, l6_h149)]) (lo' := [(0, (2, (Ad E 1))), (1, (0, a)), (2, (1, x3)), (4, (1, below_a)), (6, (1, l6_h149)), (8, (0, l8_h149))]) rfl ?_
            refine r_lc_le hX hP rfl rfl (tgt := 229) rfl (by first | decide | omega) (by first | decide | omega) (by first | decide | omega) (by first | decide | omega) (fun c6 => ?_) (fun c6 => ?_)
            · skip
              refine r_ex hX hP 1 (pc' := 230) (st' := [(2, (Ad E 1))]) (lo' := [(0, (2, (Ad E 1))), (1, (0, a)), (2, (1, x3)), (4, (1, below_a)), (6, (1, l6_h149)), (8, (0, l8_h149))]) rfl ?_
              refine r_getC hX hP rfl fl_12_271 hS (fun s7 => ?_)
              refine r_ex hX hP 2 (pc' := 235) (st' := [(2, (Ad E 1)), (0, a), (2, (Ad E 82))]) (lo' := [(0, (2, (Ad E 1))), (1, (0, a)), (2, (1, x3)), (4, (1, below_a)), (6, (1, l6_h149)), (8, (0, l8_h149))]) rfl ?_
              refine r_getC hX hP rfl fl_12_295 hS (fun s8 => ?_)
              refine r_ex hX hP 1 (pc' := 239) (st' := [(0, 0), (2, (Ad E 90)), (0, a), (2, (Ad E 82))]) (lo' := [(0, (2, (Ad E 1))), (1, (0, a)), (2, (1, x3)), (4, (1, below_a)), (6, (1, l6_h149)), (8, (0, l8_h149))]) rfl ?_
              refine r_lald hX hP rfl al_90 s8 (by first | decide | omega) (by first | decide | omega) (fun x9 x9e x9a x9b => ?_)
              refine r_lastK hX hP rfl al_82 s7 (by first | decide | omega) (by first | decide | omega) (by first | decide | omega) (by first | decide | omega) (fun h10 => ?_)
              refine r_ex hX hP 2 (pc' := 244) (st' := []) (lo' := [(0, (2, (Ad E 1))), (1, (0, a)), (2, (1, x3)), (4, (1, below_a)), (6, (1, l6_h149)), (8, (0, 1))]) rfl ?_
              have loop244 : ∀ (nF : Nat) (l8_h244 : Int) (Gh244 : Gh), 1 ≤ l8_h244 → l8_h244 ≤ 21 → 21 - l8_h244 < (nF : Int) → X 0 0 244 [] [(0, (2, (Ad E 1))), (1, (0, a)), (2, (1, x3)), (4, (1, below_a)), (6, (1, l6_h149)), (8, (0, l8_h244))] S (hv [] [83] (up (hv [] [90, 91] (hv [] [90, 91] G Gh21) Gh149) 82 (Ad E 82) a x9) Gh244) := by
                intro nF
                induction nF with
                | zero => intro l8_h244 Gh244 yh244_0 yh244_1 ym244; exfalso; omega
                | succ nF ih244 =>
                  intro l8_h244 Gh244 yh244_0 yh244_1 ym244
                  refine r_ex hX hP 2 (pc' := 247) (st' := [(2, (Ad E 1)), (0, l8_h244)]) (lo' := [(0, (2, (Ad E 1))), (1, (0, a)), (2, (1, x3)), (4, (1, below_a)), (6, (1, l6_h149)), (8, (0, l8_h244))]) rfl ?_
                  refine r_getKI hX hP rfl fl_12_314 hS (x := af4) af4e ?_
                  refine r_ic_gt hX hP rfl (tgt := 288) rfl (by first | decide | omega) (by first | decide | omega) (by first | decide | omega) (by first | decide | omega) (fun c11 => ?_) (fun c11 => ?_)
                  · skip
                    exact r_retV hX hP rfl rfl (by first | decide | omega) (by first | decide | omega) ⟨rfl, ⟨_, (hq_loop (hq_up (hq_loop (hq_loop (hq_refl _ _ _) rfl) rfl) rfl) rfl).symm⟩, rfl, trivial⟩
                  · skip
                    refine r_ex hX hP 1 (pc' := 254) (st' := [(2, (Ad E 1))]) (lo' := [(0, (2, (Ad E 1))), (1, (0, a)), (2, (1, x3)), (4, (1, below_a)), (6, (1, l6_h149)), (8, (0, l8_h244))]) rfl ?_
                    refine r_getC hX hP rfl fl_12_18 hS (fun s12 => ?_)
                    refine r_ex hX hP 3 (pc' := 261) (st' := [(0, (l8_h244 - 1)), (2, (Ad E 2))]) (lo' := [(0, (2, (Ad E 1))), (1, (0, a)), (2, (1, x3)), (4, (1, below_a)), (6, (1, l6_h149)), (8, (0, l8_h244))]) rfl ?_
                    refine r_iald hX hP rfl al_2 s12 (by first | decide | omega) (by first | decide | omega) (fun x13 x13e x13a x13b => ?_)
                    refine r_ex hX hP 1 (pc' := 263) (st' := [(0, a), (0, x13)]) (lo' := [(0, (2, (Ad E 1))), (1, (0, a)), (2, (1, x3)), (4, (1, below_a)), (6, (1, l6_h149)), (8, (0, l8_h244))]) rfl ?_
                    refine r_ic_ne hX hP rfl (tgt := 282) rfl (by first | decide | omega) (by first | decide | omega) (by first | decide | omega) (by first | decide | omega) (fun c14 => ?_) (fun c14 => ?_)
                    · skip
                      refine r_ex hX hP 2 (pc' := 244) (st' := []) (lo' := [(0, (2, (Ad E 1))), (1, (0, a)), (2, (1, x3)), (4, (1, below_a)), (6, (1, l6_h149)), (8, (0, (l8_h244 + 1)))]) rfl ?_
                      refine r_eqG (X := X) (hq_base _ _ _ _) ?_
                      exact ih244 (l8_h244 + 1) _ (by first | decide | omega) (by first | decide | omega) (by first | decide | omega)
                    · skip
                      refine r_ex hX hP 1 (pc' := 267) (st' := [(2, (Ad E 1))]) (lo' := [(0, (2, (Ad E 1))), (1, (0, a)), (2, (1, x3)), (4, (1, below_a)), (6, (1, l6_h149)), (8, (0, l8_h244))]) rfl ?_
                      refine r_getC hX hP rfl fl_12_274 hS (fun _ => ?_)
                      refine r_ex hX hP 4 (pc' := 275) (st' := [(2, (Ad E 1)), (0, (l8_h244 - 1)), (2, (Ad E 83))]) (lo' := [(0, (2, (Ad E 1))), (1, (0, a)), (2, (1, x3)), (4, (1, below_a)), (6, (1, l6_h149)), (8, (0, l8_h244))]) rfl ?_
                      refine r_getC hX hP rfl fl_12_295 hS (fun _ => ?_)
                      refine r_ex hX hP 1 (pc' := 280) (st' := [(0, l8_h244), (2, (Ad E 90)), (0, (l8_h244 - 1)), (2, (Ad E 83))]) (lo' := [(0, (2, (Ad E 1))), (1, (0, a)), (2, (1, x3)), (4, (1, below_a)), (6, (1, l6_h149)), (8, (0, l8_h244))]) rfl ?_
                      refine r_lald hX hP rfl al_90 s8 (by first | decide | omega) (by first | decide | omega) (fun x15 x15e x15a x15b => ?_)
                      refine r_lastK hX hP rfl al_83 s2 (by first | decide | omega) (by first | decide | omega) (by first | decide | omega) (by first | decide | omega) (fun h16 => ?_)
                      refine r_ex hX hP 2 (pc' := 244) (st' := []) (lo' := [(0, (2, (Ad E 1))), (1, (0, a)), (2, (1, x3)), (4, (1, below_a)), (6, (1, l6_h149)), (8, (0, (l8_h244 + 1)))]) rfl ?_
                      refine r_eqG (X := X) (hq_up (hq_base _ _ _ _) rfl) ?_
                      exact ih244 (l8_h244 + 1) _ (by first | decide | omega) (by first | decide | omega) (by first | decide | omega)
              refine r_eqG (X := X) (hq_refl [] [83] _) ?_
              exact loop244 ((21 - 1) + 1 : Int).toNat 1 _ (by first | decide | omega) (by first | decide | omega) (by first | decide | omega)
            · skip
              refine r_ex hX hP 4 (pc' := 162) (st' := []) (lo' := [(0, (2, (Ad E 1))), (1, (0, a)), (2, (1, x3)), (4, (1, below_a)), (6, (1, l6_h149)), (8, (0, 0)), (9, (0, 1))]) rfl ?_
              have loop162 : ∀ (nF : Nat) (l8_h162 l9_h162 : Int), 0 ≤ l8_h162 → l8_h162 ≤ 20 → 1 ≤ l9_h162 → l9_h162 ≤ 21 → 21 - l9_h162 < (nF : Int) → X 0 0 162 [] [(0, (2, (Ad E 1))), (1, (0, a)), (2, (1, x3)), (4, (1, below_a)), (6, (1, l6_h149)), (8, (0, l8_h162)), (9, (0, l9_h162))] S (hv [] [90, 91] (hv [] [90, 91] G Gh21) Gh149) := by
                intro nF
                induction nF with
                | zero => intro l8_h162 l9_h162 yh162_0 yh162_1 yh162_2 yh162_3 ym162; exfalso; omega
                | succ nF ih162 =>
                  intro l8_h162 l9_h162 yh162_0 yh162_1 yh162_2 yh162_3 ym162
                  refine r_ex hX hP 2 (pc' := 165) (st' := [(2, (Ad E 1)), (0, l9_h162)]) (lo' := [(0, (2, (Ad E 1))), (1, (0, a)), (2, (1, x3)), (4, (1, below_a)), (6, (1, l6_h149)), (8, (0, l8_h162)), (9, (0, l9_h162))]) rfl ?_
                  refine r_getKI hX hP rfl fl_12_314 hS (x := af4) af4e ?_
                  refine r_ic_gt hX hP rfl (tgt := 199) rfl (by first | decide | omega) (by first | decide | omega) (by first | decide | omega) (by first | decide | omega) (fun c17 => ?_) (fun c17 => ?_)
                  · skip
                    refine r_ex hX hP 1 (pc' := 200) (st' := [(2, (Ad E 1))]) (lo' := [(0, (2, (Ad E 1))), (1, (0, a)), (2, (1, x3)), (4, (1, below_a)), (6, (1, l6_h149)), (8, (0, l8_h162)), (9, (0, l9_h162))]) rfl ?_
                    refine r_getC hX hP rfl fl_12_295 hS (fun s18 => ?_)
                    refine r_ex hX hP 2 (pc' := 206) (st' := [(0, l8_h162), (2, (Ad E 90)), (0, l8_h162), (2, (Ad E 90))]) (lo' := [(0, (2, (Ad E 1))), (1, (0, a)), (2, (1, x3)), (4, (1, below_a)), (6, (1, l6_h149)), (8, (0, l8_h162)), (9, (0, l9_h162))]) rfl ?_
                    refine r_lald hX hP rfl al_90 s18 (by first | decide | omega) (by first | decide | omega) (fun x19 x19e x19a x19b => ?_)
                    refine r_ex hX hP 2 (pc' := 209) (st' := [(1, (x19 + 1)), (0, l8_h162), (2, (Ad E 90))]) (lo' := [(0, (2, (Ad E 1))), (1, (0, a)), (2, (1, x3)), (4, (1, below_a)), (6, (1, l6_h149)), (8, (0, l8_h162)), (9, (0, l9_h162))]) rfl ?_
                    refine r_hvL hX (fun w20 w20a w20b w20e => ?_)
                    refine r_lastK hX hP rfl al_90 s18 (by first | decide | omega) (by first | decide | omega) (by first | decide | omega) (by first | decide | omega) (fun h21 => ?_)
                    refine r_ex hX hP 1 (pc' := 211) (st' := [(2, (Ad E 1))]) (lo' := [(0, (2, (Ad E 1))), (1, (0, a)), (2, (1, x3)), (4, (1, below_a)), (6, (1, l6_h149)), (8, (0, l8_h162)), (9, (0, l9_h162))]) rfl ?_
                    refine r_getC hX hP rfl fl_12_298 hS (fun s22 => ?_)
                    refine r_ex hX hP 1 (pc' := 216) (st' := [(0, l8_h162), (2, (Ad E 91))]) (lo' := [(0, (2, (Ad E 1))), (1, (0, a)), (2, (1, x3)), (4, (1, below_a)), (6, (1, l6_h149)), (8, (0, l8_h162)), (9, (0, l9_h162))]) rfl ?_
                    refine r_ldc2 hX hP rfl (v := (-1)) (tbg sg9 135 rfl rfl) ?_
                    refine r_lastK hX hP rfl al_91 s22 (by first | decide | omega) (by first | decide | omega) (by first | decide | omega) (by first | decide | omega) (fun h23 => ?_)
                    refine r_ex hX hP 5 (pc' := 149) (st' := []) (lo' := [(0, (2, (Ad E 1))), (1, (0, a)), (2, (1, x3)), (4, (1, below_a)), (6, (1, (l6_h149 - 1))), (8, (0, l8_h162)), (9, (0, l9_h162))]) rfl ?_
                    refine r_pick hX [0, 1, 2, 3, 4, 5] (lo' := [(0, (2, (Ad E 1))), (1, (0, a)), (2, (1, x3)), (4, (1, below_a)), (6, (1, (l6_h149 - 1))), (8, (0, l8_h162))]) rfl ?_
                    refine r_eqG (X := X) (hq_up (hq_up (hq_base _ _ _ _) rfl) rfl) ?_
                    exact ih149 (l6_h149 - 1) l8_h162 _ (by first | decide | omega) (by first | decide | omega) (by first | decide | omega) (by first | decide | omega) (by first | decide | omega)
                  · skip
                    refine r_ex hX hP 1 (pc' := 172) (st' := [(2, (Ad E 1))]) (lo' := [(0, (2, (Ad E 1))), (1, (0, a)), (2, (1, x3)), (4, (1, below_a)), (6, (1, l6_h149)), (8, (0, l8_h162)), (9, (0, l9_h162))]) rfl ?_
                    refine r_getC hX hP rfl fl_12_298 hS (fun s24 => ?_)
                    refine r_ex hX hP 1 (pc' := 177) (st' := [(0, l9_h162), (2, (Ad E 91))]) (lo' := [(0, (2, (Ad E 1))), (1, (0, a)), (2, (1, x3)), (4, (1, below_a)), (6, (1, l6_h149)), (8, (0, l8_h162)), (9, (0, l9_h162))]) rfl ?_
                    refine r_lald hX hP rfl al_91 s24 (by first | decide | omega) (by first | decide | omega) (fun x25 x25e x25a x25b => ?_)
                    refine r_ex hX hP 1 (pc' := 179) (st' := [(2, (Ad E 1)), (1, x25)]) (lo' := [(0, (2, (Ad E 1))), (1, (0, a)), (2, (1, x3)), (4, (1, below_a)), (6, (1, l6_h149)), (8, (0, l8_h162)), (9, (0, l9_h162))]) rfl ?_
                    refine r_getC hX hP rfl fl_12_298 hS (fun _ => ?_)
                    refine r_ex hX hP 1 (pc' := 184) (st' := [(0, l8_h162), (2, (Ad E 91)), (1, x25)]) (lo' := [(0, (2, (Ad E 1))), (1, (0, a)), (2, (1, x3)), (4, (1, below_a)), (6, (1, l6_h149)), (8, (0, l8_h162)), (9, (0, l9_h162))]) rfl ?_
                    refine r_lald hX hP rfl al_91 s24 (by first | decide | omega) (by first | decide | omega) (fun x26 x26e x26a x26b => ?_)
                    refine r_lc_le hX hP rfl rfl (tgt := 193) rfl (by first | decide | omega) (by first | decide | omega) (by first | decide | omega) (by first | decide | omega) (fun c27 => ?_) (fun c27 => ?_)
                    · skip
                      refine r_ex hX hP 2 (pc' := 162) (st' := []) (lo' := [(0, (2, (Ad E 1))), (1, (0, a)), (2, (1, x3)), (4, (1, below_a)), (6, (1, l6_h149)), (8, (0, l8_h162)), (9, (0, (l9_h162 + 1)))]) rfl ?_
                      exact ih162 l8_h162 (l9_h162 + 1) (by first | decide | omega) (by first | decide | omega) (by first | decide | omega) (by first | decide | omega) (by first | decide | omega)
                    · skip
                      refine r_ex hX hP 4 (pc' := 162) (st' := []) (lo' := [(0, (2, (Ad E 1))), (1, (0, a)), (2, (1, x3)), (4, (1, below_a)), (6, (1, l6_h149)), (8, (0, l9_h162)), (9, (0, (l9_h162 + 1)))]) rfl ?_
                      exact ih162 l9_h162 (l9_h162 + 1) (by first | decide | omega) (by first | decide | omega) (by first | decide | omega) (by first | decide | omega) (by first | decide | omega)
              exact loop162 ((21 - 1) + 1 : Int).toNat 0 1 (by first | decide | omega) (by first | decide | omega) (by first | decide | omega) (by first | decide | omega) (by first | decide | omega)
        refine r_eqG (X := X) (hq_refl [] [90, 91] _) ?_
        exact loop149 ((max l6_h21 0) + 1 : Int).toNat l6_h21 l8_h21 _ (by first | decide | omega) (by first | decide | omega) (by first | decide | omega) (by first | decide | omega) (by first | decide | omega)
      · skip
        refine r_ex hX hP 1 (pc' := 32) (st' := [(0, l8_h21)]) (lo' := [(0, (2, (Ad E 1))), (1, (0, a)), (2, (1, x3)), (4, (1, below_a)), (6, (1, l6_h21)), (8, (0, l8_h21))]) rfl ?_
        refine r_if_eq hX hP rfl (tgt := 48) rfl (by first | decide | omega) (by first | decide | omega) (fun c28 => ?_) (fun c28 => ?_)
        · skip
          refine r_ex hX hP 4 (pc' := 57) (st' := [(0, l8_h21)]) (lo' := [(0, (2, (Ad E 1))), (1, (0, a)), (2, (1, x3)), (4, (1, below_a)), (6, (1, l6_h21)), (8, (0, l8_h21)), (9, (0, 1))]) rfl ?_
          refine r_if_ne hX hP rfl (tgt := 69) rfl (by first | decide | omega) (by first | decide | omega) (fun c29 => ?_) (fun c29 => ?_)
          · skip
            exfalso; omega
          · skip
            refine r_ex hX hP 1 (pc' := 61) (st' := [(2, (Ad E 1))]) (lo' := [(0, (2, (Ad E 1))), (1, (0, a)), (2, (1, x3)), (4, (1, below_a)), (6, (1, l6_h21)), (8, (0, l8_h21)), (9, (0, 1))]) rfl ?_
            refine r_getC hX hP rfl fl_12_268 hS (fun s30 => ?_)
            refine r_ex hX hP 1 (pc' := 65) (st' := [(0, a), (2, (Ad E 81))]) (lo' := [(0, (2, (Ad E 1))), (1, (0, a)), (2, (1, x3)), (4, (1, below_a)), (6, (1, l6_h21)), (8, (0, l8_h21)), (9, (0, 1))]) rfl ?_
            refine r_lald hX hP rfl al_81 s30 (by first | decide | omega) (by first | decide | omega) (fun x31 x31e x31a x31b => ?_)
            refine r_ex hX hP 3 (pc' := 90) (st' := [(2, (Ad E 1))]) (lo' := [(0, (2, (Ad E 1))), (1, (0, a)), (2, (1, x3)), (4, (1, below_a)), (6, (1, l6_h21)), (8, (0, l8_h21)), (9, (0, 1)), (10, (1, x31))]) rfl ?_
            refine r_getC hX hP rfl fl_12_295 hS (fun s32 => ?_)
            refine r_ex hX hP 3 (pc' := 98) (st' := [(1, below_a), (1, x3), (0, l8_h21), (2, (Ad E 90))]) (lo' := [(0, (2, (Ad E 1))), (1, (0, a)), (2, (1, x3)), (4, (1, below_a)), (6, (1, l6_h21)), (8, (0, l8_h21)), (9, (0, 1)), (10, (1, x31))]) rfl ?_
            refine r_ldiv hX hP rfl (by first | decide | omega) (by first | decide | omega) (by first | decide | omega) (by first | decide | omega) (by first | decide | omega) ?_
            obtain ⟨q33, q33e⟩ : ∃ q : Int, q = (Int.tdiv x3 below_a) := ⟨_, rfl⟩
            rw [← q33e]
            have q33b := td_gen q33e (by first | decide | omega)
            refine r_hvL hX (fun w34 w34a w34b w34e => ?_)
            refine r_ex hX hP 2 (pc' := 102) (st' := [(1, (w34 * x31)), (0, l8_h21), (2, (Ad E 90))]) (lo' := [(0, (2, (Ad E 1))), (1, (0, a)), (2, (1, x3)), (4, (1, below_a)), (6, (1, l6_h21)), (8, (0, l8_h21)), (9, (0, 1)), (10, (1, x31))]) rfl ?_
            refine r_hvL hX (fun w35 w35a w35b w35e => ?_)
            refine r_ex hX hP 2 (pc' := 105) (st' := [(1, below_a), (1, x3), (1, w35), (0, l8_h21), (2, (Ad E 90))]) (lo' := [(0, (2, (Ad E 1))), (1, (0, a)), (2, (1, x3)), (4, (1, below_a)), (6, (1, l6_h21)), (8, (0, l8_h21)), (9, (0, 1)), (10, (1, x31))]) rfl ?_
            refine r_lrem hX hP rfl (by first | decide | omega) (by first | decide | omega) (by first | decide | omega) (by first | decide | omega) (by first | decide | omega) ?_
            obtain ⟨q36, q36e⟩ : ∃ q : Int, q = (Int.tmod x3 below_a) := ⟨_, rfl⟩
            rw [← q36e]
            have q36b := tm_gen q36e (by first | decide | omega)
            refine r_ex hX hP 2 (pc' := 109) (st' := [(1, (q36 * x31)), (1, w35), (0, l8_h21), (2, (Ad E 90))]) (lo' := [(0, (2, (Ad E 1))), (1, (0, a)), (2, (1, x3)), (4, (1, below_a)), (6, (1, l6_h21)), (8, (0, l8_h21)), (9, (0, 1)), (10, (1, x31))]) rfl ?_
            refine r_hvL hX (fun w37 w37a w37b w37e => ?_)
            refine r_ex hX hP 1 (pc' := 111) (st' := [(1, below_a), (1, w37), (1, w35), (0, l8_h21), (2, (Ad E 90))]) (lo' := [(0, (2, (Ad E 1))), (1, (0, a)), (2, (1, x3)), (4, (1, below_a)), (6, (1, l6_h21)), (8, (0, l8_h21)), (9, (0, 1)), (10, (1, x31))]) rfl ?_
            refine r_ldiv hX hP rfl (by first | decide | omega) (by first | decide | omega) (by first | decide | omega) (by first | decide | omega) (by first | decide | omega) ?_
            obtain ⟨q38, q38e⟩ : ∃ q : Int, q = (Int.tdiv w37 below_a) := ⟨_, rfl⟩
            rw [← q38e]
            have q38b := td_gen q38e (by first | decide | omega)
            refine r_hvL hX (fun w39 w39a w39b w39e => ?_)
            refine r_ex hX hP 1 (pc' := 113) (st' := [(1, (w35 + w39)), (0, l8_h21), (2, (Ad E 90))]) (lo' := [(0, (2, (Ad E 1))), (1, (0, a)), (2, (1, x3)), (4, (1, below_a)), (6, (1, l6_h21)), (8, (0, l8_h21)), (9, (0, 1)), (10, (1, x31))]) rfl ?_
            refine r_hvL hX (fun w40 w40a w40b w40e => ?_)
            refine r_lastK hX hP rfl al_90 s32 (by first | decide | omega) (by first | decide | omega) (by first | decide | omega) (by first | decide | omega) (fun h41 => ?_)
            refine r_ex hX hP 1 (pc' := 115) (st' := [(2, (Ad E 1))]) (lo' := [(0, (2, (Ad E 1))), (1, (0, a)), (2, (1, x3)), (4, (1, below_a)), (6, (1, l6_h21)), (8, (0, l8_h21)), (9, (0, 1)), (10, (1, x31))]) rfl ?_
            refine r_getC hX hP rfl fl_12_298 hS (fun s42 => ?_)
            refine r_ex hX hP 3 (pc' := 123) (st' := [(1, below_a), (1, x3), (0, l8_h21), (2, (Ad E 91))]) (lo' := [(0, (2, (Ad E 1))), (1, (0, a)), (2, (1, x3)), (4, (1, below_a)), (6, (1, l6_h21)), (8, (0, l8_h21)), (9, (0, 1)), (10, (1, x31))]) rfl ?_
            refine r_lrem hX hP rfl (by first | decide | omega) (by first | decide | omega) (by first | decide | omega) (by first | decide | omega) (by first | decide | omega) ?_
            obtain ⟨q43, q43e⟩ : ∃ q : Int, q = (Int.tmod x3 below_a) := ⟨_, rfl⟩
            rw [← q43e]
            have q43b := tm_gen q43e (by first | decide | omega)
            refine r_ex hX hP 2 (pc' := 127) (st' := [(1, (q43 * x31)), (0, l8_h21), (2, (Ad E 91))]) (lo' := [(0, (2, (Ad E 1))), (1, (0, a)), (2, (1, x3)), (4, (1, below_a)), (6, (1, l6_h21)), (8, (0, l8_h21)), (9, (0, 1)), (10, (1, x31))]) rfl ?_
            refine r_hvL hX (fun w44 w44a w44b w44e => ?_)
            refine r_ex hX hP 1 (pc' := 129) (st' := [(1, below_a), (1, w44), (0, l8_h21), (2, (Ad E 91))]) (lo' := [(0, (2, (Ad E 1))), (1, (0, a)), (2, (1, x3)), (4, (1, below_a)), (6, (1, l6_h21)), (8, (0, l8_h21)), (9, (0, 1)), (10, (1, x31))]) rfl ?_
            refine r_lrem hX hP rfl (by first | decide | omega) (by first | decide | omega) (by first | decide | omega) (by first | decide | omega) (by first | decide | omega) ?_
            obtain ⟨q45, q45e⟩ : ∃ q : Int, q = (Int.tmod w44 below_a) := ⟨_, rfl⟩
            rw [← q45e]
            have q45b := tm_gen q45e (by first | decide | omega)
            refine r_lastK hX hP rfl al_91 s42 (by first | decide | omega) (by first | decide | omega) (by first | decide | omega) (by first | decide | omega) (fun h46 => ?_)
            refine r_ex hX hP 2 (pc' := 134) (st' := [(2, (Ad E 1)), (1, l6_h21)]) (lo' := [(0, (2, (Ad E 1))), (1, (0, a)), (2, (1, x3)), (4, (1, below_a)), (6, (1, l6_h21)), (8, (0, l8_h21)), (9, (0, 1)), (10, (1, x31))]) rfl ?_
            refine r_getC hX hP rfl fl_12_295 hS (fun _ => ?_)
            refine r_ex hX hP 1 (pc' := 139) (st' := [(0, l8_h21), (2, (Ad E 90)), (1, l6_h21)]) (lo' := [(0, (2, (Ad E 1))), (1, (0, a)), (2, (1, x3)), (4, (1, below_a)), (6, (1, l6_h21)), (8, (0, l8_h21)), (9, (0, 1)), (10, (1, x31))]) rfl ?_
            refine r_laldK hX hP rfl al_90 s32 (by first | decide | omega) (by first | decide | omega) (x := w40) h41 ?_
            refine r_ex hX hP 1 (pc' := 141) (st' := [(1, (l6_h21 - w40))]) (lo' := [(0, (2, (Ad E 1))), (1, (0, a)), (2, (1, x3)), (4, (1, below_a)), (6, (1, l6_h21)), (8, (0, l8_h21)), (9, (0, 1)), (10, (1, x31))]) rfl ?_
            refine r_hvL hX (fun w47 w47a w47b w47e => ?_)
            refine r_ex hX hP 3 (pc' := 21) (st' := []) (lo' := [(0, (2, (Ad E 1))), (1, (0, a)), (2, (1, x3)), (4, (1, below_a)), (6, (1, w47)), (8, (0, (l8_h21 + 1))), (9, (0, 1)), (10, (1, x31))]) rfl ?_
            refine r_pick hX [0, 1, 2, 3, 4, 5] (lo' := [(0, (2, (Ad E 1))), (1, (0, a)), (2, (1, x3)), (4, (1, below_a)), (6, (1, w47)), (8, (0, (l8_h21 + 1)))]) rfl ?_
            refine r_eqG (X := X) (hq_up (hq_up (hq_base _ _ _ _) rfl) rfl) ?_
            exact ih21 w47 (l8_h21 + 1) _ (by first | decide | omega) (by first | decide | omega) (by first | decide | omega) (by first | decide | omega) (by first | decide | omega)
        · skip
          refine r_ex hX hP 1 (pc' := 36) (st' := [(2, (Ad E 1))]) (lo' := [(0, (2, (Ad E 1))), (1, (0, a)), (2, (1, x3)), (4, (1, below_a)), (6, (1, l6_h21)), (8, (0, l8_h21))]) rfl ?_
          refine r_getC hX hP rfl fl_12_18 hS (fun s48 => ?_)
          refine r_ex hX hP 3 (pc' := 43) (st' := [(0, (l8_h21 - 1)), (2, (Ad E 2))]) (lo' := [(0, (2, (Ad E 1))), (1, (0, a)), (2, (1, x3)), (4, (1, below_a)), (6, (1, l6_h21)), (8, (0, l8_h21))]) rfl ?_
          refine r_iald hX hP rfl al_2 s48 (by first | decide | omega) (by first | decide | omega) (fun x49 x49e x49a x49b => ?_)
          refine r_ex hX hP 1 (pc' := 45) (st' := [(0, a), (0, x49)]) (lo' := [(0, (2, (Ad E 1))), (1, (0, a)), (2, (1, x3)), (4, (1, below_a)), (6, (1, l6_h21)), (8, (0, l8_h21))]) rfl ?_
          refine r_ic_ne hX hP rfl (tgt := 52) rfl (by first | decide | omega) (by first | decide | omega) (by first | decide | omega) (by first | decide | omega) (fun c50 => ?_) (fun c50 => ?_)
          · skip
            refine r_ex hX hP 3 (pc' := 57) (st' := [(0, l8_h21)]) (lo' := [(0, (2, (Ad E 1))), (1, (0, a)), (2, (1, x3)), (4, (1, below_a)), (6, (1, l6_h21)), (8, (0, l8_h21)), (9, (0, 0))]) rfl ?_
            refine r_if_ne hX hP rfl (tgt := 69) rfl (by first | decide | omega) (by first | decide | omega) (fun c51 => ?_) (fun c51 => ?_)
            · skip
              refine r_ex hX hP 1 (pc' := 71) (st' := [(0, 0)]) (lo' := [(0, (2, (Ad E 1))), (1, (0, a)), (2, (1, x3)), (4, (1, below_a)), (6, (1, l6_h21)), (8, (0, l8_h21)), (9, (0, 0))]) rfl ?_
              refine r_if_eq hX hP rfl (tgt := 86) rfl (by first | decide | omega) (by first | decide | omega) (fun c52 => ?_) (fun c52 => ?_)
              · skip
                refine r_ex hX hP 3 (pc' := 90) (st' := [(2, (Ad E 1))]) (lo' := [(0, (2, (Ad E 1))), (1, (0, a)), (2, (1, x3)), (4, (1, below_a)), (6, (1, l6_h21)), (8, (0, l8_h21)), (9, (0, 0)), (10, (1, 0))]) rfl ?_
                refine r_getC hX hP rfl fl_12_295 hS (fun s53 => ?_)
                refine r_ex hX hP 3 (pc' := 98) (st' := [(1, below_a), (1, x3), (0, l8_h21), (2, (Ad E 90))]) (lo' := [(0, (2, (Ad E 1))), (1, (0, a)), (2, (1, x3)), (4, (1, below_a)), (6, (1, l6_h21)), (8, (0, l8_h21)), (9, (0, 0)), (10, (1, 0))]) rfl ?_
                refine r_ldiv hX hP rfl (by first | decide | omega) (by first | decide | omega) (by first | decide | omega) (by first | decide | omega) (by first | decide | omega) ?_
                obtain ⟨q54, q54e⟩ : ∃ q : Int, q = (Int.tdiv x3 below_a) := ⟨_, rfl⟩
                rw [← q54e]
                have q54b := td_gen q54e (by first | decide | omega)
                refine r_hvL hX (fun w55 w55a w55b w55e => ?_)
                refine r_ex hX hP 4 (pc' := 105) (st' := [(1, below_a), (1, x3), (1, (w55 * 0)), (0, l8_h21), (2, (Ad E 90))]) (lo' := [(0, (2, (Ad E 1))), (1, (0, a)), (2, (1, x3)), (4, (1, below_a)), (6, (1, l6_h21)), (8, (0, l8_h21)), (9, (0, 0)), (10, (1, 0))]) rfl ?_
                refine r_lrem hX hP rfl (by first | decide | omega) (by first | decide | omega) (by first | decide | omega) (by first | decide | omega) (by first | decide | omega) ?_
                obtain ⟨q56, q56e⟩ : ∃ q : Int, q = (Int.tmod x3 below_a) := ⟨_, rfl⟩
                rw [← q56e]
                have q56b := tm_gen q56e (by first | decide | omega)
                refine r_ex hX hP 3 (pc' := 111) (st' := [(1, below_a), (1, (q56 * 0)), (1, (w55 * 0)), (0, l8_h21), (2, (Ad E 90))]) (lo' := [(0, (2, (Ad E 1))), (1, (0, a)), (2, (1, x3)), (4, (1, below_a)), (6, (1, l6_h21)), (8, (0, l8_h21)), (9, (0, 0)), (10, (1, 0))]) rfl ?_
                refine r_ldiv hX hP rfl (by first | decide | omega) (by first | decide | omega) (by first | decide | omega) (by first | decide | omega) (by first | decide | omega) ?_
                obtain ⟨q57, q57e⟩ : ∃ q : Int, q = (Int.tdiv (q56 * 0) below_a) := ⟨_, rfl⟩
                rw [← q57e]
                have q57b := td_pos q57e (by first | decide | omega) (by first | decide | omega)
                refine r_ex hX hP 1 (pc' := 113) (st' := [(1, ((w55 * 0) + q57)), (0, l8_h21), (2, (Ad E 90))]) (lo' := [(0, (2, (Ad E 1))), (1, (0, a)), (2, (1, x3)), (4, (1, below_a)), (6, (1, l6_h21)), (8, (0, l8_h21)), (9, (0, 0)), (10, (1, 0))]) rfl ?_
                refine r_lastK hX hP rfl al_90 s53 (by first | decide | omega) (by first | decide | omega) (by first | decide | omega) (by first | decide | omega) (fun h58 => ?_)
                refine r_ex hX hP 1 (pc' := 115) (st' := [(2, (Ad E 1))]) (lo' := [(0, (2, (Ad E 1))), (1, (0, a)), (2, (1, x3)), (4, (1, below_a)), (6, (1, l6_h21)), (8, (0, l8_h21)), (9, (0, 0)), (10, (1, 0))]) rfl ?_
                refine r_getC hX hP rfl fl_12_298 hS (fun s59 => ?_)
                refine r_ex hX hP 3 (pc' := 123) (st' := [(1, below_a), (1, x3), (0, l8_h21), (2, (Ad E 91))]) (lo' := [(0, (2, (Ad E 1))), (1, (0, a)), (2, (1, x3)), (4, (1, below_a)), (6, (1, l6_h21)), (8, (0, l8_h21)), (9, (0, 0)), (10, (1, 0))]) rfl ?_
                refine r_lrem hX hP rfl (by first | decide | omega) (by first | decide | omega) (by first | decide | omega) (by first | decide | omega) (by first | decide | omega) ?_
                obtain ⟨q60, q60e⟩ : ∃ q : Int, q = (Int.tmod x3 below_a) := ⟨_, rfl⟩
                rw [← q60e]
                have q60b := tm_gen q60e (by first | decide | omega)
                refine r_ex hX hP 3 (pc' := 129) (st' := [(1, below_a), (1, (q60 * 0)), (0, l8_h21), (2, (Ad E 91))]) (lo' := [(0, (2, (Ad E 1))), (1, (0, a)), (2, (1, x3)), (4, (1, below_a)), (6, (1, l6_h21)), (8, (0, l8_h21)), (9, (0, 0)), (10, (1, 0))]) rfl ?_
                refine r_lrem hX hP rfl (by first | decide | omega) (by first | decide | omega) (by first | decide | omega) (by first | decide | omega) (by first | decide | omega) ?_
                obtain ⟨q61, q61e⟩ : ∃ q : Int, q = (Int.tmod (q60 * 0) below_a) := ⟨_, rfl⟩
                rw [← q61e]
                have q61b := tm_pos q61e (by first | decide | omega) (by first | decide | omega)
                refine r_lastK hX hP rfl al_91 s59 (by first | decide | omega) (by first | decide | omega) (by first | decide | omega) (by first | decide | omega) (fun h62 => ?_)
                refine r_ex hX hP 2 (pc' := 134) (st' := [(2, (Ad E 1)), (1, l6_h21)]) (lo' := [(0, (2, (Ad E 1))), (1, (0, a)), (2, (1, x3)), (4, (1, below_a)), (6, (1, l6_h21)), (8, (0, l8_h21)), (9, (0, 0)), (10, (1, 0))]) rfl ?_
                refine r_getC hX hP rfl fl_12_295 hS (fun _ => ?_)
                refine r_ex hX hP 1 (pc' := 139) (st' := [(0, l8_h21), (2, (Ad E 90)), (1, l6_h21)]) (lo' := [(0, (2, (Ad E 1))), (1, (0, a)), (2, (1, x3)), (4, (1, below_a)), (6, (1, l6_h21)), (8, (0, l8_h21)), (9, (0, 0)), (10, (1, 0))]) rfl ?_
                refine r_laldK hX hP rfl al_90 s53 (by first | decide | omega) (by first | decide | omega) (x := ((w55 * 0) + q57)) h58 ?_
                refine r_ex hX hP 4 (pc' := 21) (st' := []) (lo' := [(0, (2, (Ad E 1))), (1, (0, a)), (2, (1, x3)), (4, (1, below_a)), (6, (1, (l6_h21 - ((w55 * 0) + q57)))), (8, (0, (l8_h21 + 1))), (9, (0, 0)), (10, (1, 0))]) rfl ?_
                refine r_pick hX [0, 1, 2, 3, 4, 5] (lo' := [(0, (2, (Ad E 1))), (1, (0, a)), (2, (1, x3)), (4, (1, below_a)), (6, (1, (l6_h21 - ((w55 * 0) + q57)))), (8, (0, (l8_h21 + 1)))]) rfl ?_
                refine r_eqG (X := X) (hq_up (hq_up (hq_base _ _ _ _) rfl) rfl) ?_
                exact ih21 (l6_h21 - ((w55 * 0) + q57)) (l8_h21 + 1) _ (by first | decide | omega) (by first | decide | omega) (by first | decide | omega) (by first | decide | omega) (by first | decide | omega)
              · skip
                exfalso; omega
            · skip
              exfalso; omega
          · skip
            refine r_ex hX hP 4 (pc' := 57) (st' := [(0, l8_h21)]) (lo' := [(0, (2, (Ad E 1))), (1, (0, a)), (2, (1, x3)), (4, (1, below_a)), (6, (1, l6_h21)), (8, (0, l8_h21)), (9, (0, 1))]) rfl ?_
            refine r_if_ne hX hP rfl (tgt := 69) rfl (by first | decide | omega) (by first | decide | omega) (fun c63 => ?_) (fun c63 => ?_)
            · skip
              refine r_ex hX hP 1 (pc' := 71) (st' := [(0, 1)]) (lo' := [(0, (2, (Ad E 1))), (1, (0, a)), (2, (1, x3)), (4, (1, below_a)), (6, (1, l6_h21)), (8, (0, l8_h21)), (9, (0, 1))]) rfl ?_
              refine r_if_eq hX hP rfl (tgt := 86) rfl (by first | decide | omega) (by first | decide | omega) (fun c64 => ?_) (fun c64 => ?_)
              · skip
                exfalso; omega
              · skip
                refine r_ex hX hP 1 (pc' := 75) (st' := [(2, (Ad E 1))]) (lo' := [(0, (2, (Ad E 1))), (1, (0, a)), (2, (1, x3)), (4, (1, below_a)), (6, (1, l6_h21)), (8, (0, l8_h21)), (9, (0, 1))]) rfl ?_
                refine r_getC hX hP rfl fl_12_277 hS (fun _ => ?_)
                refine r_ex hX hP 3 (pc' := 82) (st' := [(0, (l8_h21 - 1)), (2, (Ad E 84))]) (lo' := [(0, (2, (Ad E 1))), (1, (0, a)), (2, (1, x3)), (4, (1, below_a)), (6, (1, l6_h21)), (8, (0, l8_h21)), (9, (0, 1))]) rfl ?_
                refine r_lald hX hP rfl al_84 s1 (by first | decide | omega) (by first | decide | omega) (fun x65 x65e x65a x65b => ?_)
                refine r_ex hX hP 3 (pc' := 90) (st' := [(2, (Ad E 1))]) (lo' := [(0, (2, (Ad E 1))), (1, (0, a)), (2, (1, x3)), (4, (1, below_a)), (6, (1, l6_h21)), (8, (0, l8_h21)), (9, (0, 1)), (10, (1, x65))]) rfl ?_
                refine r_getC hX hP rfl fl_12_295 hS (fun s66 => ?_)
                refine r_ex hX hP 3 (pc' := 98) (st' := [(1, below_a), (1, x3), (0, l8_h21), (2, (Ad E 90))]) (lo' := [(0, (2, (Ad E 1))), (1, (0, a)), (2, (1, x3)), (4, (1, below_a)), (6, (1, l6_h21)), (8, (0, l8_h21)), (9, (0, 1)), (10, (1, x65))]) rfl ?_
                refine r_ldiv hX hP rfl (by first | decide | omega) (by first | decide | omega) (by first | decide | omega) (by first | decide | omega) (by first | decide | omega) ?_
                obtain ⟨q67, q67e⟩ : ∃ q : Int, q = (Int.tdiv x3 below_a) := ⟨_, rfl⟩
                rw [← q67e]
                have q67b := td_gen q67e (by first | decide | omega)
                refine r_hvL hX (fun w68 w68a w68b w68e => ?_)
                refine r_ex hX hP 2 (pc' := 102) (st' := [(1, (w68 * x65)), (0, l8_h21), (2, (Ad E 90))]) (lo' := [(0, (2, (Ad E 1))), (1, (0, a)), (2, (1, x3)), (4, (1, below_a)), (6, (1, l6_h21)), (8, (0, l8_h21)), (9, (0, 1)), (10, (1, x65))]) rfl ?_
                refine r_hvL hX (fun w69 w69a w69b w69e => ?_)
                refine r_ex hX hP 2 (pc' := 105) (st' := [(1, below_a), (1, x3), (1, w69), (0, l8_h21), (2, (Ad E 90))]) (lo' := [(0, (2, (Ad E 1))), (1, (0, a)), (2, (1, x3)), (4, (1, below_a)), (6, (1, l6_h21)), (8, (0, l8_h21)), (9, (0, 1)), (10, (1, x65))]) rfl ?_
                refine r_lrem hX hP rfl (by first | decide | omega) (by first | decide | omega) (by first | decide | omega) (by first | decide | omega) (by first | decide | omega) ?_
                obtain ⟨q70, q70e⟩ : ∃ q : Int, q = (Int.tmod x3 below_a) := ⟨_, rfl⟩
                rw [← q70e]
                have q70b := tm_gen q70e (by first | decide | omega)
                refine r_ex hX hP 2 (pc' := 109) (st' := [(1, (q70 * x65)), (1, w69), (0, l8_h21), (2, (Ad E 90))]) (lo' := [(0, (2, (Ad E 1))), (1, (0, a)), (2, (1, x3)), (4, (1, below_a)), (6, (1, l6_h21)), (8, (0, l8_h21)), (9, (0, 1)), (10, (1, x65))]) rfl ?_
                refine r_hvL hX (fun w71 w71a w71b w71e => ?_)
                refine r_ex hX hP 1 (pc' := 111) (st' := [(1, below_a), (1, w71), (1, w69), (0, l8_h21), (2, (Ad E 90))]) (lo' := [(0, (2, (Ad E 1))), (1, (0, a)), (2, (1, x3)), (4, (1, below_a)), (6, (1, l6_h21)), (8, (0, l8_h21)), (9, (0, 1)), (10, (1, x65))]) rfl ?_
                refine r_ldiv hX hP rfl (by first | decide | omega) (by first | decide | omega) (by first | decide | omega) (by first | decide | omega) (by first | decide | omega) ?_
                obtain ⟨q72, q72e⟩ : ∃ q : Int, q = (Int.tdiv w71 below_a) := ⟨_, rfl⟩
                rw [← q72e]
                have q72b := td_gen q72e (by first | decide | omega)
                refine r_hvL hX (fun w73 w73a w73b w73e => ?_)
                refine r_ex hX hP 1 (pc' := 113) (st' := [(1, (w69 + w73)), (0, l8_h21), (2, (Ad E 90))]) (lo' := [(0, (2, (Ad E 1))), (1, (0, a)), (2, (1, x3)), (4, (1, below_a)), (6, (1, l6_h21)), (8, (0, l8_h21)), (9, (0, 1)), (10, (1, x65))]) rfl ?_
                refine r_hvL hX (fun w74 w74a w74b w74e => ?_)
                refine r_lastK hX hP rfl al_90 s66 (by first | decide | omega) (by first | decide | omega) (by first | decide | omega) (by first | decide | omega) (fun h75 => ?_)
                refine r_ex hX hP 1 (pc' := 115) (st' := [(2, (Ad E 1))]) (lo' := [(0, (2, (Ad E 1))), (1, (0, a)), (2, (1, x3)), (4, (1, below_a)), (6, (1, l6_h21)), (8, (0, l8_h21)), (9, (0, 1)), (10, (1, x65))]) rfl ?_
                refine r_getC hX hP rfl fl_12_298 hS (fun s76 => ?_)
                refine r_ex hX hP 3 (pc' := 123) (st' := [(1, below_a), (1, x3), (0, l8_h21), (2, (Ad E 91))]) (lo' := [(0, (2, (Ad E 1))), (1, (0, a)), (2, (1, x3)), (4, (1, below_a)), (6, (1, l6_h21)), (8, (0, l8_h21)), (9, (0, 1)), (10, (1, x65))]) rfl ?_
                refine r_lrem hX hP rfl (by first | decide | omega) (by first | decide | omega) (by first | decide | omega) (by first | decide | omega) (by first | decide | omega) ?_
                obtain ⟨q77, q77e⟩ : ∃ q : Int, q = (Int.tmod x3 below_a) := ⟨_, rfl⟩
                rw [← q77e]
                have q77b := tm_gen q77e (by first | decide | omega)
                refine r_ex hX hP 2 (pc' := 127) (st' := [(1, (q77 * x65)), (0, l8_h21), (2, (Ad E 91))]) (lo' := [(0, (2, (Ad E 1))), (1, (0, a)), (2, (1, x3)), (4, (1, below_a)), (6, (1, l6_h21)), (8, (0, l8_h21)), (9, (0, 1)), (10, (1, x65))]) rfl ?_
                refine r_hvL hX (fun w78 w78a w78b w78e => ?_)
                refine r_ex hX hP 1 (pc' := 129) (st' := [(1, below_a), (1, w78), (0, l8_h21), (2, (Ad E 91))]) (lo' := [(0, (2, (Ad E 1))), (1, (0, a)), (2, (1, x3)), (4, (1, below_a)), (6, (1, l6_h21)), (8, (0, l8_h21)), (9, (0, 1)), (10, (1, x65))]) rfl ?_
                refine r_lrem hX hP rfl (by first | decide | omega) (by first | decide | omega) (by first | decide | omega) (by first | decide | omega) (by first | decide | omega) ?_
                obtain ⟨q79, q79e⟩ : ∃ q : Int, q = (Int.tmod w78 below_a) := ⟨_, rfl⟩
                rw [← q79e]
                have q79b := tm_gen q79e (by first | decide | omega)
                refine r_lastK hX hP rfl al_91 s76 (by first | decide | omega) (by first | decide | omega) (by first | decide | omega) (by first | decide | omega) (fun h80 => ?_)
                refine r_ex hX hP 2 (pc' := 134) (st' := [(2, (Ad E 1)), (1, l6_h21)]) (lo' := [(0, (2, (Ad E 1))), (1, (0, a)), (2, (1, x3)), (4, (1, below_a)), (6, (1, l6_h21)), (8, (0, l8_h21)), (9, (0, 1)), (10, (1, x65))]) rfl ?_
                refine r_getC hX hP rfl fl_12_295 hS (fun _ => ?_)
                refine r_ex hX hP 1 (pc' := 139) (st' := [(0, l8_h21), (2, (Ad E 90)), (1, l6_h21)]) (lo' := [(0, (2, (Ad E 1))), (1, (0, a)), (2, (1, x3)), (4, (1, below_a)), (6, (1, l6_h21)), (8, (0, l8_h21)), (9, (0, 1)), (10, (1, x65))]) rfl ?_
                refine r_laldK hX hP rfl al_90 s66 (by first | decide | omega) (by first | decide | omega) (x := w74) h75 ?_
                refine r_ex hX hP 1 (pc' := 141) (st' := [(1, (l6_h21 - w74))]) (lo' := [(0, (2, (Ad E 1))), (1, (0, a)), (2, (1, x3)), (4, (1, below_a)), (6, (1, l6_h21)), (8, (0, l8_h21)), (9, (0, 1)), (10, (1, x65))]) rfl ?_
                refine r_hvL hX (fun w81 w81a w81b w81e => ?_)
                refine r_ex hX hP 3 (pc' := 21) (st' := []) (lo' := [(0, (2, (Ad E 1))), (1, (0, a)), (2, (1, x3)), (4, (1, below_a)), (6, (1, w81)), (8, (0, (l8_h21 + 1))), (9, (0, 1)), (10, (1, x65))]) rfl ?_
                refine r_pick hX [0, 1, 2, 3, 4, 5] (lo' := [(0, (2, (Ad E 1))), (1, (0, a)), (2, (1, x3)), (4, (1, below_a)), (6, (1, w81)), (8, (0, (l8_h21 + 1)))]) rfl ?_
                refine r_eqG (X := X) (hq_up (hq_up (hq_base _ _ _ _) rfl) rfl) ?_
                exact ih21 w81 (l8_h21 + 1) _ (by first | decide | omega) (by first | decide | omega) (by first | decide | omega) (by first | decide | omega) (by first | decide | omega)
            · skip
              exfalso; omega
  refine r_eqG (X := X) (hq_refl [] [90, 91] _) ?_
  exact loop21 ((21 - 0) + 1 : Int).toNat x3 0 _ (by first | decide | omega) (by first | decide | omega) (by first | decide | omega) (by first | decide | omega) (by first | decide | omega)
set_option maxRecDepth 100000 in
set_option maxHeartbeats 4000000 in
theorem c_X12_parts (E : En) (S : Sg) (G : Gh) (x root : Int) (hS : S (Ad E 1) = 1) (x_a : (-9223372036854775808) ≤ x) (x_b : x ≤ 9223372036854775807) (root_a : 0 ≤ root) (root_b : root ≤ 19) : Calls E mX12_parts [(2, (Ad E 1)), (1, x), (0, root)] S G 1 0 0 (fun r S' G' => S = S' ∧ (∃ G1, hv [] [82, 83, 84, 90, 91] G G1 = G') ∧ r = none ∧ True) := by
  refine calls_by [(0, (2, (Ad E 1))), (1, (1, x)), (3, (0, root))] rfl rfl (Nat.le_of_ble_eq_true rfl) (fun X hX => ?_)
  have hP := hPX12_parts
  refine r_ex hX hP 1 (pc' := 1) (st' := [(2, (Ad E 1))]) (lo' := [(0, (2, (Ad E 1))), (1, (1, x)), (3, (0, root))]) rfl ?_
  refine r_callV gd hX hP rfl cv_12_521 hS (d' := 0) (mc' := 0) (ms' := 0) (as' := []) (st := []) (by first | decide | omega) (by first | decide | omega) (by first | decide | omega) rfl rfl (Nat.le_of_ble_eq_true rfl) (c_X12_sumUp E S G  hS) ?_
  rintro _ _ _ ⟨rfl, ⟨G1, rfl⟩, rfl, -⟩
  refine r_ex hX hP 2 (pc' := 7) (st' := []) (lo' := [(0, (2, (Ad E 1))), (1, (1, x)), (3, (0, root)), (4, (0, 0))]) rfl ?_
  have loop7 : ∀ (nF : Nat) (l4_h7 : Int) (Gh7 : Gh), 0 ≤ l4_h7 → l4_h7 ≤ 20 → 20 - l4_h7 < (nF : Int) → X 0 0 7 [] [(0, (2, (Ad E 1))), (1, (1, x)), (3, (0, root)), (4, (0, l4_h7))] S (hv [] [82, 83] (hv [] [84] G G1) Gh7) := by
    intro nF
    induction nF with
    | zero => intro l4_h7 Gh7 yh7_0 yh7_1 ym7; exfalso; omega
    | succ nF ih7 =>
      intro l4_h7 Gh7 yh7_0 yh7_1 ym7
      refine r_ex hX hP 2 (pc' := 10) (st' := [(2, (Ad E 1)), (0, l4_h7)]) (lo' := [(0, (2, (Ad E 1))), (1, (1, x)), (3, (0, root)), (4, (0, l4_h7))]) rfl ?_
      refine r_getI hX hP rfl fl_12_314 hS (fun af2 af2e af2a af2b => ?_)
      refine r_ic_ge hX hP rfl (tgt := 48) rfl (by first | decide | omega) (by first | decide | omega) (by first | decide | omega) (by first | decide | omega) (fun c3 => ?_) (fun c3 => ?_)
      · skip
        refine r_ex hX hP 2 (pc' := 51) (st' := []) (lo' := [(0, (2, (Ad E 1))), (1, (1, x)), (3, (0, root)), (4, (0, root))]) rfl ?_
        have loop51 : ∀ (nF : Nat) (l4_h51 : Int) (Gh51 : Gh), 0 ≤ l4_h51 → l4_h51 ≤ 20 → 20 - l4_h51 < (nF : Int) → X 0 0 51 [] [(0, (2, (Ad E 1))), (1, (1, x)), (3, (0, root)), (4, (0, l4_h51))] S (hv [] [82, 83, 90, 91] (hv [] [82, 83] (hv [] [84] G G1) Gh7) Gh51) := by
          intro nF
          induction nF with
          | zero => intro l4_h51 Gh51 yh51_0 yh51_1 ym51; exfalso; omega
          | succ nF ih51 =>
            intro l4_h51 Gh51 yh51_0 yh51_1 ym51
            refine r_ex hX hP 2 (pc' := 54) (st' := [(2, (Ad E 1)), (0, l4_h51)]) (lo' := [(0, (2, (Ad E 1))), (1, (1, x)), (3, (0, root)), (4, (0, l4_h51))]) rfl ?_
            refine r_getKI hX hP rfl fl_12_314 hS (x := af2) af2e ?_
            refine r_ic_ge hX hP rfl (tgt := 96) rfl (by first | decide | omega) (by first | decide | omega) (by first | decide | omega) (by first | decide | omega) (fun c4 => ?_) (fun c4 => ?_)
            · skip
              exact r_retV hX hP rfl rfl (by first | decide | omega) (by first | decide | omega) ⟨rfl, ⟨_, (hq_loop (hq_loop (hq_call (hq_refl _ _ _) rfl) rfl) rfl).symm⟩, rfl, trivial⟩
            · skip
              refine r_ex hX hP 1 (pc' := 61) (st' := [(2, (Ad E 1))]) (lo' := [(0, (2, (Ad E 1))), (1, (1, x)), (3, (0, root)), (4, (0, l4_h51))]) rfl ?_
              refine r_getC hX hP rfl fl_12_274 hS (fun s5 => ?_)
              refine r_ex hX hP 1 (pc' := 66) (st' := [(0, l4_h51), (2, (Ad E 83))]) (lo' := [(0, (2, (Ad E 1))), (1, (1, x)), (3, (0, root)), (4, (0, l4_h51))]) rfl ?_
              refine r_lald hX hP rfl al_83 s5 (by first | decide | omega) (by first | decide | omega) (fun x6 x6e x6a x6b => ?_)
              refine r_ex hX hP 1 (pc' := 68) (st' := [(1, 0), (1, x6)]) (lo' := [(0, (2, (Ad E 1))), (1, (1, x)), (3, (0, root)), (4, (0, l4_h51))]) rfl ?_
              refine r_lc_le hX hP rfl rfl (tgt := 90) rfl (by first | decide | omega) (by first | decide | omega) (by first | decide | omega) (by first | decide | omega) (fun c7 => ?_) (fun c7 => ?_)
              · skip
                refine r_ex hX hP 2 (pc' := 51) (st' := []) (lo' := [(0, (2, (Ad E 1))), (1, (1, x)), (3, (0, root)), (4, (0, (l4_h51 + 1)))]) rfl ?_
                refine r_eqG (X := X) (hq_base _ _ _ _) ?_
                exact ih51 (l4_h51 + 1) _ (by first | decide | omega) (by first | decide | omega) (by first | decide | omega)
              · skip
                refine r_ex hX hP 1 (pc' := 73) (st' := [(2, (Ad E 1))]) (lo' := [(0, (2, (Ad E 1))), (1, (1, x)), (3, (0, root)), (4, (0, l4_h51))]) rfl ?_
                refine r_getC hX hP rfl fl_12_277 hS (fun s8 => ?_)
                refine r_ex hX hP 1 (pc' := 78) (st' := [(0, l4_h51), (2, (Ad E 84))]) (lo' := [(0, (2, (Ad E 1))), (1, (1, x)), (3, (0, root)), (4, (0, l4_h51))]) rfl ?_
                refine r_lald hX hP rfl al_84 s8 (by first | decide | omega) (by first | decide | omega) (fun x9 x9e x9a x9b => ?_)
                refine r_ex hX hP 1 (pc' := 80) (st' := [(1, 0), (1, x9)]) (lo' := [(0, (2, (Ad E 1))), (1, (1, x)), (3, (0, root)), (4, (0, l4_h51))]) rfl ?_
                refine r_lc_le hX hP rfl rfl (tgt := 90) rfl (by first | decide | omega) (by first | decide | omega) (by first | decide | omega) (by first | decide | omega) (fun c10 => ?_) (fun c10 => ?_)
                · skip
                  refine r_ex hX hP 2 (pc' := 51) (st' := []) (lo' := [(0, (2, (Ad E 1))), (1, (1, x)), (3, (0, root)), (4, (0, (l4_h51 + 1)))]) rfl ?_
                  refine r_eqG (X := X) (hq_base _ _ _ _) ?_
                  exact ih51 (l4_h51 + 1) _ (by first | decide | omega) (by first | decide | omega) (by first | decide | omega)
                · skip
                  refine r_ex hX hP 2 (pc' := 87) (st' := [(0, l4_h51), (2, (Ad E 1))]) (lo' := [(0, (2, (Ad E 1))), (1, (1, x)), (3, (0, root)), (4, (0, l4_h51))]) rfl ?_
                  refine r_callV gd hX hP rfl cv_12_524 hS (d' := 0) (mc' := 0) (ms' := 0) (as' := [(0, l4_h51)]) (st := []) (by first | decide | omega) (by first | decide | omega) (by first | decide | omega) rfl rfl (Nat.le_of_ble_eq_true rfl) (c_X12_partOne E S (hv [] [82, 83, 90, 91] (hv [] [82, 83] (hv [] [84] G G1) Gh7) Gh51) l4_h51 hS x9 x9e (by first | decide | omega) (by first | decide | omega) (by first | decide | omega)) ?_
                  rintro _ _ _ ⟨rfl, ⟨G11, rfl⟩, rfl, -⟩
                  refine r_ex hX hP 2 (pc' := 51) (st' := []) (lo' := [(0, (2, (Ad E 1))), (1, (1, x)), (3, (0, root)), (4, (0, (l4_h51 + 1)))]) rfl ?_
                  refine r_eqG (X := X) (hq_call (hq_base _ _ _ _) rfl) ?_
                  exact ih51 (l4_h51 + 1) _ (by first | decide | omega) (by first | decide | omega) (by first | decide | omega)
        refine r_eqG (X := X) (hq_refl [] [82, 83, 90, 91] _) ?_
        exact loop51 ((20 - root) + 1 : Int).toNat root _ (by first | decide | omega) (by first | decide | omega) (by first | decide | omega)
      · skip
        refine r_ex hX hP 1 (pc' := 17) (st' := [(2, (Ad E 1))]) (lo' := [(0, (2, (Ad E 1))), (1, (1, x)), (3, (0, root)), (4, (0, l4_h7))]) rfl ?_
        refine r_getC hX hP rfl fl_12_274 hS (fun s12 => ?_)
        refine r_ex hX hP 3 (pc' := 25) (st' := [(0, root), (0, l4_h7), (0, l4_h7), (2, (Ad E 83))]) (lo' := [(0, (2, (Ad E 1))), (1, (1, x)), (3, (0, root)), (4, (0, l4_h7))]) rfl ?_
        refine r_ic_ne hX hP rfl (tgt := 32) rfl (by first | decide | omega) (by first | decide | omega) (by first | decide | omega) (by first | decide | omega) (fun c13 => ?_) (fun c13 => ?_)
        · skip
          refine r_ex hX hP 1 (pc' := 33) (st' := [(1, 0), (0, l4_h7), (2, (Ad E 83))]) (lo' := [(0, (2, (Ad E 1))), (1, (1, x)), (3, (0, root)), (4, (0, l4_h7))]) rfl ?_
          refine r_lastK hX hP rfl al_83 s12 (by first | decide | omega) (by first | decide | omega) (by first | decide | omega) (by first | decide | omega) (fun h14 => ?_)
          refine r_ex hX hP 1 (pc' := 35) (st' := [(2, (Ad E 1))]) (lo' := [(0, (2, (Ad E 1))), (1, (1, x)), (3, (0, root)), (4, (0, l4_h7))]) rfl ?_
          refine r_getC hX hP rfl fl_12_271 hS (fun s15 => ?_)
          refine r_ex hX hP 2 (pc' := 41) (st' := [(1, 0), (0, l4_h7), (2, (Ad E 82))]) (lo' := [(0, (2, (Ad E 1))), (1, (1, x)), (3, (0, root)), (4, (0, l4_h7))]) rfl ?_
          refine r_lastK hX hP rfl al_82 s15 (by first | decide | omega) (by first | decide | omega) (by first | decide | omega) (by first | decide | omega) (fun h16 => ?_)
          refine r_ex hX hP 2 (pc' := 7) (st' := []) (lo' := [(0, (2, (Ad E 1))), (1, (1, x)), (3, (0, root)), (4, (0, (l4_h7 + 1)))]) rfl ?_
          refine r_eqG (X := X) (hq_up (hq_up (hq_base _ _ _ _) rfl) rfl) ?_
          exact ih7 (l4_h7 + 1) _ (by first | decide | omega) (by first | decide | omega) (by first | decide | omega)
        · skip
          refine r_ex hX hP 2 (pc' := 33) (st' := [(1, x), (0, l4_h7), (2, (Ad E 83))]) (lo' := [(0, (2, (Ad E 1))), (1, (1, x)), (3, (0, root)), (4, (0, l4_h7))]) rfl ?_
          refine r_lastK hX hP rfl al_83 s12 (by first | decide | omega) (by first | decide | omega) (by first | decide | omega) (by first | decide | omega) (fun h17 => ?_)
          refine r_ex hX hP 1 (pc' := 35) (st' := [(2, (Ad E 1))]) (lo' := [(0, (2, (Ad E 1))), (1, (1, x)), (3, (0, root)), (4, (0, l4_h7))]) rfl ?_
          refine r_getC hX hP rfl fl_12_271 hS (fun s18 => ?_)
          refine r_ex hX hP 2 (pc' := 41) (st' := [(1, 0), (0, l4_h7), (2, (Ad E 82))]) (lo' := [(0, (2, (Ad E 1))), (1, (1, x)), (3, (0, root)), (4, (0, l4_h7))]) rfl ?_
          refine r_lastK hX hP rfl al_82 s18 (by first | decide | omega) (by first | decide | omega) (by first | decide | omega) (by first | decide | omega) (fun h19 => ?_)
          refine r_ex hX hP 2 (pc' := 7) (st' := []) (lo' := [(0, (2, (Ad E 1))), (1, (1, x)), (3, (0, root)), (4, (0, (l4_h7 + 1)))]) rfl ?_
          refine r_eqG (X := X) (hq_up (hq_up (hq_base _ _ _ _) rfl) rfl) ?_
          exact ih7 (l4_h7 + 1) _ (by first | decide | omega) (by first | decide | omega) (by first | decide | omega)
  refine r_eqG (X := X) (hq_refl [] [82, 83] _) ?_
  exact loop7 ((20 - 0) + 1 : Int).toNat 0 _ (by first | decide | omega) (by first | decide | omega) (by first | decide | omega)
set_option maxRecDepth 100000 in
set_option maxHeartbeats 4000000 in
theorem c_X12_begin (E : En) (S : Sg) (G : Gh) (hS : S (Ad E 1) = 1) : Calls E mX12_begin [(2, (Ad E 1))] S G 0 0 0 (fun r S' G' => S = S' ∧ (∃ G1, hv [] [19, 72, 73, 74, 75] G G1 = G') ∧ r = none ∧ True) := by
  refine calls_by [(0, (2, (Ad E 1)))] rfl rfl (Nat.le_of_ble_eq_true rfl) (fun X hX => ?_)
  have hP := hPX12_begin
  refine r_ex hX hP 2 (pc' := 2) (st' := []) (lo' := [(0, (2, (Ad E 1))), (1, (0, 0))]) rfl ?_
  have loop2 : ∀ (nF : Nat) (l1_h2 : Int) (Gh2 : Gh), 0 ≤ l1_h2 → l1_h2 ≤ 400 → 400 - l1_h2 < (nF : Int) → X 0 0 2 [] [(0, (2, (Ad E 1))), (1, (0, l1_h2))] S (hv [] [72, 73] G Gh2) := by
    intro nF
    induction nF with
    | zero => intro l1_h2 Gh2 yh2_0 yh2_1 ym2; exfalso; omega
    | succ nF ih2 =>
      intro l1_h2 Gh2 yh2_0 yh2_1 ym2
      refine r_ex hX hP 2 (pc' := 6) (st' := [(0, 400), (0, l1_h2)]) (lo' := [(0, (2, (Ad E 1))), (1, (0, l1_h2))]) rfl ?_
      refine r_ic_ge hX hP rfl (tgt := 29) rfl (by first | decide | omega) (by first | decide | omega) (by first | decide | omega) (by first | decide | omega) (fun c1 => ?_) (fun c1 => ?_)
      · skip
        refine r_ex hX hP 2 (pc' := 31) (st' := []) (lo' := [(0, (2, (Ad E 1))), (1, (0, 0))]) rfl ?_
        have loop31 : ∀ (nF : Nat) (l1_h31 : Int) (Gh31 : Gh), 0 ≤ l1_h31 → l1_h31 ≤ 20 → 20 - l1_h31 < (nF : Int) → X 0 0 31 [] [(0, (2, (Ad E 1))), (1, (0, l1_h31))] S (hv [] [74, 75] (hv [] [72, 73] G Gh2) Gh31) := by
          intro nF
          induction nF with
          | zero => intro l1_h31 Gh31 yh31_0 yh31_1 ym31; exfalso; omega
          | succ nF ih31 =>
            intro l1_h31 Gh31 yh31_0 yh31_1 ym31
            refine r_ex hX hP 2 (pc' := 34) (st' := [(0, 20), (0, l1_h31)]) (lo' := [(0, (2, (Ad E 1))), (1, (0, l1_h31))]) rfl ?_
            refine r_ic_ge hX hP rfl (tgt := 57) rfl (by first | decide | omega) (by first | decide | omega) (by first | decide | omega) (by first | decide | omega) (fun c2 => ?_) (fun c2 => ?_)
            · skip
              refine r_ex hX hP 2 (pc' := 59) (st' := []) (lo' := [(0, (2, (Ad E 1))), (1, (0, 0))]) rfl ?_
              have loop59 : ∀ (nF : Nat) (l1_h59 : Int) (Gh59 : Gh), 0 ≤ l1_h59 → l1_h59 ≤ 40 → 40 - l1_h59 < (nF : Int) → X 0 0 59 [] [(0, (2, (Ad E 1))), (1, (0, l1_h59))] S (hv [] [19] (hv [] [74, 75] (hv [] [72, 73] G Gh2) Gh31) Gh59) := by
                intro nF
                induction nF with
                | zero => intro l1_h59 Gh59 yh59_0 yh59_1 ym59; exfalso; omega
                | succ nF ih59 =>
                  intro l1_h59 Gh59 yh59_0 yh59_1 ym59
                  refine r_ex hX hP 2 (pc' := 62) (st' := [(0, 40), (0, l1_h59)]) (lo' := [(0, (2, (Ad E 1))), (1, (0, l1_h59))]) rfl ?_
                  refine r_ic_ge hX hP rfl (tgt := 78) rfl (by first | decide | omega) (by first | decide | omega) (by first | decide | omega) (by first | decide | omega) (fun c3 => ?_) (fun c3 => ?_)
                  · skip
                    exact r_retV hX hP rfl rfl (by first | decide | omega) (by first | decide | omega) ⟨rfl, ⟨_, (hq_loop (hq_loop (hq_loop (hq_refl _ _ _) rfl) rfl) rfl).symm⟩, rfl, trivial⟩
                  · skip
                    refine r_ex hX hP 1 (pc' := 66) (st' := [(2, (Ad E 1))]) (lo' := [(0, (2, (Ad E 1))), (1, (0, l1_h59))]) rfl ?_
                    refine r_getC hX hP rfl fl_12_70 hS (fun s4 => ?_)
                    refine r_ex hX hP 2 (pc' := 71) (st' := [(0, 0), (0, l1_h59), (2, (Ad E 19))]) (lo' := [(0, (2, (Ad E 1))), (1, (0, l1_h59))]) rfl ?_
                    refine r_zastK hX hP rfl al_19 s4 (by first | decide | omega) (by first | decide | omega) (by first | decide | omega) (by first | decide | omega) (by first | decide | omega) (by first | decide | omega) (fun h5 => ?_)
                    refine r_ex hX hP 2 (pc' := 59) (st' := []) (lo' := [(0, (2, (Ad E 1))), (1, (0, (l1_h59 + 1)))]) rfl ?_
                    refine r_eqG (X := X) (hq_up (hq_base _ _ _ _) rfl) ?_
                    exact ih59 (l1_h59 + 1) _ (by first | decide | omega) (by first | decide | omega) (by first | decide | omega)
              refine r_eqG (X := X) (hq_refl [] [19] _) ?_
              exact loop59 ((40 - 0) + 1 : Int).toNat 0 _ (by first | decide | omega) (by first | decide | omega) (by first | decide | omega)
            · skip
              refine r_ex hX hP 1 (pc' := 38) (st' := [(2, (Ad E 1))]) (lo' := [(0, (2, (Ad E 1))), (1, (0, l1_h31))]) rfl ?_
              refine r_getC hX hP rfl fl_12_247 hS (fun s6 => ?_)
              refine r_ex hX hP 2 (pc' := 43) (st' := [(1, 0), (0, l1_h31), (2, (Ad E 74))]) (lo' := [(0, (2, (Ad E 1))), (1, (0, l1_h31))]) rfl ?_
              refine r_lastK hX hP rfl al_74 s6 (by first | decide | omega) (by first | decide | omega) (by first | decide | omega) (by first | decide | omega) (fun h7 => ?_)
              refine r_ex hX hP 1 (pc' := 45) (st' := [(2, (Ad E 1))]) (lo' := [(0, (2, (Ad E 1))), (1, (0, l1_h31))]) rfl ?_
              refine r_getC hX hP rfl fl_12_250 hS (fun s8 => ?_)
              refine r_ex hX hP 2 (pc' := 50) (st' := [(1, 0), (0, l1_h31), (2, (Ad E 75))]) (lo' := [(0, (2, (Ad E 1))), (1, (0, l1_h31))]) rfl ?_
              refine r_lastK hX hP rfl al_75 s8 (by first | decide | omega) (by first | decide | omega) (by first | decide | omega) (by first | decide | omega) (fun h9 => ?_)
              refine r_ex hX hP 2 (pc' := 31) (st' := []) (lo' := [(0, (2, (Ad E 1))), (1, (0, (l1_h31 + 1)))]) rfl ?_
              refine r_eqG (X := X) (hq_up (hq_up (hq_base _ _ _ _) rfl) rfl) ?_
              exact ih31 (l1_h31 + 1) _ (by first | decide | omega) (by first | decide | omega) (by first | decide | omega)
        refine r_eqG (X := X) (hq_refl [] [74, 75] _) ?_
        exact loop31 ((20 - 0) + 1 : Int).toNat 0 _ (by first | decide | omega) (by first | decide | omega) (by first | decide | omega)
      · skip
        refine r_ex hX hP 1 (pc' := 10) (st' := [(2, (Ad E 1))]) (lo' := [(0, (2, (Ad E 1))), (1, (0, l1_h2))]) rfl ?_
        refine r_getC hX hP rfl fl_12_241 hS (fun s10 => ?_)
        refine r_ex hX hP 2 (pc' := 15) (st' := [(1, 0), (0, l1_h2), (2, (Ad E 72))]) (lo' := [(0, (2, (Ad E 1))), (1, (0, l1_h2))]) rfl ?_
        refine r_lastK hX hP rfl al_72 s10 (by first | decide | omega) (by first | decide | omega) (by first | decide | omega) (by first | decide | omega) (fun h11 => ?_)
        refine r_ex hX hP 1 (pc' := 17) (st' := [(2, (Ad E 1))]) (lo' := [(0, (2, (Ad E 1))), (1, (0, l1_h2))]) rfl ?_
        refine r_getC hX hP rfl fl_12_244 hS (fun s12 => ?_)
        refine r_ex hX hP 2 (pc' := 22) (st' := [(1, 0), (0, l1_h2), (2, (Ad E 73))]) (lo' := [(0, (2, (Ad E 1))), (1, (0, l1_h2))]) rfl ?_
        refine r_lastK hX hP rfl al_73 s12 (by first | decide | omega) (by first | decide | omega) (by first | decide | omega) (by first | decide | omega) (fun h13 => ?_)
        refine r_ex hX hP 2 (pc' := 2) (st' := []) (lo' := [(0, (2, (Ad E 1))), (1, (0, (l1_h2 + 1)))]) rfl ?_
        refine r_eqG (X := X) (hq_up (hq_up (hq_base _ _ _ _) rfl) rfl) ?_
        exact ih2 (l1_h2 + 1) _ (by first | decide | omega) (by first | decide | omega) (by first | decide | omega)
  refine r_eqG (X := X) (hq_refl [] [72, 73] _) ?_
  exact loop2 ((400 - 0) + 1 : Int).toNat 0 _ (by first | decide | omega) (by first | decide | omega) (by first | decide | omega)
set_option maxRecDepth 100000 in
set_option maxHeartbeats 4000000 in
theorem c_X12_nextDay (E : En) (S : Sg) (G : Gh) (d : Int) (hS : S (Ad E 1) = 1) (d_a : (-1) ≤ d) (d_b : d ≤ 40000) : Calls E mX12_nextDay [(2, (Ad E 1)), (0, d)] S G 3 0 0 (fun r S' G' => S = S' ∧ G = G' ∧ ∃ z : Int, r = some (0, z) ∧ (0 ≤ z ∧ z ≤ 1000000000 ∧ d < z)) := by
  refine calls_by [(0, (2, (Ad E 1))), (1, (0, d))] rfl rfl (Nat.le_of_ble_eq_true rfl) (fun X hX => ?_)
  have hP := hPX12_nextDay
  refine r_ldcw hX hP rfl (v := 1000000000) (tbg sg9 109 rfl rfl) ?_
  refine r_ex hX hP 3 (pc' := 6) (st' := []) (lo' := [(0, (2, (Ad E 1))), (1, (0, d)), (2, (0, 1000000000)), (3, (0, 0))]) rfl ?_
  have loop6 : ∀ (nF : Nat) (l2_h6 l3_h6 : Int), 0 ≤ l2_h6 → l2_h6 ≤ 1000000000 → 0 ≤ l3_h6 → l3_h6 ≤ 40 → d < l2_h6 → 40 - l3_h6 < (nF : Int) → X 0 0 6 [] [(0, (2, (Ad E 1))), (1, (0, d)), (2, (0, l2_h6)), (3, (0, l3_h6))] S G := by
    intro nF
    induction nF with
    | zero => intro l2_h6 l3_h6 yh6_0 yh6_1 yh6_2 yh6_3 yh6_4 ym6; exfalso; omega
    | succ nF ih6 =>
      intro l2_h6 l3_h6 yh6_0 yh6_1 yh6_2 yh6_3 yh6_4 ym6
      refine r_ex hX hP 2 (pc' := 8) (st' := [(2, (Ad E 1)), (0, l3_h6)]) (lo' := [(0, (2, (Ad E 1))), (1, (0, d)), (2, (0, l2_h6)), (3, (0, l3_h6))]) rfl ?_
      refine r_getI hX hP rfl fl_12_336 hS (fun if1 if1e if1a if1b => ?_)
      refine r_ic_ge hX hP rfl (tgt := 54) rfl (by first | decide | omega) (by first | decide | omega) (by first | decide | omega) (by first | decide | omega) (fun c2 => ?_) (fun c2 => ?_)
      · skip
        refine r_ex hX hP 2 (pc' := 56) (st' := []) (lo' := [(0, (2, (Ad E 1))), (1, (0, d)), (2, (0, l2_h6)), (3, (0, 0))]) rfl ?_
        have loop56 : ∀ (nF : Nat) (l2_h56 l3_h56 : Int), 0 ≤ l2_h56 → l2_h56 ≤ 1000000000 → 0 ≤ l3_h56 → l3_h56 ≤ 40 → d < l2_h56 → 40 - l3_h56 < (nF : Int) → X 0 0 56 [] [(0, (2, (Ad E 1))), (1, (0, d)), (2, (0, l2_h56)), (3, (0, l3_h56))] S G := by
          intro nF
          induction nF with
          | zero => intro l2_h56 l3_h56 yh56_0 yh56_1 yh56_2 yh56_3 yh56_4 ym56; exfalso; omega
          | succ nF ih56 =>
            intro l2_h56 l3_h56 yh56_0 yh56_1 yh56_2 yh56_3 yh56_4 ym56
            refine r_ex hX hP 2 (pc' := 58) (st' := [(2, (Ad E 1)), (0, l3_h56)]) (lo' := [(0, (2, (Ad E 1))), (1, (0, d)), (2, (0, l2_h56)), (3, (0, l3_h56))]) rfl ?_
            refine r_getI hX hP rfl fl_12_342 hS (fun tf3 tf3e tf3a tf3b => ?_)
            refine r_ic_ge hX hP rfl (tgt := 99) rfl (by first | decide | omega) (by first | decide | omega) (by first | decide | omega) (by first | decide | omega) (fun c4 => ?_) (fun c4 => ?_)
            · skip
              refine r_ex hX hP 2 (pc' := 101) (st' := []) (lo' := [(0, (2, (Ad E 1))), (1, (0, d)), (2, (0, l2_h56)), (3, (0, 0))]) rfl ?_
              have loop101 : ∀ (nF : Nat) (l2_h101 l3_h101 : Int), 0 ≤ l2_h101 → l2_h101 ≤ 1000000000 → 0 ≤ l3_h101 → l3_h101 ≤ 16 → d < l2_h101 → 16 - l3_h101 < (nF : Int) → X 0 0 101 [] [(0, (2, (Ad E 1))), (1, (0, d)), (2, (0, l2_h101)), (3, (0, l3_h101))] S G := by
                intro nF
                induction nF with
                | zero => intro l2_h101 l3_h101 yh101_0 yh101_1 yh101_2 yh101_3 yh101_4 ym101; exfalso; omega
                | succ nF ih101 =>
                  intro l2_h101 l3_h101 yh101_0 yh101_1 yh101_2 yh101_3 yh101_4 ym101
                  refine r_ex hX hP 2 (pc' := 103) (st' := [(2, (Ad E 1)), (0, l3_h101)]) (lo' := [(0, (2, (Ad E 1))), (1, (0, d)), (2, (0, l2_h101)), (3, (0, l3_h101))]) rfl ?_
                  refine r_getI hX hP rfl fl_12_490 hS (fun ef5 ef5e ef5a ef5b => ?_)
                  refine r_ic_ge hX hP rfl (tgt := 144) rfl (by first | decide | omega) (by first | decide | omega) (by first | decide | omega) (by first | decide | omega) (fun c6 => ?_) (fun c6 => ?_)
                  · skip
                    refine r_ex hX hP 1 (pc' := 145) (st' := [(0, l2_h101)]) (lo' := [(0, (2, (Ad E 1))), (1, (0, d)), (2, (0, l2_h101)), (3, (0, l3_h101))]) rfl ?_
                    exact r_retI hX hP rfl rfl (by first | decide | omega) (by first | decide | omega) ⟨rfl, rfl, l2_h101, rfl, (by first | decide | omega)⟩
                  · skip
                    refine r_ex hX hP 2 (pc' := 111) (st' := [(0, l3_h101), (2, (Ad E 1))]) (lo' := [(0, (2, (Ad E 1))), (1, (0, d)), (2, (0, l2_h101)), (3, (0, l3_h101))]) rfl ?_
                    refine r_callV gd hX hP rfl cv_12_512 hS (d' := 1) (mc' := 0) (ms' := 0) (as' := [(0, l3_h101)]) (st := []) (by first | decide | omega) (by first | decide | omega) (by first | decide | omega) rfl rfl (Nat.le_of_ble_eq_true rfl) (c_X12_eventCounts E S G l3_h101 hS (by first | decide | omega) (by first | decide | omega)) ?_
                    rintro _ _ _ ⟨rfl, rfl, z7, rfl, z7a, z7b⟩
                    refine r_if_eq hX hP rfl (tgt := 138) rfl (by first | decide | omega) (by first | decide | omega) (fun c8 => ?_) (fun c8 => ?_)
                    · skip
                      refine r_ex hX hP 2 (pc' := 101) (st' := []) (lo' := [(0, (2, (Ad E 1))), (1, (0, d)), (2, (0, l2_h101)), (3, (0, (l3_h101 + 1)))]) rfl ?_
                      exact ih101 l2_h101 (l3_h101 + 1) (by first | decide | omega) (by first | decide | omega) (by first | decide | omega) (by first | decide | omega) (by first | decide | omega) (by first | decide | omega)
                    · skip
                      refine r_ex hX hP 1 (pc' := 118) (st' := [(2, (Ad E 1))]) (lo' := [(0, (2, (Ad E 1))), (1, (0, d)), (2, (0, l2_h101)), (3, (0, l3_h101))]) rfl ?_
                      refine r_getC hX hP rfl fl_12_80 hS (fun s9 => ?_)
                      refine r_ex hX hP 1 (pc' := 122) (st' := [(0, l3_h101), (2, (Ad E 22))]) (lo' := [(0, (2, (Ad E 1))), (1, (0, d)), (2, (0, l2_h101)), (3, (0, l3_h101))]) rfl ?_
                      refine r_iald hX hP rfl al_22 s9 (by first | decide | omega) (by first | decide | omega) (fun x10 x10e x10a x10b => ?_)
                      refine r_ex hX hP 1 (pc' := 124) (st' := [(0, d), (0, x10)]) (lo' := [(0, (2, (Ad E 1))), (1, (0, d)), (2, (0, l2_h101)), (3, (0, l3_h101))]) rfl ?_
                      refine r_ic_le hX hP rfl (tgt := 138) rfl (by first | decide | omega) (by first | decide | omega) (by first | decide | omega) (by first | decide | omega) (fun c11 => ?_) (fun c11 => ?_)
                      · skip
                        refine r_ex hX hP 2 (pc' := 101) (st' := []) (lo' := [(0, (2, (Ad E 1))), (1, (0, d)), (2, (0, l2_h101)), (3, (0, (l3_h101 + 1)))]) rfl ?_
                        exact ih101 l2_h101 (l3_h101 + 1) (by first | decide | omega) (by first | decide | omega) (by first | decide | omega) (by first | decide | omega) (by first | decide | omega) (by first | decide | omega)
                      · skip
                        refine r_ex hX hP 2 (pc' := 129) (st' := [(2, (Ad E 1)), (0, l2_h101)]) (lo' := [(0, (2, (Ad E 1))), (1, (0, d)), (2, (0, l2_h101)), (3, (0, l3_h101))]) rfl ?_
                        refine r_getC hX hP rfl fl_12_80 hS (fun _ => ?_)
                        refine r_ex hX hP 1 (pc' := 133) (st' := [(0, l3_h101), (2, (Ad E 22)), (0, l2_h101)]) (lo' := [(0, (2, (Ad E 1))), (1, (0, d)), (2, (0, l2_h101)), (3, (0, l3_h101))]) rfl ?_
                        refine r_ialdK hX hP rfl al_22 s9 (by first | decide | omega) (by first | decide | omega) (x := x10) x10e ?_
                        refine r_mminI hX hP rfl (tbg sg10 52 rfl rfl) (tbg sg3 122 rfl rfl) (tbg sg1 14 rfl rfl) (tbg sg3 123 rfl rfl) (by decide) (by decide) (by decide) (Nat.le_of_ble_eq_true rfl) (by first | decide | omega) (by first | decide | omega) (by first | decide | omega) (by first | decide | omega) (fun c12 => ?_) (fun c12 => ?_)
                        · skip
                          refine r_ex hX hP 3 (pc' := 101) (st' := []) (lo' := [(0, (2, (Ad E 1))), (1, (0, d)), (2, (0, l2_h101)), (3, (0, (l3_h101 + 1)))]) rfl ?_
                          exact ih101 l2_h101 (l3_h101 + 1) (by first | decide | omega) (by first | decide | omega) (by first | decide | omega) (by first | decide | omega) (by first | decide | omega) (by first | decide | omega)
                        · skip
                          refine r_ex hX hP 3 (pc' := 101) (st' := []) (lo' := [(0, (2, (Ad E 1))), (1, (0, d)), (2, (0, x10)), (3, (0, (l3_h101 + 1)))]) rfl ?_
                          exact ih101 x10 (l3_h101 + 1) (by first | decide | omega) (by first | decide | omega) (by first | decide | omega) (by first | decide | omega) (by first | decide | omega) (by first | decide | omega)
              exact loop101 ((16 - 0) + 1 : Int).toNat l2_h56 0 (by first | decide | omega) (by first | decide | omega) (by first | decide | omega) (by first | decide | omega) (by first | decide | omega) (by first | decide | omega)
            · skip
              refine r_ex hX hP 2 (pc' := 66) (st' := [(0, l3_h56), (2, (Ad E 1))]) (lo' := [(0, (2, (Ad E 1))), (1, (0, d)), (2, (0, l2_h56)), (3, (0, l3_h56))]) rfl ?_
              refine r_callV gd hX hP rfl cv_12_530 hS (d' := 1) (mc' := 0) (ms' := 0) (as' := [(0, l3_h56)]) (st := []) (by first | decide | omega) (by first | decide | omega) (by first | decide | omega) rfl rfl (Nat.le_of_ble_eq_true rfl) (c_X12_tradeCounts E S G l3_h56 hS (by first | decide | omega) (by first | decide | omega)) ?_
              rintro _ _ _ ⟨rfl, rfl, z13, rfl, z13a, z13b⟩
              refine r_if_eq hX hP rfl (tgt := 93) rfl (by first | decide | omega) (by first | decide | omega) (fun c14 => ?_) (fun c14 => ?_)
              · skip
                refine r_ex hX hP 2 (pc' := 56) (st' := []) (lo' := [(0, (2, (Ad E 1))), (1, (0, d)), (2, (0, l2_h56)), (3, (0, (l3_h56 + 1)))]) rfl ?_
                exact ih56 l2_h56 (l3_h56 + 1) (by first | decide | omega) (by first | decide | omega) (by first | decide | omega) (by first | decide | omega) (by first | decide | omega) (by first | decide | omega)
              · skip
                refine r_ex hX hP 1 (pc' := 73) (st' := [(2, (Ad E 1))]) (lo' := [(0, (2, (Ad E 1))), (1, (0, d)), (2, (0, l2_h56)), (3, (0, l3_h56))]) rfl ?_
                refine r_getC hX hP rfl fl_12_61 hS (fun s15 => ?_)
                refine r_ex hX hP 1 (pc' := 77) (st' := [(0, l3_h56), (2, (Ad E 16))]) (lo' := [(0, (2, (Ad E 1))), (1, (0, d)), (2, (0, l2_h56)), (3, (0, l3_h56))]) rfl ?_
                refine r_iald hX hP rfl al_16 s15 (by first | decide | omega) (by first | decide | omega) (fun x16 x16e x16a x16b => ?_)
                refine r_ex hX hP 1 (pc' := 79) (st' := [(0, d), (0, x16)]) (lo' := [(0, (2, (Ad E 1))), (1, (0, d)), (2, (0, l2_h56)), (3, (0, l3_h56))]) rfl ?_
                refine r_ic_le hX hP rfl (tgt := 93) rfl (by first | decide | omega) (by first | decide | omega) (by first | decide | omega) (by first | decide | omega) (fun c17 => ?_) (fun c17 => ?_)
                · skip
                  refine r_ex hX hP 2 (pc' := 56) (st' := []) (lo' := [(0, (2, (Ad E 1))), (1, (0, d)), (2, (0, l2_h56)), (3, (0, (l3_h56 + 1)))]) rfl ?_
                  exact ih56 l2_h56 (l3_h56 + 1) (by first | decide | omega) (by first | decide | omega) (by first | decide | omega) (by first | decide | omega) (by first | decide | omega) (by first | decide | omega)
                · skip
                  refine r_ex hX hP 2 (pc' := 84) (st' := [(2, (Ad E 1)), (0, l2_h56)]) (lo' := [(0, (2, (Ad E 1))), (1, (0, d)), (2, (0, l2_h56)), (3, (0, l3_h56))]) rfl ?_
                  refine r_getC hX hP rfl fl_12_61 hS (fun _ => ?_)
                  refine r_ex hX hP 1 (pc' := 88) (st' := [(0, l3_h56), (2, (Ad E 16)), (0, l2_h56)]) (lo' := [(0, (2, (Ad E 1))), (1, (0, d)), (2, (0, l2_h56)), (3, (0, l3_h56))]) rfl ?_
                  refine r_ialdK hX hP rfl al_16 s15 (by first | decide | omega) (by first | decide | omega) (x := x16) x16e ?_
                  refine r_mminI hX hP rfl (tbg sg10 52 rfl rfl) (tbg sg3 122 rfl rfl) (tbg sg1 14 rfl rfl) (tbg sg3 123 rfl rfl) (by decide) (by decide) (by decide) (Nat.le_of_ble_eq_true rfl) (by first | decide | omega) (by first | decide | omega) (by first | decide | omega) (by first | decide | omega) (fun c18 => ?_) (fun c18 => ?_)
                  · skip
                    refine r_ex hX hP 3 (pc' := 56) (st' := []) (lo' := [(0, (2, (Ad E 1))), (1, (0, d)), (2, (0, l2_h56)), (3, (0, (l3_h56 + 1)))]) rfl ?_
                    exact ih56 l2_h56 (l3_h56 + 1) (by first | decide | omega) (by first | decide | omega) (by first | decide | omega) (by first | decide | omega) (by first | decide | omega) (by first | decide | omega)
                  · skip
                    refine r_ex hX hP 3 (pc' := 56) (st' := []) (lo' := [(0, (2, (Ad E 1))), (1, (0, d)), (2, (0, x16)), (3, (0, (l3_h56 + 1)))]) rfl ?_
                    exact ih56 x16 (l3_h56 + 1) (by first | decide | omega) (by first | decide | omega) (by first | decide | omega) (by first | decide | omega) (by first | decide | omega) (by first | decide | omega)
        exact loop56 ((40 - 0) + 1 : Int).toNat l2_h6 0 (by first | decide | omega) (by first | decide | omega) (by first | decide | omega) (by first | decide | omega) (by first | decide | omega) (by first | decide | omega)
      · skip
        refine r_ex hX hP 1 (pc' := 15) (st' := [(2, (Ad E 1))]) (lo' := [(0, (2, (Ad E 1))), (1, (0, d)), (2, (0, l2_h6)), (3, (0, l3_h6))]) rfl ?_
        refine r_getC hX hP rfl fl_12_43 hS (fun s19 => ?_)
        refine r_ex hX hP 1 (pc' := 19) (st' := [(0, l3_h6), (2, (Ad E 10))]) (lo' := [(0, (2, (Ad E 1))), (1, (0, d)), (2, (0, l2_h6)), (3, (0, l3_h6))]) rfl ?_
        refine r_iald hX hP rfl al_10 s19 (by first | decide | omega) (by first | decide | omega) (fun x20 x20e x20a x20b => ?_)
        refine r_ex hX hP 1 (pc' := 21) (st' := [(2, (Ad E 1)), (0, x20)]) (lo' := [(0, (2, (Ad E 1))), (1, (0, d)), (2, (0, l2_h6)), (3, (0, l3_h6))]) rfl ?_
        refine r_getI hX hP rfl fl_12_10 hS (fun af21 af21e af21a af21b => ?_)
        refine r_ic_gt hX hP rfl (tgt := 48) rfl (by first | decide | omega) (by first | decide | omega) (by first | decide | omega) (by first | decide | omega) (fun c22 => ?_) (fun c22 => ?_)
        · skip
          refine r_ex hX hP 2 (pc' := 6) (st' := []) (lo' := [(0, (2, (Ad E 1))), (1, (0, d)), (2, (0, l2_h6)), (3, (0, (l3_h6 + 1)))]) rfl ?_
          exact ih6 l2_h6 (l3_h6 + 1) (by first | decide | omega) (by first | decide | omega) (by first | decide | omega) (by first | decide | omega) (by first | decide | omega) (by first | decide | omega)
        · skip
          refine r_ex hX hP 1 (pc' := 28) (st' := [(2, (Ad E 1))]) (lo' := [(0, (2, (Ad E 1))), (1, (0, d)), (2, (0, l2_h6)), (3, (0, l3_h6))]) rfl ?_
          refine r_getC hX hP rfl fl_12_34 hS (fun s23 => ?_)
          refine r_ex hX hP 1 (pc' := 32) (st' := [(0, l3_h6), (2, (Ad E 7))]) (lo' := [(0, (2, (Ad E 1))), (1, (0, d)), (2, (0, l2_h6)), (3, (0, l3_h6))]) rfl ?_
          refine r_iald hX hP rfl al_7 s23 (by first | decide | omega) (by first | decide | omega) (fun x24 x24e x24a x24b => ?_)
          refine r_ex hX hP 1 (pc' := 34) (st' := [(0, d), (0, x24)]) (lo' := [(0, (2, (Ad E 1))), (1, (0, d)), (2, (0, l2_h6)), (3, (0, l3_h6))]) rfl ?_
          refine r_ic_le hX hP rfl (tgt := 48) rfl (by first | decide | omega) (by first | decide | omega) (by first | decide | omega) (by first | decide | omega) (fun c25 => ?_) (fun c25 => ?_)
          · skip
            refine r_ex hX hP 2 (pc' := 6) (st' := []) (lo' := [(0, (2, (Ad E 1))), (1, (0, d)), (2, (0, l2_h6)), (3, (0, (l3_h6 + 1)))]) rfl ?_
            exact ih6 l2_h6 (l3_h6 + 1) (by first | decide | omega) (by first | decide | omega) (by first | decide | omega) (by first | decide | omega) (by first | decide | omega) (by first | decide | omega)
          · skip
            refine r_ex hX hP 2 (pc' := 39) (st' := [(2, (Ad E 1)), (0, l2_h6)]) (lo' := [(0, (2, (Ad E 1))), (1, (0, d)), (2, (0, l2_h6)), (3, (0, l3_h6))]) rfl ?_
            refine r_getC hX hP rfl fl_12_34 hS (fun _ => ?_)
            refine r_ex hX hP 1 (pc' := 43) (st' := [(0, l3_h6), (2, (Ad E 7)), (0, l2_h6)]) (lo' := [(0, (2, (Ad E 1))), (1, (0, d)), (2, (0, l2_h6)), (3, (0, l3_h6))]) rfl ?_
            refine r_ialdK hX hP rfl al_7 s23 (by first | decide | omega) (by first | decide | omega) (x := x24) x24e ?_
            refine r_mminI hX hP rfl (tbg sg10 52 rfl rfl) (tbg sg3 122 rfl rfl) (tbg sg1 14 rfl rfl) (tbg sg3 123 rfl rfl) (by decide) (by decide) (by decide) (Nat.le_of_ble_eq_true rfl) (by first | decide | omega) (by first | decide | omega) (by first | decide | omega) (by first | decide | omega) (fun c26 => ?_) (fun c26 => ?_)
            · skip
              refine r_ex hX hP 3 (pc' := 6) (st' := []) (lo' := [(0, (2, (Ad E 1))), (1, (0, d)), (2, (0, l2_h6)), (3, (0, (l3_h6 + 1)))]) rfl ?_
              exact ih6 l2_h6 (l3_h6 + 1) (by first | decide | omega) (by first | decide | omega) (by first | decide | omega) (by first | decide | omega) (by first | decide | omega) (by first | decide | omega)
            · skip
              refine r_ex hX hP 3 (pc' := 6) (st' := []) (lo' := [(0, (2, (Ad E 1))), (1, (0, d)), (2, (0, x24)), (3, (0, (l3_h6 + 1)))]) rfl ?_
              exact ih6 x24 (l3_h6 + 1) (by first | decide | omega) (by first | decide | omega) (by first | decide | omega) (by first | decide | omega) (by first | decide | omega) (by first | decide | omega)
  exact loop6 ((40 - 0) + 1 : Int).toNat 1000000000 0 (by first | decide | omega) (by first | decide | omega) (by first | decide | omega) (by first | decide | omega) (by first | decide | omega) (by first | decide | omega)
set_option maxRecDepth 100000 in
set_option maxHeartbeats 4000000 in
theorem c_X12_settles (E : En) (S : Sg) (G : Gh) (t : Int) (hS : S (Ad E 1) = 1) (trades : Int) (trades_e : trades = G 1 (Ad E 1) 8) (t_a : 0 ≤ t) (t_b : t ≤ 39) (pre0 : t < trades) (mi : MI E G) : Calls E mX12_settles [(2, (Ad E 1)), (0, t)] S G 0 0 0 (fun r S' G' => S = S' ∧ (∃ G1, hv [] [19, 72, 73] G G1 = G') ∧ r = none ∧ True) := by
  refine calls_by [(0, (2, (Ad E 1))), (1, (0, t))] rfl rfl (Nat.le_of_ble_eq_true rfl) (fun X hX => ?_)
  have hP := hPX12_settles
  refine r_peekI hX (tl1 8 rfl (by decide)) hS (fun trades_o trades_oe trades_oa trades_ob => ?_)
  obtain rfl : trades = trades_o := trades_e.trans trades_oe.symm
  refine r_ex hX hP 2 (pc' := 3) (st' := [(2, (Ad E 1)), (0, 20)]) (lo' := [(0, (2, (Ad E 1))), (1, (0, t))]) rfl ?_
  refine r_getC hX hP rfl fl_12_46 hS (fun s1 => ?_)
  refine r_ex hX hP 1 (pc' := 7) (st' := [(0, t), (2, (Ad E 11)), (0, 20)]) (lo' := [(0, (2, (Ad E 1))), (1, (0, t))]) rfl ?_
  refine r_iald hX hP rfl al_11 s1 (by first | decide | omega) (by first | decide | omega) (fun x2 x2e x2a x2b => ?_)
  refine r_ex hX hP 2 (pc' := 10) (st' := [(2, (Ad E 1)), (0, (20 * x2))]) (lo' := [(0, (2, (Ad E 1))), (1, (0, t))]) rfl ?_
  refine r_getC hX hP rfl fl_12_52 hS (fun s3 => ?_)
  refine r_ex hX hP 1 (pc' := 14) (st' := [(0, t), (2, (Ad E 13)), (0, (20 * x2))]) (lo' := [(0, (2, (Ad E 1))), (1, (0, t))]) rfl ?_
  refine r_iald hX hP rfl al_13 s3 (by first | decide | omega) (by first | decide | omega) (fun x4 x4e x4a x4b => ?_)
  refine r_ex hX hP 4 (pc' := 20) (st' := [(2, (Ad E 1)), (0, 20)]) (lo' := [(0, (2, (Ad E 1))), (1, (0, t)), (2, (0, ((20 * x2) + x4)))]) rfl ?_
  refine r_getC hX hP rfl fl_12_49 hS (fun s5 => ?_)
  refine r_ex hX hP 1 (pc' := 24) (st' := [(0, t), (2, (Ad E 12)), (0, 20)]) (lo' := [(0, (2, (Ad E 1))), (1, (0, t)), (2, (0, ((20 * x2) + x4)))]) rfl ?_
  refine r_iald hX hP rfl al_12 s5 (by first | decide | omega) (by first | decide | omega) (fun x6 x6e x6a x6b => ?_)
  refine r_ex hX hP 2 (pc' := 27) (st' := [(2, (Ad E 1)), (0, (20 * x6))]) (lo' := [(0, (2, (Ad E 1))), (1, (0, t)), (2, (0, ((20 * x2) + x4)))]) rfl ?_
  refine r_getC hX hP rfl fl_12_52 hS (fun _ => ?_)
  refine r_ex hX hP 1 (pc' := 31) (st' := [(0, t), (2, (Ad E 13)), (0, (20 * x6))]) (lo' := [(0, (2, (Ad E 1))), (1, (0, t)), (2, (0, ((20 * x2) + x4)))]) rfl ?_
  refine r_ialdK hX hP rfl al_13 s3 (by first | decide | omega) (by first | decide | omega) (x := x4) x4e ?_
  refine r_ex hX hP 3 (pc' := 35) (st' := [(2, (Ad E 1))]) (lo' := [(0, (2, (Ad E 1))), (1, (0, t)), (2, (0, ((20 * x2) + x4))), (3, (0, ((20 * x6) + x4)))]) rfl ?_
  refine r_getC hX hP rfl fl_12_241 hS (fun s7 => ?_)
  refine r_ex hX hP 1 (pc' := 39) (st' := [(0, ((20 * x2) + x4)), (2, (Ad E 72))]) (lo' := [(0, (2, (Ad E 1))), (1, (0, t)), (2, (0, ((20 * x2) + x4))), (3, (0, ((20 * x6) + x4)))]) rfl ?_
  refine r_lald hX hP rfl al_72 s7 (by first | decide | omega) (by first | decide | omega) (fun x8 x8e x8a x8b => ?_)
  refine r_ex hX hP 1 (pc' := 41) (st' := [(2, (Ad E 1)), (1, x8)]) (lo' := [(0, (2, (Ad E 1))), (1, (0, t)), (2, (0, ((20 * x2) + x4))), (3, (0, ((20 * x6) + x4)))]) rfl ?_
  refine r_getC hX hP rfl fl_12_55 hS (fun s9 => ?_)
  refine r_ex hX hP 1 (pc' := 45) (st' := [(0, t), (2, (Ad E 14)), (1, x8)]) (lo' := [(0, (2, (Ad E 1))), (1, (0, t)), (2, (0, ((20 * x2) + x4))), (3, (0, ((20 * x6) + x4)))]) rfl ?_
  refine r_iald hX hP rfl al_14 s9 (by first | decide | omega) (by first | decide | omega) (fun x10 x10e x10a x10b => ?_)
  have x10m := mi_shares mi trades_e x10e (by first | decide | omega) (by first | decide | omega)
  refine r_i2l hX hP rfl (by first | decide | omega) (by first | decide | omega) ?_
  refine r_lc_ge hX hP rfl rfl (tgt := 52) rfl (by first | decide | omega) (by first | decide | omega) (by first | decide | omega) (by first | decide | omega) (fun c11 => ?_) (fun c11 => ?_)
  · skip
    refine r_ex hX hP 1 (pc' := 53) (st' := [(2, (Ad E 1))]) (lo' := [(0, (2, (Ad E 1))), (1, (0, t)), (2, (0, ((20 * x2) + x4))), (3, (0, ((20 * x6) + x4)))]) rfl ?_
    refine r_getC hX hP rfl fl_12_70 hS (fun s12 => ?_)
    refine r_ex hX hP 2 (pc' := 58) (st' := [(0, 1), (0, t), (2, (Ad E 19))]) (lo' := [(0, (2, (Ad E 1))), (1, (0, t)), (2, (0, ((20 * x2) + x4))), (3, (0, ((20 * x6) + x4)))]) rfl ?_
    refine r_zastK hX hP rfl al_19 s12 (by first | decide | omega) (by first | decide | omega) (by first | decide | omega) (by first | decide | omega) (by first | decide | omega) (by first | decide | omega) (fun h13 => ?_)
    refine r_ex hX hP 1 (pc' := 60) (st' := [(2, (Ad E 1))]) (lo' := [(0, (2, (Ad E 1))), (1, (0, t)), (2, (0, ((20 * x2) + x4))), (3, (0, ((20 * x6) + x4)))]) rfl ?_
    refine r_getC hX hP rfl fl_12_244 hS (fun s14 => ?_)
    refine r_ex hX hP 1 (pc' := 64) (st' := [(0, ((20 * x2) + x4)), (2, (Ad E 73))]) (lo' := [(0, (2, (Ad E 1))), (1, (0, t)), (2, (0, ((20 * x2) + x4))), (3, (0, ((20 * x6) + x4)))]) rfl ?_
    refine r_lald hX hP rfl al_73 s14 (by first | decide | omega) (by first | decide | omega) (fun x15 x15e x15a x15b => ?_)
    refine r_ex hX hP 1 (pc' := 66) (st' := [(2, (Ad E 1)), (1, x15)]) (lo' := [(0, (2, (Ad E 1))), (1, (0, t)), (2, (0, ((20 * x2) + x4))), (3, (0, ((20 * x6) + x4)))]) rfl ?_
    refine r_getC hX hP rfl fl_12_55 hS (fun _ => ?_)
    refine r_ex hX hP 1 (pc' := 70) (st' := [(0, t), (2, (Ad E 14)), (1, x15)]) (lo' := [(0, (2, (Ad E 1))), (1, (0, t)), (2, (0, ((20 * x2) + x4))), (3, (0, ((20 * x6) + x4)))]) rfl ?_
    refine r_ialdK hX hP rfl al_14 s9 (by first | decide | omega) (by first | decide | omega) (x := x10) x10e ?_
    refine r_i2l hX hP rfl (by first | decide | omega) (by first | decide | omega) ?_
    refine r_ex hX hP 1 (pc' := 73) (st' := [(1, (x15 * x10))]) (lo' := [(0, (2, (Ad E 1))), (1, (0, t)), (2, (0, ((20 * x2) + x4))), (3, (0, ((20 * x6) + x4)))]) rfl ?_
    refine r_hvL hX (fun w16 w16a w16b w16e => ?_)
    refine r_ex hX hP 1 (pc' := 74) (st' := [(2, (Ad E 1)), (1, w16)]) (lo' := [(0, (2, (Ad E 1))), (1, (0, t)), (2, (0, ((20 * x2) + x4))), (3, (0, ((20 * x6) + x4)))]) rfl ?_
    refine r_getC hX hP rfl fl_12_241 hS (fun _ => ?_)
    refine r_ex hX hP 1 (pc' := 78) (st' := [(0, ((20 * x2) + x4)), (2, (Ad E 72)), (1, w16)]) (lo' := [(0, (2, (Ad E 1))), (1, (0, t)), (2, (0, ((20 * x2) + x4))), (3, (0, ((20 * x6) + x4)))]) rfl ?_
    refine r_laldK hX hP rfl al_72 s7 (by first | decide | omega) (by first | decide | omega) (x := x8) x8e ?_
    refine r_ldiv hX hP rfl (by first | decide | omega) (by first | decide | omega) (by first | decide | omega) (by first | decide | omega) (by first | decide | omega) ?_
    obtain ⟨q17, q17e⟩ : ∃ q : Int, q = (Int.tdiv w16 x8) := ⟨_, rfl⟩
    rw [← q17e]
    have q17b := td_gen q17e (by first | decide | omega)
    refine r_hvL hX (fun w18 w18a w18b w18e => ?_)
    refine r_ex hX hP 2 (pc' := 83) (st' := [(2, (Ad E 1))]) (lo' := [(0, (2, (Ad E 1))), (1, (0, t)), (2, (0, ((20 * x2) + x4))), (3, (0, ((20 * x6) + x4))), (4, (1, w18))]) rfl ?_
    refine r_getC hX hP rfl fl_12_244 hS (fun _ => ?_)
    refine r_ex hX hP 2 (pc' := 88) (st' := [(0, ((20 * x2) + x4)), (2, (Ad E 73)), (0, ((20 * x2) + x4)), (2, (Ad E 73))]) (lo' := [(0, (2, (Ad E 1))), (1, (0, t)), (2, (0, ((20 * x2) + x4))), (3, (0, ((20 * x6) + x4))), (4, (1, w18))]) rfl ?_
    refine r_laldK hX hP rfl al_73 s14 (by first | decide | omega) (by first | decide | omega) (x := x15) x15e ?_
    refine r_ex hX hP 2 (pc' := 92) (st' := [(1, (x15 - w18)), (0, ((20 * x2) + x4)), (2, (Ad E 73))]) (lo' := [(0, (2, (Ad E 1))), (1, (0, t)), (2, (0, ((20 * x2) + x4))), (3, (0, ((20 * x6) + x4))), (4, (1, w18))]) rfl ?_
    refine r_hvL hX (fun w19 w19a w19b w19e => ?_)
    refine r_lastK hX hP rfl al_73 s14 (by first | decide | omega) (by first | decide | omega) (by first | decide | omega) (by first | decide | omega) (fun h20 => ?_)
    refine r_ex hX hP 1 (pc' := 94) (st' := [(2, (Ad E 1))]) (lo' := [(0, (2, (Ad E 1))), (1, (0, t)), (2, (0, ((20 * x2) + x4))), (3, (0, ((20 * x6) + x4))), (4, (1, w18))]) rfl ?_
    refine r_getC hX hP rfl fl_12_244 hS (fun _ => ?_)
    refine r_ex hX hP 2 (pc' := 99) (st' := [(0, ((20 * x6) + x4)), (2, (Ad E 73)), (0, ((20 * x6) + x4)), (2, (Ad E 73))]) (lo' := [(0, (2, (Ad E 1))), (1, (0, t)), (2, (0, ((20 * x2) + x4))), (3, (0, ((20 * x6) + x4))), (4, (1, w18))]) rfl ?_
    refine r_lald hX hP rfl al_73 s14 (by first | decide | omega) (by first | decide | omega) (fun x21 x21e x21a x21b => ?_)
    refine r_ex hX hP 2 (pc' := 103) (st' := [(1, (x21 + w18)), (0, ((20 * x6) + x4)), (2, (Ad E 73))]) (lo' := [(0, (2, (Ad E 1))), (1, (0, t)), (2, (0, ((20 * x2) + x4))), (3, (0, ((20 * x6) + x4))), (4, (1, w18))]) rfl ?_
    refine r_hvL hX (fun w22 w22a w22b w22e => ?_)
    refine r_lastK hX hP rfl al_73 s14 (by first | decide | omega) (by first | decide | omega) (by first | decide | omega) (by first | decide | omega) (fun h23 => ?_)
    refine r_ex hX hP 1 (pc' := 105) (st' := [(2, (Ad E 1))]) (lo' := [(0, (2, (Ad E 1))), (1, (0, t)), (2, (0, ((20 * x2) + x4))), (3, (0, ((20 * x6) + x4))), (4, (1, w18))]) rfl ?_
    refine r_getC hX hP rfl fl_12_241 hS (fun _ => ?_)
    refine r_ex hX hP 2 (pc' := 110) (st' := [(0, ((20 * x2) + x4)), (2, (Ad E 72)), (0, ((20 * x2) + x4)), (2, (Ad E 72))]) (lo' := [(0, (2, (Ad E 1))), (1, (0, t)), (2, (0, ((20 * x2) + x4))), (3, (0, ((20 * x6) + x4))), (4, (1, w18))]) rfl ?_
    refine r_laldK hX hP rfl al_72 s7 (by first | decide | omega) (by first | decide | omega) (x := x8) x8e ?_
    refine r_ex hX hP 1 (pc' := 112) (st' := [(2, (Ad E 1)), (1, x8), (0, ((20 * x2) + x4)), (2, (Ad E 72))]) (lo' := [(0, (2, (Ad E 1))), (1, (0, t)), (2, (0, ((20 * x2) + x4))), (3, (0, ((20 * x6) + x4))), (4, (1, w18))]) rfl ?_
    refine r_getC hX hP rfl fl_12_55 hS (fun _ => ?_)
    refine r_ex hX hP 1 (pc' := 116) (st' := [(0, t), (2, (Ad E 14)), (1, x8), (0, ((20 * x2) + x4)), (2, (Ad E 72))]) (lo' := [(0, (2, (Ad E 1))), (1, (0, t)), (2, (0, ((20 * x2) + x4))), (3, (0, ((20 * x6) + x4))), (4, (1, w18))]) rfl ?_
    refine r_ialdK hX hP rfl al_14 s9 (by first | decide | omega) (by first | decide | omega) (x := x10) x10e ?_
    refine r_i2l hX hP rfl (by first | decide | omega) (by first | decide | omega) ?_
    refine r_ex hX hP 1 (pc' := 119) (st' := [(1, (x8 - x10)), (0, ((20 * x2) + x4)), (2, (Ad E 72))]) (lo' := [(0, (2, (Ad E 1))), (1, (0, t)), (2, (0, ((20 * x2) + x4))), (3, (0, ((20 * x6) + x4))), (4, (1, w18))]) rfl ?_
    refine r_lastK hX hP rfl al_72 s7 (by first | decide | omega) (by first | decide | omega) (by first | decide | omega) (by first | decide | omega) (fun h24 => ?_)
    refine r_ex hX hP 1 (pc' := 121) (st' := [(2, (Ad E 1))]) (lo' := [(0, (2, (Ad E 1))), (1, (0, t)), (2, (0, ((20 * x2) + x4))), (3, (0, ((20 * x6) + x4))), (4, (1, w18))]) rfl ?_
    refine r_getC hX hP rfl fl_12_241 hS (fun _ => ?_)
    refine r_ex hX hP 2 (pc' := 126) (st' := [(0, ((20 * x6) + x4)), (2, (Ad E 72)), (0, ((20 * x6) + x4)), (2, (Ad E 72))]) (lo' := [(0, (2, (Ad E 1))), (1, (0, t)), (2, (0, ((20 * x2) + x4))), (3, (0, ((20 * x6) + x4))), (4, (1, w18))]) rfl ?_
    refine r_lald hX hP rfl al_72 s7 (by first | decide | omega) (by first | decide | omega) (fun x25 x25e x25a x25b => ?_)
    refine r_ex hX hP 1 (pc' := 128) (st' := [(2, (Ad E 1)), (1, x25), (0, ((20 * x6) + x4)), (2, (Ad E 72))]) (lo' := [(0, (2, (Ad E 1))), (1, (0, t)), (2, (0, ((20 * x2) + x4))), (3, (0, ((20 * x6) + x4))), (4, (1, w18))]) rfl ?_
    refine r_getC hX hP rfl fl_12_55 hS (fun _ => ?_)
    refine r_ex hX hP 1 (pc' := 132) (st' := [(0, t), (2, (Ad E 14)), (1, x25), (0, ((20 * x6) + x4)), (2, (Ad E 72))]) (lo' := [(0, (2, (Ad E 1))), (1, (0, t)), (2, (0, ((20 * x2) + x4))), (3, (0, ((20 * x6) + x4))), (4, (1, w18))]) rfl ?_
    refine r_ialdK hX hP rfl al_14 s9 (by first | decide | omega) (by first | decide | omega) (x := x10) x10e ?_
    refine r_i2l hX hP rfl (by first | decide | omega) (by first | decide | omega) ?_
    refine r_ex hX hP 1 (pc' := 135) (st' := [(1, (x25 + x10)), (0, ((20 * x6) + x4)), (2, (Ad E 72))]) (lo' := [(0, (2, (Ad E 1))), (1, (0, t)), (2, (0, ((20 * x2) + x4))), (3, (0, ((20 * x6) + x4))), (4, (1, w18))]) rfl ?_
    refine r_hvL hX (fun w26 w26a w26b w26e => ?_)
    refine r_lastK hX hP rfl al_72 s7 (by first | decide | omega) (by first | decide | omega) (by first | decide | omega) (by first | decide | omega) (fun h27 => ?_)
    exact r_retV hX hP rfl rfl (by first | decide | omega) (by first | decide | omega) ⟨rfl, ⟨_, (hq_up (hq_up (hq_up (hq_up (hq_up (hq_refl _ _ _) rfl) rfl) rfl) rfl) rfl).symm⟩, rfl, trivial⟩
  · skip
    exact r_retV hX hP rfl rfl (by first | decide | omega) (by first | decide | omega) ⟨rfl, ⟨_, (hq_refl _ _ _).symm⟩, rfl, trivial⟩
set_option maxRecDepth 100000 in
set_option maxHeartbeats 4000000 in
theorem c_X12_isTooMuch (E : En) (S : Sg) (G : Gh) (hS : S (Ad E 1) = 1) : Calls E mX12_isTooMuch [(2, (Ad E 1))] S G 1 0 0 (fun r S' G' => S = S' ∧ (∃ G1, hv [] [81, 84] G G1 = G') ∧ ∃ z : Int, r = some (0, z) ∧ 0 ≤ z ∧ z ≤ 1) := by
  refine calls_by [(0, (2, (Ad E 1)))] rfl rfl (Nat.le_of_ble_eq_true rfl) (fun X hX => ?_)
  have hP := hPX12_isTooMuch
  refine r_ex hX hP 2 (pc' := 2) (st' := []) (lo' := [(0, (2, (Ad E 1))), (1, (0, 0))]) rfl ?_
  have loop2 : ∀ (nF : Nat) (l1_h2 : Int) (Gh2 : Gh), 0 ≤ l1_h2 → l1_h2 ≤ 20 → 20 - l1_h2 < (nF : Int) → X 0 0 2 [] [(0, (2, (Ad E 1))), (1, (0, l1_h2))] S (hv [] [81, 84] G Gh2) := by
    intro nF
    induction nF with
    | zero => intro l1_h2 Gh2 yh2_0 yh2_1 ym2; exfalso; omega
    | succ nF ih2 =>
      intro l1_h2 Gh2 yh2_0 yh2_1 ym2
      refine r_ex hX hP 2 (pc' := 5) (st' := [(0, 20), (0, l1_h2)]) (lo' := [(0, (2, (Ad E 1))), (1, (0, l1_h2))]) rfl ?_
      refine r_ic_ge hX hP rfl (tgt := 82) rfl (by first | decide | omega) (by first | decide | omega) (by first | decide | omega) (by first | decide | omega) (fun c1 => ?_) (fun c1 => ?_)
      · skip
        refine r_ex hX hP 1 (pc' := 83) (st' := [(0, 0)]) (lo' := [(0, (2, (Ad E 1))), (1, (0, l1_h2))]) rfl ?_
        exact r_retZ hX hP rfl rfl (by first | decide | omega) (by first | decide | omega) (by first | decide | omega) (by first | decide | omega) ⟨rfl, ⟨_, (hq_loop (hq_refl _ _ _) rfl).symm⟩, 0, rfl, (by first | decide | omega)⟩
      · skip
        refine r_ex hX hP 2 (pc' := 10) (st' := []) (lo' := [(0, (2, (Ad E 1))), (1, (0, l1_h2)), (2, (0, 0))]) rfl ?_
        have loop10 : ∀ (nF : Nat) (l2_h10 : Int) (Gh10 : Gh), 0 ≤ l2_h10 → l2_h10 ≤ 20 → 20 - l2_h10 < (nF : Int) → X 0 0 10 [] [(0, (2, (Ad E 1))), (1, (0, l1_h2)), (2, (0, l2_h10))] S (hv [] [81] (hv [] [81, 84] G Gh2) Gh10) := by
          intro nF
          induction nF with
          | zero => intro l2_h10 Gh10 yh10_0 yh10_1 ym10; exfalso; omega
          | succ nF ih10 =>
            intro l2_h10 Gh10 yh10_0 yh10_1 ym10
            refine r_ex hX hP 2 (pc' := 12) (st' := [(2, (Ad E 1)), (0, l2_h10)]) (lo' := [(0, (2, (Ad E 1))), (1, (0, l1_h2)), (2, (0, l2_h10))]) rfl ?_
            refine r_getI hX hP rfl fl_12_314 hS (fun af2 af2e af2a af2b => ?_)
            refine r_ic_ge hX hP rfl (tgt := 41) rfl (by first | decide | omega) (by first | decide | omega) (by first | decide | omega) (by first | decide | omega) (fun c3 => ?_) (fun c3 => ?_)
            · skip
              refine r_ex hX hP 1 (pc' := 42) (st' := [(2, (Ad E 1))]) (lo' := [(0, (2, (Ad E 1))), (1, (0, l1_h2)), (2, (0, l2_h10))]) rfl ?_
              refine r_callV gd hX hP rfl cv_12_521 hS (d' := 0) (mc' := 0) (ms' := 0) (as' := []) (st := []) (by first | decide | omega) (by first | decide | omega) (by first | decide | omega) rfl rfl (Nat.le_of_ble_eq_true rfl) (c_X12_sumUp E S (hv [] [81] (hv [] [81, 84] G Gh2) Gh10)  hS) ?_
              rintro _ _ _ ⟨rfl, ⟨G4, rfl⟩, rfl, -⟩
              refine r_ex hX hP 2 (pc' := 47) (st' := []) (lo' := [(0, (2, (Ad E 1))), (1, (0, l1_h2)), (2, (0, 0))]) rfl ?_
              have loop47 : ∀ (nF : Nat) (l2_h47 : Int), 0 ≤ l2_h47 → l2_h47 ≤ 20 → 20 - l2_h47 < (nF : Int) → X 0 0 47 [] [(0, (2, (Ad E 1))), (1, (0, l1_h2)), (2, (0, l2_h47))] S (hv [] [84] (hv [] [81] (hv [] [81, 84] G Gh2) Gh10) G4) := by
                intro nF
                induction nF with
                | zero => intro l2_h47 yh47_0 yh47_1 ym47; exfalso; omega
                | succ nF ih47 =>
                  intro l2_h47 yh47_0 yh47_1 ym47
                  refine r_ex hX hP 2 (pc' := 49) (st' := [(2, (Ad E 1)), (0, l2_h47)]) (lo' := [(0, (2, (Ad E 1))), (1, (0, l1_h2)), (2, (0, l2_h47))]) rfl ?_
                  refine r_getKI hX hP rfl fl_12_314 hS (x := af2) af2e ?_
                  refine r_ic_ge hX hP rfl (tgt := 76) rfl (by first | decide | omega) (by first | decide | omega) (by first | decide | omega) (by first | decide | omega) (fun c5 => ?_) (fun c5 => ?_)
                  · skip
                    refine r_ex hX hP 2 (pc' := 2) (st' := []) (lo' := [(0, (2, (Ad E 1))), (1, (0, (l1_h2 + 1))), (2, (0, l2_h47))]) rfl ?_
                    refine r_pick hX [0, 1] (lo' := [(0, (2, (Ad E 1))), (1, (0, (l1_h2 + 1)))]) rfl ?_
                    refine r_eqG (X := X) (hq_call (hq_loop (hq_base _ _ _ _) rfl) rfl) ?_
                    exact ih2 (l1_h2 + 1) _ (by first | decide | omega) (by first | decide | omega) (by first | decide | omega)
                  · skip
                    refine r_ex hX hP 1 (pc' := 56) (st' := [(2, (Ad E 1))]) (lo' := [(0, (2, (Ad E 1))), (1, (0, l1_h2)), (2, (0, l2_h47))]) rfl ?_
                    refine r_getC hX hP rfl fl_12_277 hS (fun s6 => ?_)
                    refine r_ex hX hP 1 (pc' := 60) (st' := [(0, l2_h47), (2, (Ad E 84))]) (lo' := [(0, (2, (Ad E 1))), (1, (0, l1_h2)), (2, (0, l2_h47))]) rfl ?_
                    refine r_lald hX hP rfl al_84 s6 (by first | decide | omega) (by first | decide | omega) (fun x7 x7e x7a x7b => ?_)
                    refine r_ldc2 hX hP rfl (v := 1000000000) (tbg sg10 124 rfl rfl) ?_
                    refine r_lc_le hX hP rfl rfl (tgt := 70) rfl (by first | decide | omega) (by first | decide | omega) (by first | decide | omega) (by first | decide | omega) (fun c8 => ?_) (fun c8 => ?_)
                    · skip
                      refine r_ex hX hP 2 (pc' := 47) (st' := []) (lo' := [(0, (2, (Ad E 1))), (1, (0, l1_h2)), (2, (0, (l2_h47 + 1)))]) rfl ?_
                      exact ih47 (l2_h47 + 1) (by first | decide | omega) (by first | decide | omega) (by first | decide | omega)
                    · skip
                      refine r_ex hX hP 1 (pc' := 69) (st' := [(0, 1)]) (lo' := [(0, (2, (Ad E 1))), (1, (0, l1_h2)), (2, (0, l2_h47))]) rfl ?_
                      exact r_retZ hX hP rfl rfl (by first | decide | omega) (by first | decide | omega) (by first | decide | omega) (by first | decide | omega) ⟨rfl, ⟨_, (hq_call (hq_loop (hq_loop (hq_refl _ _ _) rfl) rfl) rfl).symm⟩, 1, rfl, (by first | decide | omega)⟩
              exact loop47 ((20 - 0) + 1 : Int).toNat 0 (by first | decide | omega) (by first | decide | omega) (by first | decide | omega)
            · skip
              refine r_ex hX hP 1 (pc' := 19) (st' := [(2, (Ad E 1))]) (lo' := [(0, (2, (Ad E 1))), (1, (0, l1_h2)), (2, (0, l2_h10))]) rfl ?_
              refine r_getC hX hP rfl fl_12_268 hS (fun s9 => ?_)
              refine r_ex hX hP 2 (pc' := 24) (st' := [(2, (Ad E 1)), (0, l2_h10), (2, (Ad E 81))]) (lo' := [(0, (2, (Ad E 1))), (1, (0, l1_h2)), (2, (0, l2_h10))]) rfl ?_
              refine r_getC hX hP rfl fl_12_241 hS (fun s10 => ?_)
              refine r_ex hX hP 5 (pc' := 33) (st' := [(0, ((20 * l2_h10) + l1_h2)), (2, (Ad E 72)), (0, l2_h10), (2, (Ad E 81))]) (lo' := [(0, (2, (Ad E 1))), (1, (0, l1_h2)), (2, (0, l2_h10))]) rfl ?_
              refine r_lald hX hP rfl al_72 s10 (by first | decide | omega) (by first | decide | omega) (fun x11 x11e x11a x11b => ?_)
              refine r_lastK hX hP rfl al_81 s9 (by first | decide | omega) (by first | decide | omega) (by first | decide | omega) (by first | decide | omega) (fun h12 => ?_)
              refine r_ex hX hP 2 (pc' := 10) (st' := []) (lo' := [(0, (2, (Ad E 1))), (1, (0, l1_h2)), (2, (0, (l2_h10 + 1)))]) rfl ?_
              refine r_eqG (X := X) (hq_up (hq_base _ _ _ _) rfl) ?_
              exact ih10 (l2_h10 + 1) _ (by first | decide | omega) (by first | decide | omega) (by first | decide | omega)
        refine r_eqG (X := X) (hq_refl [] [81] _) ?_
        exact loop10 ((20 - 0) + 1 : Int).toNat 0 _ (by first | decide | omega) (by first | decide | omega) (by first | decide | omega)
  refine r_eqG (X := X) (hq_refl [] [81, 84] _) ?_
  exact loop2 ((20 - 0) + 1 : Int).toNat 0 _ (by first | decide | omega) (by first | decide | omega) (by first | decide | omega)
set_option maxRecDepth 100000 in
set_option maxHeartbeats 4000000 in
theorem c_X12_totalAhead (E : En) (S : Sg) (G : Gh) (t : Int) (hS : S (Ad E 1) = 1) (t_a : 0 ≤ t) (t_b : t ≤ 19) (mi : MI E G) : Calls E mX12_totalAhead [(2, (Ad E 1)), (0, t)] S G 1 0 0 (fun r S' G' => S = S' ∧ G = G' ∧ ∃ z : Int, r = some (1, z) ∧ (-9223372036854775808) ≤ z ∧ z ≤ 9223372036854775807) := by
  refine calls_by [(0, (2, (Ad E 1))), (1, (0, t))] rfl rfl (Nat.le_of_ble_eq_true rfl) (fun X hX => ?_)
  have hP := hPX12_totalAhead
  refine r_ex hX hP 4 (pc' := 5) (st' := []) (lo' := [(0, (2, (Ad E 1))), (1, (0, t)), (2, (1, 0)), (4, (0, 0))]) rfl ?_
  have loop5 : ∀ (nF : Nat) (l2_h5 l4_h5 : Int), (-9223372036854775808) ≤ l2_h5 → l2_h5 ≤ 9223372036854775807 → 0 ≤ l4_h5 → l4_h5 ≤ 20 → 20 - l4_h5 < (nF : Int) → X 0 0 5 [] [(0, (2, (Ad E 1))), (1, (0, t)), (2, (1, l2_h5)), (4, (0, l4_h5))] S G := by
    intro nF
    induction nF with
    | zero => intro l2_h5 l4_h5 yh5_0 yh5_1 yh5_2 yh5_3 ym5; exfalso; omega
    | succ nF ih5 =>
      intro l2_h5 l4_h5 yh5_0 yh5_1 yh5_2 yh5_3 ym5
      refine r_ex hX hP 2 (pc' := 8) (st' := [(2, (Ad E 1)), (0, l4_h5)]) (lo' := [(0, (2, (Ad E 1))), (1, (0, t)), (2, (1, l2_h5)), (4, (0, l4_h5))]) rfl ?_
      refine r_getI hX hP rfl fl_12_314 hS (fun af1 af1e af1a af1b => ?_)
      refine r_ic_ge hX hP rfl (tgt := 44) rfl (by first | decide | omega) (by first | decide | omega) (by first | decide | omega) (by first | decide | omega) (fun c2 => ?_) (fun c2 => ?_)
      · skip
        refine r_ex hX hP 1 (pc' := 45) (st' := [(1, l2_h5)]) (lo' := [(0, (2, (Ad E 1))), (1, (0, t)), (2, (1, l2_h5)), (4, (0, l4_h5))]) rfl ?_
        exact r_retL hX hP rfl rfl (by first | decide | omega) (by first | decide | omega) ⟨rfl, rfl, l2_h5, rfl, (by first | decide | omega)⟩
      · skip
        refine r_ex hX hP 4 (pc' := 19) (st' := [(0, t), (0, l4_h5), (2, (Ad E 1)), (1, l2_h5)]) (lo' := [(0, (2, (Ad E 1))), (1, (0, t)), (2, (1, l2_h5)), (4, (0, l4_h5))]) rfl ?_
        refine r_callV gd hX hP rfl cv_12_582 hS (d' := 0) (mc' := 0) (ms' := 0) (as' := [(0, l4_h5), (0, t)]) (st := [(1, l2_h5)]) (by first | decide | omega) (by first | decide | omega) (by first | decide | omega) rfl rfl (Nat.le_of_ble_eq_true rfl) (c_X12_isBelow E S G l4_h5 t hS af1 af1e (by first | decide | omega) (by first | decide | omega) (by first | decide | omega) (by first | decide | omega) (by first | decide | omega) mi) ?_
        rintro _ _ _ ⟨rfl, rfl, z3, rfl, z3a, z3b⟩
        refine r_if_eq hX hP rfl (tgt := 35) rfl (by first | decide | omega) (by first | decide | omega) (fun c4 => ?_) (fun c4 => ?_)
        · skip
          refine r_ex hX hP 5 (pc' := 5) (st' := []) (lo' := [(0, (2, (Ad E 1))), (1, (0, t)), (2, (1, (l2_h5 + 0))), (4, (0, (l4_h5 + 1)))]) rfl ?_
          exact ih5 (l2_h5 + 0) (l4_h5 + 1) (by first | decide | omega) (by first | decide | omega) (by first | decide | omega) (by first | decide | omega) (by first | decide | omega)
        · skip
          refine r_ex hX hP 1 (pc' := 26) (st' := [(2, (Ad E 1)), (1, l2_h5)]) (lo' := [(0, (2, (Ad E 1))), (1, (0, t)), (2, (1, l2_h5)), (4, (0, l4_h5))]) rfl ?_
          refine r_getC hX hP rfl fl_12_253 hS (fun s5 => ?_)
          refine r_ex hX hP 1 (pc' := 31) (st' := [(0, l4_h5), (2, (Ad E 76)), (1, l2_h5)]) (lo' := [(0, (2, (Ad E 1))), (1, (0, t)), (2, (1, l2_h5)), (4, (0, l4_h5))]) rfl ?_
          refine r_lald hX hP rfl al_76 s5 (by first | decide | omega) (by first | decide | omega) (fun x6 x6e x6a x6b => ?_)
          refine r_ex hX hP 2 (pc' := 37) (st' := [(1, (l2_h5 + x6))]) (lo' := [(0, (2, (Ad E 1))), (1, (0, t)), (2, (1, l2_h5)), (4, (0, l4_h5))]) rfl ?_
          refine r_hvL hX (fun w7 w7a w7b w7e => ?_)
          refine r_ex hX hP 3 (pc' := 5) (st' := []) (lo' := [(0, (2, (Ad E 1))), (1, (0, t)), (2, (1, w7)), (4, (0, (l4_h5 + 1)))]) rfl ?_
          exact ih5 w7 (l4_h5 + 1) (by first | decide | omega) (by first | decide | omega) (by first | decide | omega) (by first | decide | omega) (by first | decide | omega)
  exact loop5 ((20 - 0) + 1 : Int).toNat 0 0 (by first | decide | omega) (by first | decide | omega) (by first | decide | omega) (by first | decide | omega) (by first | decide | omega)
set_option maxRecDepth 100000 in
set_option maxHeartbeats 4000000 in
theorem c_X12_lay_ (E : En) (S : Sg) (G : Gh) (e ch t : Int) (hS : S (Ad E 1) = 1) (e_a : 0 ≤ e) (e_b : e ≤ 15) (ch_a : (-1) ≤ ch) (ch_b : ch ≤ 2) (t_a : 0 ≤ t) (t_b : t ≤ 19) (mi : MI E G) : Calls E mX12_lay_ [(2, (Ad E 1)), (0, e), (0, ch), (0, t)] S G 1 0 0 (fun r S' G' => S = S' ∧ (∃ G1, hv [] [81] G G1 = G') ∧ r = none ∧ True) := by
  refine calls_by [(0, (2, (Ad E 1))), (1, (0, e)), (2, (0, ch)), (3, (0, t))] rfl rfl (Nat.le_of_ble_eq_true rfl) (fun X hX => ?_)
  have hP := hPX12_lay_
  refine r_ex hX hP 2 (pc' := 3) (st' := []) (lo' := [(0, (2, (Ad E 1))), (1, (0, e)), (2, (0, ch)), (3, (0, t)), (4, (0, 0))]) rfl ?_
  have loop3 : ∀ (nF : Nat) (l4_h3 : Int) (Gh3 : Gh), 0 ≤ l4_h3 → l4_h3 ≤ 20 → 20 - l4_h3 < (nF : Int) → X 0 0 3 [] [(0, (2, (Ad E 1))), (1, (0, e)), (2, (0, ch)), (3, (0, t)), (4, (0, l4_h3))] S (hv [] [81] G Gh3) := by
    intro nF
    induction nF with
    | zero => intro l4_h3 Gh3 yh3_0 yh3_1 ym3; exfalso; omega
    | succ nF ih3 =>
      intro l4_h3 Gh3 yh3_0 yh3_1 ym3
      refine r_ex hX hP 2 (pc' := 6) (st' := [(2, (Ad E 1)), (0, l4_h3)]) (lo' := [(0, (2, (Ad E 1))), (1, (0, e)), (2, (0, ch)), (3, (0, t)), (4, (0, l4_h3))]) rfl ?_
      refine r_getI hX hP rfl fl_12_314 hS (fun af1 af1e af1a af1b => ?_)
      refine r_ic_ge hX hP rfl (tgt := 65) rfl (by first | decide | omega) (by first | decide | omega) (by first | decide | omega) (by first | decide | omega) (fun c2 => ?_) (fun c2 => ?_)
      · skip
        exact r_retV hX hP rfl rfl (by first | decide | omega) (by first | decide | omega) ⟨rfl, ⟨_, (hq_loop (hq_refl _ _ _) rfl).symm⟩, rfl, trivial⟩
      · skip
        refine r_ex hX hP 1 (pc' := 13) (st' := [(2, (Ad E 1))]) (lo' := [(0, (2, (Ad E 1))), (1, (0, e)), (2, (0, ch)), (3, (0, t)), (4, (0, l4_h3))]) rfl ?_
        refine r_getC hX hP rfl fl_12_268 hS (fun s3 => ?_)
        refine r_ex hX hP 4 (pc' := 22) (st' := [(0, t), (0, l4_h3), (2, (Ad E 1)), (0, l4_h3), (2, (Ad E 81))]) (lo' := [(0, (2, (Ad E 1))), (1, (0, e)), (2, (0, ch)), (3, (0, t)), (4, (0, l4_h3))]) rfl ?_
        have mi4 : MI E (hv [] [81] G Gh3) := mi_keep mi rfl rfl rfl rfl rfl rfl (fun _ => rfl) (fun _ => rfl) (fun _ => rfl) (fun _ => rfl) (fun _ => rfl) (fun _ => rfl) (fun _ => rfl) (fun _ => rfl) (fun _ => rfl) (fun _ => rfl) (fun _ => rfl) (fun _ => rfl) (fun _ => rfl)
        refine r_callV gd hX hP rfl cv_12_582 hS (d' := 0) (mc' := 0) (ms' := 0) (as' := [(0, l4_h3), (0, t)]) (st := [(0, l4_h3), (2, (Ad E 81))]) (by first | decide | omega) (by first | decide | omega) (by first | decide | omega) rfl rfl (Nat.le_of_ble_eq_true rfl) (c_X12_isBelow E S (hv [] [81] G Gh3) l4_h3 t hS af1 af1e (by first | decide | omega) (by first | decide | omega) (by first | decide | omega) (by first | decide | omega) (by first | decide | omega) mi4) ?_
        rintro _ _ _ ⟨rfl, rfl, z5, rfl, z5a, z5b⟩
        refine r_if_ne hX hP rfl (tgt := 32) rfl (by first | decide | omega) (by first | decide | omega) (fun c6 => ?_) (fun c6 => ?_)
        · skip
          refine r_ex hX hP 1 (pc' := 33) (st' := [(0, ch), (0, l4_h3), (2, (Ad E 81))]) (lo' := [(0, (2, (Ad E 1))), (1, (0, e)), (2, (0, ch)), (3, (0, t)), (4, (0, l4_h3))]) rfl ?_
          refine r_if_ge hX hP rfl (tgt := 46) rfl (by first | decide | omega) (by first | decide | omega) (fun c7 => ?_) (fun c7 => ?_)
          · skip
            refine r_ex hX hP 1 (pc' := 47) (st' := [(2, (Ad E 1)), (0, l4_h3), (2, (Ad E 81))]) (lo' := [(0, (2, (Ad E 1))), (1, (0, e)), (2, (0, ch)), (3, (0, t)), (4, (0, l4_h3))]) rfl ?_
            refine r_getC hX hP rfl fl_12_259 hS (fun s8 => ?_)
            refine r_ex hX hP 5 (pc' := 57) (st' := [(0, ((20 * ch) + l4_h3)), (2, (Ad E 78)), (0, l4_h3), (2, (Ad E 81))]) (lo' := [(0, (2, (Ad E 1))), (1, (0, e)), (2, (0, ch)), (3, (0, t)), (4, (0, l4_h3))]) rfl ?_
            refine r_lald hX hP rfl al_78 s8 (by first | decide | omega) (by first | decide | omega) (fun x9 x9e x9a x9b => ?_)
            refine r_lastK hX hP rfl al_81 s3 (by first | decide | omega) (by first | decide | omega) (by first | decide | omega) (by first | decide | omega) (fun h10 => ?_)
            refine r_ex hX hP 2 (pc' := 3) (st' := []) (lo' := [(0, (2, (Ad E 1))), (1, (0, e)), (2, (0, ch)), (3, (0, t)), (4, (0, (l4_h3 + 1)))]) rfl ?_
            refine r_eqG (X := X) (hq_up (hq_base _ _ _ _) rfl) ?_
            exact ih3 (l4_h3 + 1) _ (by first | decide | omega) (by first | decide | omega) (by first | decide | omega)
          · skip
            refine r_ex hX hP 1 (pc' := 37) (st' := [(2, (Ad E 1)), (0, l4_h3), (2, (Ad E 81))]) (lo' := [(0, (2, (Ad E 1))), (1, (0, e)), (2, (0, ch)), (3, (0, t)), (4, (0, l4_h3))]) rfl ?_
            refine r_getC hX hP rfl fl_12_253 hS (fun s11 => ?_)
            refine r_ex hX hP 1 (pc' := 42) (st' := [(0, l4_h3), (2, (Ad E 76)), (0, l4_h3), (2, (Ad E 81))]) (lo' := [(0, (2, (Ad E 1))), (1, (0, e)), (2, (0, ch)), (3, (0, t)), (4, (0, l4_h3))]) rfl ?_
            refine r_lald hX hP rfl al_76 s11 (by first | decide | omega) (by first | decide | omega) (fun x12 x12e x12a x12b => ?_)
            refine r_ex hX hP 1 (pc' := 58) (st' := [(1, x12), (0, l4_h3), (2, (Ad E 81))]) (lo' := [(0, (2, (Ad E 1))), (1, (0, e)), (2, (0, ch)), (3, (0, t)), (4, (0, l4_h3))]) rfl ?_
            refine r_lastK hX hP rfl al_81 s3 (by first | decide | omega) (by first | decide | omega) (by first | decide | omega) (by first | decide | omega) (fun h13 => ?_)
            refine r_ex hX hP 2 (pc' := 3) (st' := []) (lo' := [(0, (2, (Ad E 1))), (1, (0, e)), (2, (0, ch)), (3, (0, t)), (4, (0, (l4_h3 + 1)))]) rfl ?_
            refine r_eqG (X := X) (hq_up (hq_base _ _ _ _) rfl) ?_
            exact ih3 (l4_h3 + 1) _ (by first | decide | omega) (by first | decide | omega) (by first | decide | omega)
        · skip
          refine r_ex hX hP 2 (pc' := 58) (st' := [(1, 0), (0, l4_h3), (2, (Ad E 81))]) (lo' := [(0, (2, (Ad E 1))), (1, (0, e)), (2, (0, ch)), (3, (0, t)), (4, (0, l4_h3))]) rfl ?_
          refine r_lastK hX hP rfl al_81 s3 (by first | decide | omega) (by first | decide | omega) (by first | decide | omega) (by first | decide | omega) (fun h14 => ?_)
          refine r_ex hX hP 2 (pc' := 3) (st' := []) (lo' := [(0, (2, (Ad E 1))), (1, (0, e)), (2, (0, ch)), (3, (0, t)), (4, (0, (l4_h3 + 1)))]) rfl ?_
          refine r_eqG (X := X) (hq_up (hq_base _ _ _ _) rfl) ?_
          exact ih3 (l4_h3 + 1) _ (by first | decide | omega) (by first | decide | omega) (by first | decide | omega)
  refine r_eqG (X := X) (hq_refl [] [81] _) ?_
  exact loop3 ((20 - 0) + 1 : Int).toNat 0 _ (by first | decide | omega) (by first | decide | omega) (by first | decide | omega)
set_option maxRecDepth 100000 in
set_option maxHeartbeats 4000000 in
theorem c_X12_pays (E : En) (S : Sg) (G : Gh) (x t sg : Int) (hS : S (Ad E 1) = 1) (x_a : (-9223372036854775808) ≤ x) (x_b : x ≤ 9223372036854775807) (t_a : 0 ≤ t) (t_b : t ≤ 19) (sg_a : (-9223372036854775808) ≤ sg) (sg_b : sg ≤ 9223372036854775807) : Calls E mX12_pays [(2, (Ad E 1)), (1, x), (0, t), (1, sg)] S G 2 0 0 (fun r S' G' => S = S' ∧ (∃ G1, hv [] [80, 82, 83, 84, 90, 91] G G1 = G') ∧ r = none ∧ True) := by
  refine calls_by [(0, (2, (Ad E 1))), (1, (1, x)), (3, (0, t)), (4, (1, sg))] rfl rfl (Nat.le_of_ble_eq_true rfl) (fun X hX => ?_)
  have hP := hPX12_pays
  refine r_ex hX hP 3 (pc' := 3) (st' := [(0, t), (1, x), (2, (Ad E 1))]) (lo' := [(0, (2, (Ad E 1))), (1, (1, x)), (3, (0, t)), (4, (1, sg))]) rfl ?_
  refine r_callV gd hX hP rfl cv_12_557 hS (d' := 1) (mc' := 0) (ms' := 0) (as' := [(1, x), (0, t)]) (st := []) (by first | decide | omega) (by first | decide | omega) (by first | decide | omega) rfl rfl (Nat.le_of_ble_eq_true rfl) (c_X12_parts E S G x t hS (by first | decide | omega) (by first | decide | omega) (by first | decide | omega) (by first | decide | omega)) ?_
  rintro _ _ _ ⟨rfl, ⟨G1, rfl⟩, rfl, -⟩
  refine r_ex hX hP 2 (pc' := 9) (st' := []) (lo' := [(0, (2, (Ad E 1))), (1, (1, x)), (3, (0, t)), (4, (1, sg)), (6, (0, 0))]) rfl ?_
  have loop9 : ∀ (nF : Nat) (l6_h9 : Int) (Gh9 : Gh), 0 ≤ l6_h9 → l6_h9 ≤ 20 → 20 - l6_h9 < (nF : Int) → X 0 0 9 [] [(0, (2, (Ad E 1))), (1, (1, x)), (3, (0, t)), (4, (1, sg)), (6, (0, l6_h9))] S (hv [] [80] (hv [] [82, 83, 84, 90, 91] G G1) Gh9) := by
    intro nF
    induction nF with
    | zero => intro l6_h9 Gh9 yh9_0 yh9_1 ym9; exfalso; omega
    | succ nF ih9 =>
      intro l6_h9 Gh9 yh9_0 yh9_1 ym9
      refine r_ex hX hP 2 (pc' := 12) (st' := [(2, (Ad E 1)), (0, l6_h9)]) (lo' := [(0, (2, (Ad E 1))), (1, (1, x)), (3, (0, t)), (4, (1, sg)), (6, (0, l6_h9))]) rfl ?_
      refine r_getI hX hP rfl fl_12_314 hS (fun af2 af2e af2a af2b => ?_)
      refine r_ic_ge hX hP rfl (tgt := 44) rfl (by first | decide | omega) (by first | decide | omega) (by first | decide | omega) (by first | decide | omega) (fun c3 => ?_) (fun c3 => ?_)
      · skip
        exact r_retV hX hP rfl rfl (by first | decide | omega) (by first | decide | omega) ⟨rfl, ⟨_, (hq_loop (hq_call (hq_refl _ _ _) rfl) rfl).symm⟩, rfl, trivial⟩
      · skip
        refine r_ex hX hP 1 (pc' := 19) (st' := [(2, (Ad E 1))]) (lo' := [(0, (2, (Ad E 1))), (1, (1, x)), (3, (0, t)), (4, (1, sg)), (6, (0, l6_h9))]) rfl ?_
        refine r_getC hX hP rfl fl_12_265 hS (fun s4 => ?_)
        refine r_ex hX hP 2 (pc' := 25) (st' := [(0, l6_h9), (2, (Ad E 80)), (0, l6_h9), (2, (Ad E 80))]) (lo' := [(0, (2, (Ad E 1))), (1, (1, x)), (3, (0, t)), (4, (1, sg)), (6, (0, l6_h9))]) rfl ?_
        refine r_lald hX hP rfl al_80 s4 (by first | decide | omega) (by first | decide | omega) (fun x5 x5e x5a x5b => ?_)
        refine r_ex hX hP 2 (pc' := 29) (st' := [(2, (Ad E 1)), (1, sg), (1, x5), (0, l6_h9), (2, (Ad E 80))]) (lo' := [(0, (2, (Ad E 1))), (1, (1, x)), (3, (0, t)), (4, (1, sg)), (6, (0, l6_h9))]) rfl ?_
        refine r_getC hX hP rfl fl_12_271 hS (fun s6 => ?_)
        refine r_ex hX hP 1 (pc' := 34) (st' := [(0, l6_h9), (2, (Ad E 82)), (1, sg), (1, x5), (0, l6_h9), (2, (Ad E 80))]) (lo' := [(0, (2, (Ad E 1))), (1, (1, x)), (3, (0, t)), (4, (1, sg)), (6, (0, l6_h9))]) rfl ?_
        refine r_lald hX hP rfl al_82 s6 (by first | decide | omega) (by first | decide | omega) (fun x7 x7e x7a x7b => ?_)
        refine r_ex hX hP 1 (pc' := 36) (st' := [(1, (sg * x7)), (1, x5), (0, l6_h9), (2, (Ad E 80))]) (lo' := [(0, (2, (Ad E 1))), (1, (1, x)), (3, (0, t)), (4, (1, sg)), (6, (0, l6_h9))]) rfl ?_
        refine r_hvL hX (fun w8 w8a w8b w8e => ?_)
        refine r_ex hX hP 1 (pc' := 37) (st' := [(1, (x5 + w8)), (0, l6_h9), (2, (Ad E 80))]) (lo' := [(0, (2, (Ad E 1))), (1, (1, x)), (3, (0, t)), (4, (1, sg)), (6, (0, l6_h9))]) rfl ?_
        refine r_hvL hX (fun w9 w9a w9b w9e => ?_)
        refine r_lastK hX hP rfl al_80 s4 (by first | decide | omega) (by first | decide | omega) (by first | decide | omega) (by first | decide | omega) (fun h10 => ?_)
        refine r_ex hX hP 2 (pc' := 9) (st' := []) (lo' := [(0, (2, (Ad E 1))), (1, (1, x)), (3, (0, t)), (4, (1, sg)), (6, (0, (l6_h9 + 1)))]) rfl ?_
        refine r_eqG (X := X) (hq_up (hq_base _ _ _ _) rfl) ?_
        exact ih9 (l6_h9 + 1) _ (by first | decide | omega) (by first | decide | omega) (by first | decide | omega)
  refine r_eqG (X := X) (hq_refl [] [80] _) ?_
  exact loop9 ((20 - 0) + 1 : Int).toNat 0 _ (by first | decide | omega) (by first | decide | omega) (by first | decide | omega)
set_option maxRecDepth 100000 in
set_option maxHeartbeats 4000000 in
theorem c_X12_cutBack (E : En) (S : Sg) (G : Gh) (most small : Int) (hS : S (Ad E 1) = 1) (most_a : (-9223372036854775808) ≤ most) (most_b : most ≤ 9223372036854775807) (small_a : (-2147483648) ≤ small) (small_b : small ≤ 2147483647) : Calls E mX12_cutBack [(2, (Ad E 1)), (1, most), (0, small)] S G 0 0 0 (fun r S' G' => S = S' ∧ (∃ G1, hv [] [86, 91, 92] G G1 = G') ∧ r = none ∧ True) := by
  refine calls_by [(0, (2, (Ad E 1))), (1, (1, most)), (3, (0, small))] rfl rfl (Nat.le_of_ble_eq_true rfl) (fun X hX => ?_)
  have hP := hPX12_cutBack
  refine r_ex hX hP 6 (pc' := 9) (st' := []) (lo' := [(0, (2, (Ad E 1))), (1, (1, most)), (3, (0, small)), (4, (1, most)), (6, (1, 0)), (8, (0, 0))]) rfl ?_
  have loop9 : ∀ (nF : Nat) (l4_h9 l6_h9 l8_h9 : Int) (Gh9 : Gh), (-9223372036854775808) ≤ l4_h9 → l4_h9 ≤ 9223372036854775807 → (-9223372036854775808) ≤ l6_h9 → l6_h9 ≤ 9223372036854775807 → 0 ≤ l8_h9 → l8_h9 ≤ 20 → 20 - l8_h9 < (nF : Int) → X 0 0 9 [] [(0, (2, (Ad E 1))), (1, (1, most)), (3, (0, small)), (4, (1, l4_h9)), (6, (1, l6_h9)), (8, (0, l8_h9))] S (hv [] [92] G Gh9) := by
    intro nF
    induction nF with
    | zero => intro l4_h9 l6_h9 l8_h9 Gh9 yh9_0 yh9_1 yh9_2 yh9_3 yh9_4 yh9_5 ym9; exfalso; omega
    | succ nF ih9 =>
      intro l4_h9 l6_h9 l8_h9 Gh9 yh9_0 yh9_1 yh9_2 yh9_3 yh9_4 yh9_5 ym9
      refine r_ex hX hP 2 (pc' := 12) (st' := [(2, (Ad E 1)), (0, l8_h9)]) (lo' := [(0, (2, (Ad E 1))), (1, (1, most)), (3, (0, small)), (4, (1, l4_h9)), (6, (1, l6_h9)), (8, (0, l8_h9))]) rfl ?_
      refine r_getI hX hP rfl fl_12_314 hS (fun af1 af1e af1a af1b => ?_)
      refine r_ic_ge hX hP rfl (tgt := 103) rfl (by first | decide | omega) (by first | decide | omega) (by first | decide | omega) (by first | decide | omega) (fun c2 => ?_) (fun c2 => ?_)
      · skip
        refine r_ex hX hP 4 (pc' := 110) (st' := []) (lo' := [(0, (2, (Ad E 1))), (1, (1, most)), (3, (0, small)), (4, (1, l4_h9)), (6, (1, l6_h9)), (8, (1, l4_h9)), (10, (0, 0))]) rfl ?_
        have loop110 : ∀ (nF : Nat) (l8_h110 l10_h110 : Int) (Gh110 : Gh), (-9223372036854775808) ≤ l8_h110 → l8_h110 ≤ 9223372036854775807 → 0 ≤ l10_h110 → l10_h110 ≤ 20 → 20 - l10_h110 < (nF : Int) → X 0 0 110 [] [(0, (2, (Ad E 1))), (1, (1, most)), (3, (0, small)), (4, (1, l4_h9)), (6, (1, l6_h9)), (8, (1, l8_h110)), (10, (0, l10_h110))] S (hv [] [86, 91] (hv [] [92] G Gh9) Gh110) := by
          intro nF
          induction nF with
          | zero => intro l8_h110 l10_h110 Gh110 yh110_0 yh110_1 yh110_2 yh110_3 ym110; exfalso; omega
          | succ nF ih110 =>
            intro l8_h110 l10_h110 Gh110 yh110_0 yh110_1 yh110_2 yh110_3 ym110
            refine r_ex hX hP 2 (pc' := 113) (st' := [(2, (Ad E 1)), (0, l10_h110)]) (lo' := [(0, (2, (Ad E 1))), (1, (1, most)), (3, (0, small)), (4, (1, l4_h9)), (6, (1, l6_h9)), (8, (1, l8_h110)), (10, (0, l10_h110))]) rfl ?_
            refine r_getKI hX hP rfl fl_12_314 hS (x := af1) af1e ?_
            refine r_ic_ge hX hP rfl (tgt := 207) rfl (by first | decide | omega) (by first | decide | omega) (by first | decide | omega) (by first | decide | omega) (fun c3 => ?_) (fun c3 => ?_)
            · skip
              have loop207 : ∀ (nF : Nat) (l8_h207 l10_h207 : Int) (Gh207 : Gh), (-9223372036854775808) ≤ l8_h207 → l8_h207 ≤ 9223372036854775807 → (-2147483648) ≤ l10_h207 → l10_h207 ≤ 2147483647 → max l8_h207 0 < (nF : Int) → X 0 0 207 [] [(0, (2, (Ad E 1))), (1, (1, most)), (3, (0, small)), (4, (1, l4_h9)), (6, (1, l6_h9)), (8, (1, l8_h207)), (10, (0, l10_h207))] S (hv [] [86, 91] (hv [] [86, 91] (hv [] [92] G Gh9) Gh110) Gh207) := by
                intro nF
                induction nF with
                | zero => intro l8_h207 l10_h207 Gh207 yh207_0 yh207_1 yh207_2 yh207_3 ym207; exfalso; omega
                | succ nF ih207 =>
                  intro l8_h207 l10_h207 Gh207 yh207_0 yh207_1 yh207_2 yh207_3 ym207
                  refine r_ex hX hP 2 (pc' := 210) (st' := [(1, 0), (1, l8_h207)]) (lo' := [(0, (2, (Ad E 1))), (1, (1, most)), (3, (0, small)), (4, (1, l4_h9)), (6, (1, l6_h9)), (8, (1, l8_h207)), (10, (0, l10_h207))]) rfl ?_
                  refine r_lc_le hX hP rfl rfl (tgt := 287) rfl (by first | decide | omega) (by first | decide | omega) (by first | decide | omega) (by first | decide | omega) (fun c4 => ?_) (fun c4 => ?_)
                  · skip
                    exact r_retV hX hP rfl rfl (by first | decide | omega) (by first | decide | omega) ⟨rfl, ⟨_, (hq_loop (hq_loop (hq_loop (hq_refl _ _ _) rfl) rfl) rfl).symm⟩, rfl, trivial⟩
                  · skip
                    refine r_ex hX hP 4 (pc' := 220) (st' := []) (lo' := [(0, (2, (Ad E 1))), (1, (1, most)), (3, (0, small)), (4, (1, l4_h9)), (6, (1, l6_h9)), (8, (1, l8_h207)), (10, (0, 0)), (11, (0, 1))]) rfl ?_
                    have loop220 : ∀ (nF : Nat) (l10_h220 l11_h220 : Int), 0 ≤ l10_h220 → l10_h220 ≤ 19 → 1 ≤ l11_h220 → l11_h220 ≤ 20 → 20 - l11_h220 < (nF : Int) → X 0 0 220 [] [(0, (2, (Ad E 1))), (1, (1, most)), (3, (0, small)), (4, (1, l4_h9)), (6, (1, l6_h9)), (8, (1, l8_h207)), (10, (0, l10_h220)), (11, (0, l11_h220))] S (hv [] [86, 91] (hv [] [86, 91] (hv [] [92] G Gh9) Gh110) Gh207) := by
                      intro nF
                      induction nF with
                      | zero => intro l10_h220 l11_h220 yh220_0 yh220_1 yh220_2 yh220_3 ym220; exfalso; omega
                      | succ nF ih220 =>
                        intro l10_h220 l11_h220 yh220_0 yh220_1 yh220_2 yh220_3 ym220
                        refine r_ex hX hP 2 (pc' := 223) (st' := [(2, (Ad E 1)), (0, l11_h220)]) (lo' := [(0, (2, (Ad E 1))), (1, (1, most)), (3, (0, small)), (4, (1, l4_h9)), (6, (1, l6_h9)), (8, (1, l8_h207)), (10, (0, l10_h220)), (11, (0, l11_h220))]) rfl ?_
                        refine r_getKI hX hP rfl fl_12_314 hS (x := af1) af1e ?_
                        refine r_ic_ge hX hP rfl (tgt := 257) rfl (by first | decide | omega) (by first | decide | omega) (by first | decide | omega) (by first | decide | omega) (fun c5 => ?_) (fun c5 => ?_)
                        · skip
                          refine r_ex hX hP 1 (pc' := 258) (st' := [(2, (Ad E 1))]) (lo' := [(0, (2, (Ad E 1))), (1, (1, most)), (3, (0, small)), (4, (1, l4_h9)), (6, (1, l6_h9)), (8, (1, l8_h207)), (10, (0, l10_h220)), (11, (0, l11_h220))]) rfl ?_
                          refine r_getC hX hP rfl fl_12_283 hS (fun s6 => ?_)
                          refine r_ex hX hP 2 (pc' := 264) (st' := [(0, l10_h220), (2, (Ad E 86)), (0, l10_h220), (2, (Ad E 86))]) (lo' := [(0, (2, (Ad E 1))), (1, (1, most)), (3, (0, small)), (4, (1, l4_h9)), (6, (1, l6_h9)), (8, (1, l8_h207)), (10, (0, l10_h220)), (11, (0, l11_h220))]) rfl ?_
                          refine r_lald hX hP rfl al_86 s6 (by first | decide | omega) (by first | decide | omega) (fun x7 x7e x7a x7b => ?_)
                          refine r_ex hX hP 2 (pc' := 267) (st' := [(1, (x7 + 1)), (0, l10_h220), (2, (Ad E 86))]) (lo' := [(0, (2, (Ad E 1))), (1, (1, most)), (3, (0, small)), (4, (1, l4_h9)), (6, (1, l6_h9)), (8, (1, l8_h207)), (10, (0, l10_h220)), (11, (0, l11_h220))]) rfl ?_
                          refine r_hvL hX (fun w8 w8a w8b w8e => ?_)
                          refine r_lastK hX hP rfl al_86 s6 (by first | decide | omega) (by first | decide | omega) (by first | decide | omega) (by first | decide | omega) (fun h9 => ?_)
                          refine r_ex hX hP 1 (pc' := 269) (st' := [(2, (Ad E 1))]) (lo' := [(0, (2, (Ad E 1))), (1, (1, most)), (3, (0, small)), (4, (1, l4_h9)), (6, (1, l6_h9)), (8, (1, l8_h207)), (10, (0, l10_h220)), (11, (0, l11_h220))]) rfl ?_
                          refine r_getC hX hP rfl fl_12_298 hS (fun s10 => ?_)
                          refine r_ex hX hP 1 (pc' := 274) (st' := [(0, l10_h220), (2, (Ad E 91))]) (lo' := [(0, (2, (Ad E 1))), (1, (1, most)), (3, (0, small)), (4, (1, l4_h9)), (6, (1, l6_h9)), (8, (1, l8_h207)), (10, (0, l10_h220)), (11, (0, l11_h220))]) rfl ?_
                          refine r_ldc2 hX hP rfl (v := (-1)) (tbg sg9 135 rfl rfl) ?_
                          refine r_lastK hX hP rfl al_91 s10 (by first | decide | omega) (by first | decide | omega) (by first | decide | omega) (by first | decide | omega) (fun h11 => ?_)
                          refine r_ex hX hP 5 (pc' := 207) (st' := []) (lo' := [(0, (2, (Ad E 1))), (1, (1, most)), (3, (0, small)), (4, (1, l4_h9)), (6, (1, l6_h9)), (8, (1, (l8_h207 - 1))), (10, (0, l10_h220)), (11, (0, l11_h220))]) rfl ?_
                          refine r_pick hX [0, 1, 2, 3, 4, 5, 6] (lo' := [(0, (2, (Ad E 1))), (1, (1, most)), (3, (0, small)), (4, (1, l4_h9)), (6, (1, l6_h9)), (8, (1, (l8_h207 - 1))), (10, (0, l10_h220))]) rfl ?_
                          refine r_eqG (X := X) (hq_up (hq_up (hq_base _ _ _ _) rfl) rfl) ?_
                          exact ih207 (l8_h207 - 1) l10_h220 _ (by first | decide | omega) (by first | decide | omega) (by first | decide | omega) (by first | decide | omega) (by first | decide | omega)
                        · skip
                          refine r_ex hX hP 1 (pc' := 230) (st' := [(2, (Ad E 1))]) (lo' := [(0, (2, (Ad E 1))), (1, (1, most)), (3, (0, small)), (4, (1, l4_h9)), (6, (1, l6_h9)), (8, (1, l8_h207)), (10, (0, l10_h220)), (11, (0, l11_h220))]) rfl ?_
                          refine r_getC hX hP rfl fl_12_298 hS (fun s12 => ?_)
                          refine r_ex hX hP 1 (pc' := 235) (st' := [(0, l11_h220), (2, (Ad E 91))]) (lo' := [(0, (2, (Ad E 1))), (1, (1, most)), (3, (0, small)), (4, (1, l4_h9)), (6, (1, l6_h9)), (8, (1, l8_h207)), (10, (0, l10_h220)), (11, (0, l11_h220))]) rfl ?_
                          refine r_lald hX hP rfl al_91 s12 (by first | decide | omega) (by first | decide | omega) (fun x13 x13e x13a x13b => ?_)
                          refine r_ex hX hP 1 (pc' := 237) (st' := [(2, (Ad E 1)), (1, x13)]) (lo' := [(0, (2, (Ad E 1))), (1, (1, most)), (3, (0, small)), (4, (1, l4_h9)), (6, (1, l6_h9)), (8, (1, l8_h207)), (10, (0, l10_h220)), (11, (0, l11_h220))]) rfl ?_
                          refine r_getC hX hP rfl fl_12_298 hS (fun _ => ?_)
                          refine r_ex hX hP 1 (pc' := 242) (st' := [(0, l10_h220), (2, (Ad E 91)), (1, x13)]) (lo' := [(0, (2, (Ad E 1))), (1, (1, most)), (3, (0, small)), (4, (1, l4_h9)), (6, (1, l6_h9)), (8, (1, l8_h207)), (10, (0, l10_h220)), (11, (0, l11_h220))]) rfl ?_
                          refine r_lald hX hP rfl al_91 s12 (by first | decide | omega) (by first | decide | omega) (fun x14 x14e x14a x14b => ?_)
                          refine r_lc_le hX hP rfl rfl (tgt := 251) rfl (by first | decide | omega) (by first | decide | omega) (by first | decide | omega) (by first | decide | omega) (fun c15 => ?_) (fun c15 => ?_)
                          · skip
                            refine r_ex hX hP 2 (pc' := 220) (st' := []) (lo' := [(0, (2, (Ad E 1))), (1, (1, most)), (3, (0, small)), (4, (1, l4_h9)), (6, (1, l6_h9)), (8, (1, l8_h207)), (10, (0, l10_h220)), (11, (0, (l11_h220 + 1)))]) rfl ?_
                            exact ih220 l10_h220 (l11_h220 + 1) (by first | decide | omega) (by first | decide | omega) (by first | decide | omega) (by first | decide | omega) (by first | decide | omega)
                          · skip
                            refine r_ex hX hP 4 (pc' := 220) (st' := []) (lo' := [(0, (2, (Ad E 1))), (1, (1, most)), (3, (0, small)), (4, (1, l4_h9)), (6, (1, l6_h9)), (8, (1, l8_h207)), (10, (0, l11_h220)), (11, (0, (l11_h220 + 1)))]) rfl ?_
                            exact ih220 l11_h220 (l11_h220 + 1) (by first | decide | omega) (by first | decide | omega) (by first | decide | omega) (by first | decide | omega) (by first | decide | omega)
                    exact loop220 ((20 - 1) + 1 : Int).toNat 0 1 (by first | decide | omega) (by first | decide | omega) (by first | decide | omega) (by first | decide | omega) (by first | decide | omega)
              refine r_eqG (X := X) (hq_refl [] [86, 91] _) ?_
              exact loop207 ((max l8_h110 0) + 1 : Int).toNat l8_h110 l10_h110 _ (by first | decide | omega) (by first | decide | omega) (by first | decide | omega) (by first | decide | omega) (by first | decide | omega)
            · skip
              refine r_ex hX hP 1 (pc' := 120) (st' := [(2, (Ad E 1))]) (lo' := [(0, (2, (Ad E 1))), (1, (1, most)), (3, (0, small)), (4, (1, l4_h9)), (6, (1, l6_h9)), (8, (1, l8_h110)), (10, (0, l10_h110))]) rfl ?_
              refine r_getC hX hP rfl fl_12_298 hS (fun s16 => ?_)
              refine r_ex hX hP 1 (pc' := 125) (st' := [(0, l10_h110), (2, (Ad E 91))]) (lo' := [(0, (2, (Ad E 1))), (1, (1, most)), (3, (0, small)), (4, (1, l4_h9)), (6, (1, l6_h9)), (8, (1, l8_h110)), (10, (0, l10_h110))]) rfl ?_
              refine r_ldc2 hX hP rfl (v := (-1)) (tbg sg9 135 rfl rfl) ?_
              refine r_lastK hX hP rfl al_91 s16 (by first | decide | omega) (by first | decide | omega) (by first | decide | omega) (by first | decide | omega) (fun h17 => ?_)
              refine r_ex hX hP 1 (pc' := 130) (st' := [(2, (Ad E 1))]) (lo' := [(0, (2, (Ad E 1))), (1, (1, most)), (3, (0, small)), (4, (1, l4_h9)), (6, (1, l6_h9)), (8, (1, l8_h110)), (10, (0, l10_h110))]) rfl ?_
              refine r_getC hX hP rfl fl_12_301 hS (fun s18 => ?_)
              refine r_ex hX hP 1 (pc' := 135) (st' := [(0, l10_h110), (2, (Ad E 92))]) (lo' := [(0, (2, (Ad E 1))), (1, (1, most)), (3, (0, small)), (4, (1, l4_h9)), (6, (1, l6_h9)), (8, (1, l8_h110)), (10, (0, l10_h110))]) rfl ?_
              refine r_zald hX hP rfl al_92 s18 (by first | decide | omega) (by first | decide | omega) (fun x19 x19e x19a x19b => ?_)
              refine r_if_ne hX hP rfl (tgt := 201) rfl (by first | decide | omega) (by first | decide | omega) (fun c20 => ?_) (fun c20 => ?_)
              · skip
                refine r_ex hX hP 2 (pc' := 110) (st' := []) (lo' := [(0, (2, (Ad E 1))), (1, (1, most)), (3, (0, small)), (4, (1, l4_h9)), (6, (1, l6_h9)), (8, (1, l8_h110)), (10, (0, (l10_h110 + 1)))]) rfl ?_
                refine r_eqG (X := X) (hq_up (hq_base _ _ _ _) rfl) ?_
                exact ih110 l8_h110 (l10_h110 + 1) _ (by first | decide | omega) (by first | decide | omega) (by first | decide | omega) (by first | decide | omega) (by first | decide | omega)
              · skip
                refine r_ex hX hP 2 (pc' := 142) (st' := [(1, 0), (1, l6_h9)]) (lo' := [(0, (2, (Ad E 1))), (1, (1, most)), (3, (0, small)), (4, (1, l4_h9)), (6, (1, l6_h9)), (8, (1, l8_h110)), (10, (0, l10_h110))]) rfl ?_
                refine r_lc_ne hX hP rfl rfl (tgt := 149) rfl (by first | decide | omega) (by first | decide | omega) (by first | decide | omega) (by first | decide | omega) (fun c21 => ?_) (fun c21 => ?_)
                · skip
                  refine r_ex hX hP 1 (pc' := 150) (st' := [(2, (Ad E 1))]) (lo' := [(0, (2, (Ad E 1))), (1, (1, most)), (3, (0, small)), (4, (1, l4_h9)), (6, (1, l6_h9)), (8, (1, l8_h110)), (10, (0, l10_h110))]) rfl ?_
                  refine r_getC hX hP rfl fl_12_298 hS (fun _ => ?_)
                  refine r_ex hX hP 3 (pc' := 158) (st' := [(2, (Ad E 1)), (1, l4_h9), (0, l10_h110), (2, (Ad E 91))]) (lo' := [(0, (2, (Ad E 1))), (1, (1, most)), (3, (0, small)), (4, (1, l4_h9)), (6, (1, l6_h9)), (8, (1, l8_h110)), (10, (0, l10_h110))]) rfl ?_
                  refine r_getC hX hP rfl fl_12_283 hS (fun s22 => ?_)
                  refine r_ex hX hP 1 (pc' := 163) (st' := [(0, l10_h110), (2, (Ad E 86)), (1, l4_h9), (0, l10_h110), (2, (Ad E 91))]) (lo' := [(0, (2, (Ad E 1))), (1, (1, most)), (3, (0, small)), (4, (1, l4_h9)), (6, (1, l6_h9)), (8, (1, l8_h110)), (10, (0, l10_h110))]) rfl ?_
                  refine r_lald hX hP rfl al_86 s22 (by first | decide | omega) (by first | decide | omega) (fun x23 x23e x23a x23b => ?_)
                  refine r_ex hX hP 1 (pc' := 165) (st' := [(1, (l4_h9 * x23)), (0, l10_h110), (2, (Ad E 91))]) (lo' := [(0, (2, (Ad E 1))), (1, (1, most)), (3, (0, small)), (4, (1, l4_h9)), (6, (1, l6_h9)), (8, (1, l8_h110)), (10, (0, l10_h110))]) rfl ?_
                  refine r_hvL hX (fun w24 w24a w24b w24e => ?_)
                  refine r_ex hX hP 1 (pc' := 167) (st' := [(1, l6_h9), (1, w24), (0, l10_h110), (2, (Ad E 91))]) (lo' := [(0, (2, (Ad E 1))), (1, (1, most)), (3, (0, small)), (4, (1, l4_h9)), (6, (1, l6_h9)), (8, (1, l8_h110)), (10, (0, l10_h110))]) rfl ?_
                  refine r_lrem hX hP rfl (by first | decide | omega) (by first | decide | omega) (by first | decide | omega) (by first | decide | omega) (by first | decide | omega) ?_
                  refine r_hvL hX (fun w25 w25a w25b w25e => ?_)
                  refine r_lastK hX hP rfl al_91 s16 (by first | decide | omega) (by first | decide | omega) (by first | decide | omega) (by first | decide | omega) (fun h26 => ?_)
                  refine r_ex hX hP 1 (pc' := 170) (st' := [(2, (Ad E 1))]) (lo' := [(0, (2, (Ad E 1))), (1, (1, most)), (3, (0, small)), (4, (1, l4_h9)), (6, (1, l6_h9)), (8, (1, l8_h110)), (10, (0, l10_h110))]) rfl ?_
                  refine r_getC hX hP rfl fl_12_283 hS (fun _ => ?_)
                  refine r_ex hX hP 3 (pc' := 178) (st' := [(2, (Ad E 1)), (1, l4_h9), (0, l10_h110), (2, (Ad E 86))]) (lo' := [(0, (2, (Ad E 1))), (1, (1, most)), (3, (0, small)), (4, (1, l4_h9)), (6, (1, l6_h9)), (8, (1, l8_h110)), (10, (0, l10_h110))]) rfl ?_
                  refine r_getC hX hP rfl fl_12_283 hS (fun _ => ?_)
                  refine r_ex hX hP 1 (pc' := 183) (st' := [(0, l10_h110), (2, (Ad E 86)), (1, l4_h9), (0, l10_h110), (2, (Ad E 86))]) (lo' := [(0, (2, (Ad E 1))), (1, (1, most)), (3, (0, small)), (4, (1, l4_h9)), (6, (1, l6_h9)), (8, (1, l8_h110)), (10, (0, l10_h110))]) rfl ?_
                  refine r_laldK hX hP rfl al_86 s22 (by first | decide | omega) (by first | decide | omega) (x := x23) x23e ?_
                  refine r_ex hX hP 1 (pc' := 185) (st' := [(1, (l4_h9 * x23)), (0, l10_h110), (2, (Ad E 86))]) (lo' := [(0, (2, (Ad E 1))), (1, (1, most)), (3, (0, small)), (4, (1, l4_h9)), (6, (1, l6_h9)), (8, (1, l8_h110)), (10, (0, l10_h110))]) rfl ?_
                  refine r_hvL hX (fun w27 w27a w27b w27e => ?_)
                  refine r_ex hX hP 1 (pc' := 187) (st' := [(1, l6_h9), (1, w27), (0, l10_h110), (2, (Ad E 86))]) (lo' := [(0, (2, (Ad E 1))), (1, (1, most)), (3, (0, small)), (4, (1, l4_h9)), (6, (1, l6_h9)), (8, (1, l8_h110)), (10, (0, l10_h110))]) rfl ?_
                  refine r_ldiv hX hP rfl (by first | decide | omega) (by first | decide | omega) (by first | decide | omega) (by first | decide | omega) (by first | decide | omega) ?_
                  refine r_hvL hX (fun w28 w28a w28b w28e => ?_)
                  refine r_lastK hX hP rfl al_86 s22 (by first | decide | omega) (by first | decide | omega) (by first | decide | omega) (by first | decide | omega) (fun h29 => ?_)
                  refine r_ex hX hP 2 (pc' := 192) (st' := [(2, (Ad E 1)), (1, l8_h110)]) (lo' := [(0, (2, (Ad E 1))), (1, (1, most)), (3, (0, small)), (4, (1, l4_h9)), (6, (1, l6_h9)), (8, (1, l8_h110)), (10, (0, l10_h110))]) rfl ?_
                  refine r_getC hX hP rfl fl_12_283 hS (fun _ => ?_)
                  refine r_ex hX hP 1 (pc' := 197) (st' := [(0, l10_h110), (2, (Ad E 86)), (1, l8_h110)]) (lo' := [(0, (2, (Ad E 1))), (1, (1, most)), (3, (0, small)), (4, (1, l4_h9)), (6, (1, l6_h9)), (8, (1, l8_h110)), (10, (0, l10_h110))]) rfl ?_
                  refine r_laldK hX hP rfl al_86 s22 (by first | decide | omega) (by first | decide | omega) (x := w28) h29 ?_
                  refine r_ex hX hP 1 (pc' := 199) (st' := [(1, (l8_h110 - w28))]) (lo' := [(0, (2, (Ad E 1))), (1, (1, most)), (3, (0, small)), (4, (1, l4_h9)), (6, (1, l6_h9)), (8, (1, l8_h110)), (10, (0, l10_h110))]) rfl ?_
                  refine r_hvL hX (fun w30 w30a w30b w30e => ?_)
                  refine r_ex hX hP 3 (pc' := 110) (st' := []) (lo' := [(0, (2, (Ad E 1))), (1, (1, most)), (3, (0, small)), (4, (1, l4_h9)), (6, (1, l6_h9)), (8, (1, w30)), (10, (0, (l10_h110 + 1)))]) rfl ?_
                  refine r_eqG (X := X) (hq_up (hq_up (hq_up (hq_base _ _ _ _) rfl) rfl) rfl) ?_
                  exact ih110 w30 (l10_h110 + 1) _ (by first | decide | omega) (by first | decide | omega) (by first | decide | omega) (by first | decide | omega) (by first | decide | omega)
                · skip
                  refine r_ex hX hP 3 (pc' := 110) (st' := []) (lo' := [(0, (2, (Ad E 1))), (1, (1, most)), (3, (0, small)), (4, (1, l4_h9)), (6, (1, l6_h9)), (8, (1, l8_h110)), (10, (0, (l10_h110 + 1)))]) rfl ?_
                  refine r_eqG (X := X) (hq_up (hq_base _ _ _ _) rfl) ?_
                  exact ih110 l8_h110 (l10_h110 + 1) _ (by first | decide | omega) (by first | decide | omega) (by first | decide | omega) (by first | decide | omega) (by first | decide | omega)
        refine r_eqG (X := X) (hq_refl [] [86, 91] _) ?_
        exact loop110 ((20 - 0) + 1 : Int).toNat l4_h9 0 _ (by first | decide | omega) (by first | decide | omega) (by first | decide | omega) (by first | decide | omega) (by first | decide | omega)
      · skip
        refine r_ex hX hP 1 (pc' := 19) (st' := [(2, (Ad E 1))]) (lo' := [(0, (2, (Ad E 1))), (1, (1, most)), (3, (0, small)), (4, (1, l4_h9)), (6, (1, l6_h9)), (8, (0, l8_h9))]) rfl ?_
        refine r_getC hX hP rfl fl_12_301 hS (fun s31 => ?_)
        refine r_ex hX hP 2 (pc' := 25) (st' := [(0, small), (0, l8_h9), (2, (Ad E 92))]) (lo' := [(0, (2, (Ad E 1))), (1, (1, most)), (3, (0, small)), (4, (1, l4_h9)), (6, (1, l6_h9)), (8, (0, l8_h9))]) rfl ?_
        refine r_if_lt hX hP rfl (tgt := 58) rfl (by first | decide | omega) (by first | decide | omega) (fun c32 => ?_) (fun c32 => ?_)
        · skip
          refine r_ex hX hP 1 (pc' := 59) (st' := [(0, 0), (0, l8_h9), (2, (Ad E 92))]) (lo' := [(0, (2, (Ad E 1))), (1, (1, most)), (3, (0, small)), (4, (1, l4_h9)), (6, (1, l6_h9)), (8, (0, l8_h9))]) rfl ?_
          refine r_zastK hX hP rfl al_92 s31 (by first | decide | omega) (by first | decide | omega) (by first | decide | omega) (by first | decide | omega) (by first | decide | omega) (by first | decide | omega) (fun h33 => ?_)
          refine r_ex hX hP 1 (pc' := 61) (st' := [(2, (Ad E 1))]) (lo' := [(0, (2, (Ad E 1))), (1, (1, most)), (3, (0, small)), (4, (1, l4_h9)), (6, (1, l6_h9)), (8, (0, l8_h9))]) rfl ?_
          refine r_getC hX hP rfl fl_12_301 hS (fun _ => ?_)
          refine r_ex hX hP 1 (pc' := 66) (st' := [(0, l8_h9), (2, (Ad E 92))]) (lo' := [(0, (2, (Ad E 1))), (1, (1, most)), (3, (0, small)), (4, (1, l4_h9)), (6, (1, l6_h9)), (8, (0, l8_h9))]) rfl ?_
          refine r_zaldK hX hP rfl al_92 s31 (by first | decide | omega) (by first | decide | omega) (x := 0) h33 ?_
          refine r_if_eq hX hP rfl (tgt := 85) rfl (by first | decide | omega) (by first | decide | omega) (fun c34 => ?_) (fun c34 => ?_)
          · skip
            refine r_ex hX hP 2 (pc' := 88) (st' := [(2, (Ad E 1)), (1, l6_h9)]) (lo' := [(0, (2, (Ad E 1))), (1, (1, most)), (3, (0, small)), (4, (1, l4_h9)), (6, (1, l6_h9)), (8, (0, l8_h9))]) rfl ?_
            refine r_getC hX hP rfl fl_12_283 hS (fun s35 => ?_)
            refine r_ex hX hP 1 (pc' := 93) (st' := [(0, l8_h9), (2, (Ad E 86)), (1, l6_h9)]) (lo' := [(0, (2, (Ad E 1))), (1, (1, most)), (3, (0, small)), (4, (1, l4_h9)), (6, (1, l6_h9)), (8, (0, l8_h9))]) rfl ?_
            refine r_lald hX hP rfl al_86 s35 (by first | decide | omega) (by first | decide | omega) (fun x36 x36e x36a x36b => ?_)
            refine r_ex hX hP 1 (pc' := 95) (st' := [(1, (l6_h9 + x36))]) (lo' := [(0, (2, (Ad E 1))), (1, (1, most)), (3, (0, small)), (4, (1, l4_h9)), (6, (1, l6_h9)), (8, (0, l8_h9))]) rfl ?_
            refine r_hvL hX (fun w37 w37a w37b w37e => ?_)
            refine r_ex hX hP 3 (pc' := 9) (st' := []) (lo' := [(0, (2, (Ad E 1))), (1, (1, most)), (3, (0, small)), (4, (1, l4_h9)), (6, (1, w37)), (8, (0, (l8_h9 + 1)))]) rfl ?_
            refine r_eqG (X := X) (hq_up (hq_base _ _ _ _) rfl) ?_
            exact ih9 l4_h9 w37 (l8_h9 + 1) _ (by first | decide | omega) (by first | decide | omega) (by first | decide | omega) (by first | decide | omega) (by first | decide | omega) (by first | decide | omega) (by first | decide | omega)
          · skip
            exfalso; omega
        · skip
          refine r_ex hX hP 1 (pc' := 29) (st' := [(2, (Ad E 1)), (0, l8_h9), (2, (Ad E 92))]) (lo' := [(0, (2, (Ad E 1))), (1, (1, most)), (3, (0, small)), (4, (1, l4_h9)), (6, (1, l6_h9)), (8, (0, l8_h9))]) rfl ?_
          refine r_getC hX hP rfl fl_12_283 hS (fun s38 => ?_)
          refine r_ex hX hP 1 (pc' := 34) (st' := [(0, l8_h9), (2, (Ad E 86)), (0, l8_h9), (2, (Ad E 92))]) (lo' := [(0, (2, (Ad E 1))), (1, (1, most)), (3, (0, small)), (4, (1, l4_h9)), (6, (1, l6_h9)), (8, (0, l8_h9))]) rfl ?_
          refine r_lald hX hP rfl al_86 s38 (by first | decide | omega) (by first | decide | omega) (fun x39 x39e x39a x39b => ?_)
          refine r_ex hX hP 1 (pc' := 36) (st' := [(0, small), (1, x39), (0, l8_h9), (2, (Ad E 92))]) (lo' := [(0, (2, (Ad E 1))), (1, (1, most)), (3, (0, small)), (4, (1, l4_h9)), (6, (1, l6_h9)), (8, (0, l8_h9))]) rfl ?_
          refine r_i2l hX hP rfl (by first | decide | omega) (by first | decide | omega) ?_
          refine r_lc_gt hX hP rfl rfl (tgt := 58) rfl (by first | decide | omega) (by first | decide | omega) (by first | decide | omega) (by first | decide | omega) (fun c40 => ?_) (fun c40 => ?_)
          · skip
            refine r_ex hX hP 1 (pc' := 59) (st' := [(0, 0), (0, l8_h9), (2, (Ad E 92))]) (lo' := [(0, (2, (Ad E 1))), (1, (1, most)), (3, (0, small)), (4, (1, l4_h9)), (6, (1, l6_h9)), (8, (0, l8_h9))]) rfl ?_
            refine r_zastK hX hP rfl al_92 s31 (by first | decide | omega) (by first | decide | omega) (by first | decide | omega) (by first | decide | omega) (by first | decide | omega) (by first | decide | omega) (fun h41 => ?_)
            refine r_ex hX hP 1 (pc' := 61) (st' := [(2, (Ad E 1))]) (lo' := [(0, (2, (Ad E 1))), (1, (1, most)), (3, (0, small)), (4, (1, l4_h9)), (6, (1, l6_h9)), (8, (0, l8_h9))]) rfl ?_
            refine r_getC hX hP rfl fl_12_301 hS (fun _ => ?_)
            refine r_ex hX hP 1 (pc' := 66) (st' := [(0, l8_h9), (2, (Ad E 92))]) (lo' := [(0, (2, (Ad E 1))), (1, (1, most)), (3, (0, small)), (4, (1, l4_h9)), (6, (1, l6_h9)), (8, (0, l8_h9))]) rfl ?_
            refine r_zaldK hX hP rfl al_92 s31 (by first | decide | omega) (by first | decide | omega) (x := 0) h41 ?_
            refine r_if_eq hX hP rfl (tgt := 85) rfl (by first | decide | omega) (by first | decide | omega) (fun c42 => ?_) (fun c42 => ?_)
            · skip
              refine r_ex hX hP 2 (pc' := 88) (st' := [(2, (Ad E 1)), (1, l6_h9)]) (lo' := [(0, (2, (Ad E 1))), (1, (1, most)), (3, (0, small)), (4, (1, l4_h9)), (6, (1, l6_h9)), (8, (0, l8_h9))]) rfl ?_
              refine r_getC hX hP rfl fl_12_283 hS (fun _ => ?_)
              refine r_ex hX hP 1 (pc' := 93) (st' := [(0, l8_h9), (2, (Ad E 86)), (1, l6_h9)]) (lo' := [(0, (2, (Ad E 1))), (1, (1, most)), (3, (0, small)), (4, (1, l4_h9)), (6, (1, l6_h9)), (8, (0, l8_h9))]) rfl ?_
              refine r_laldK hX hP rfl al_86 s38 (by first | decide | omega) (by first | decide | omega) (x := x39) x39e ?_
              refine r_ex hX hP 1 (pc' := 95) (st' := [(1, (l6_h9 + x39))]) (lo' := [(0, (2, (Ad E 1))), (1, (1, most)), (3, (0, small)), (4, (1, l4_h9)), (6, (1, l6_h9)), (8, (0, l8_h9))]) rfl ?_
              refine r_hvL hX (fun w43 w43a w43b w43e => ?_)
              refine r_ex hX hP 3 (pc' := 9) (st' := []) (lo' := [(0, (2, (Ad E 1))), (1, (1, most)), (3, (0, small)), (4, (1, l4_h9)), (6, (1, w43)), (8, (0, (l8_h9 + 1)))]) rfl ?_
              refine r_eqG (X := X) (hq_up (hq_base _ _ _ _) rfl) ?_
              exact ih9 l4_h9 w43 (l8_h9 + 1) _ (by first | decide | omega) (by first | decide | omega) (by first | decide | omega) (by first | decide | omega) (by first | decide | omega) (by first | decide | omega) (by first | decide | omega)
            · skip
              exfalso; omega
          · skip
            refine r_ex hX hP 1 (pc' := 42) (st' := [(2, (Ad E 1)), (0, l8_h9), (2, (Ad E 92))]) (lo' := [(0, (2, (Ad E 1))), (1, (1, most)), (3, (0, small)), (4, (1, l4_h9)), (6, (1, l6_h9)), (8, (0, l8_h9))]) rfl ?_
            refine r_getC hX hP rfl fl_12_283 hS (fun _ => ?_)
            refine r_ex hX hP 1 (pc' := 47) (st' := [(0, l8_h9), (2, (Ad E 86)), (0, l8_h9), (2, (Ad E 92))]) (lo' := [(0, (2, (Ad E 1))), (1, (1, most)), (3, (0, small)), (4, (1, l4_h9)), (6, (1, l6_h9)), (8, (0, l8_h9))]) rfl ?_
            refine r_laldK hX hP rfl al_86 s38 (by first | decide | omega) (by first | decide | omega) (x := x39) x39e ?_
            refine r_ex hX hP 1 (pc' := 50) (st' := [(1, l4_h9), (1, x39), (0, l8_h9), (2, (Ad E 92))]) (lo' := [(0, (2, (Ad E 1))), (1, (1, most)), (3, (0, small)), (4, (1, l4_h9)), (6, (1, l6_h9)), (8, (0, l8_h9))]) rfl ?_
            refine r_lc_gt hX hP rfl rfl (tgt := 58) rfl (by first | decide | omega) (by first | decide | omega) (by first | decide | omega) (by first | decide | omega) (fun c44 => ?_) (fun c44 => ?_)
            · skip
              refine r_ex hX hP 1 (pc' := 59) (st' := [(0, 0), (0, l8_h9), (2, (Ad E 92))]) (lo' := [(0, (2, (Ad E 1))), (1, (1, most)), (3, (0, small)), (4, (1, l4_h9)), (6, (1, l6_h9)), (8, (0, l8_h9))]) rfl ?_
              refine r_zastK hX hP rfl al_92 s31 (by first | decide | omega) (by first | decide | omega) (by first | decide | omega) (by first | decide | omega) (by first | decide | omega) (by first | decide | omega) (fun h45 => ?_)
              refine r_ex hX hP 1 (pc' := 61) (st' := [(2, (Ad E 1))]) (lo' := [(0, (2, (Ad E 1))), (1, (1, most)), (3, (0, small)), (4, (1, l4_h9)), (6, (1, l6_h9)), (8, (0, l8_h9))]) rfl ?_
              refine r_getC hX hP rfl fl_12_301 hS (fun _ => ?_)
              refine r_ex hX hP 1 (pc' := 66) (st' := [(0, l8_h9), (2, (Ad E 92))]) (lo' := [(0, (2, (Ad E 1))), (1, (1, most)), (3, (0, small)), (4, (1, l4_h9)), (6, (1, l6_h9)), (8, (0, l8_h9))]) rfl ?_
              refine r_zaldK hX hP rfl al_92 s31 (by first | decide | omega) (by first | decide | omega) (x := 0) h45 ?_
              refine r_if_eq hX hP rfl (tgt := 85) rfl (by first | decide | omega) (by first | decide | omega) (fun c46 => ?_) (fun c46 => ?_)
              · skip
                refine r_ex hX hP 2 (pc' := 88) (st' := [(2, (Ad E 1)), (1, l6_h9)]) (lo' := [(0, (2, (Ad E 1))), (1, (1, most)), (3, (0, small)), (4, (1, l4_h9)), (6, (1, l6_h9)), (8, (0, l8_h9))]) rfl ?_
                refine r_getC hX hP rfl fl_12_283 hS (fun _ => ?_)
                refine r_ex hX hP 1 (pc' := 93) (st' := [(0, l8_h9), (2, (Ad E 86)), (1, l6_h9)]) (lo' := [(0, (2, (Ad E 1))), (1, (1, most)), (3, (0, small)), (4, (1, l4_h9)), (6, (1, l6_h9)), (8, (0, l8_h9))]) rfl ?_
                refine r_laldK hX hP rfl al_86 s38 (by first | decide | omega) (by first | decide | omega) (x := x39) x39e ?_
                refine r_ex hX hP 1 (pc' := 95) (st' := [(1, (l6_h9 + x39))]) (lo' := [(0, (2, (Ad E 1))), (1, (1, most)), (3, (0, small)), (4, (1, l4_h9)), (6, (1, l6_h9)), (8, (0, l8_h9))]) rfl ?_
                refine r_hvL hX (fun w47 w47a w47b w47e => ?_)
                refine r_ex hX hP 3 (pc' := 9) (st' := []) (lo' := [(0, (2, (Ad E 1))), (1, (1, most)), (3, (0, small)), (4, (1, l4_h9)), (6, (1, w47)), (8, (0, (l8_h9 + 1)))]) rfl ?_
                refine r_eqG (X := X) (hq_up (hq_base _ _ _ _) rfl) ?_
                exact ih9 l4_h9 w47 (l8_h9 + 1) _ (by first | decide | omega) (by first | decide | omega) (by first | decide | omega) (by first | decide | omega) (by first | decide | omega) (by first | decide | omega) (by first | decide | omega)
              · skip
                exfalso; omega
            · skip
              refine r_ex hX hP 2 (pc' := 59) (st' := [(0, 1), (0, l8_h9), (2, (Ad E 92))]) (lo' := [(0, (2, (Ad E 1))), (1, (1, most)), (3, (0, small)), (4, (1, l4_h9)), (6, (1, l6_h9)), (8, (0, l8_h9))]) rfl ?_
              refine r_zastK hX hP rfl al_92 s31 (by first | decide | omega) (by first | decide | omega) (by first | decide | omega) (by first | decide | omega) (by first | decide | omega) (by first | decide | omega) (fun h48 => ?_)
              refine r_ex hX hP 1 (pc' := 61) (st' := [(2, (Ad E 1))]) (lo' := [(0, (2, (Ad E 1))), (1, (1, most)), (3, (0, small)), (4, (1, l4_h9)), (6, (1, l6_h9)), (8, (0, l8_h9))]) rfl ?_
              refine r_getC hX hP rfl fl_12_301 hS (fun _ => ?_)
              refine r_ex hX hP 1 (pc' := 66) (st' := [(0, l8_h9), (2, (Ad E 92))]) (lo' := [(0, (2, (Ad E 1))), (1, (1, most)), (3, (0, small)), (4, (1, l4_h9)), (6, (1, l6_h9)), (8, (0, l8_h9))]) rfl ?_
              refine r_zaldK hX hP rfl al_92 s31 (by first | decide | omega) (by first | decide | omega) (x := 1) h48 ?_
              refine r_if_eq hX hP rfl (tgt := 85) rfl (by first | decide | omega) (by first | decide | omega) (fun c49 => ?_) (fun c49 => ?_)
              · skip
                exfalso; omega
              · skip
                refine r_ex hX hP 2 (pc' := 73) (st' := [(2, (Ad E 1)), (1, l4_h9)]) (lo' := [(0, (2, (Ad E 1))), (1, (1, most)), (3, (0, small)), (4, (1, l4_h9)), (6, (1, l6_h9)), (8, (0, l8_h9))]) rfl ?_
                refine r_getC hX hP rfl fl_12_283 hS (fun _ => ?_)
                refine r_ex hX hP 1 (pc' := 78) (st' := [(0, l8_h9), (2, (Ad E 86)), (1, l4_h9)]) (lo' := [(0, (2, (Ad E 1))), (1, (1, most)), (3, (0, small)), (4, (1, l4_h9)), (6, (1, l6_h9)), (8, (0, l8_h9))]) rfl ?_
                refine r_laldK hX hP rfl al_86 s38 (by first | decide | omega) (by first | decide | omega) (x := x39) x39e ?_
                refine r_ex hX hP 1 (pc' := 80) (st' := [(1, (l4_h9 - x39))]) (lo' := [(0, (2, (Ad E 1))), (1, (1, most)), (3, (0, small)), (4, (1, l4_h9)), (6, (1, l6_h9)), (8, (0, l8_h9))]) rfl ?_
                refine r_hvL hX (fun w50 w50a w50b w50e => ?_)
                refine r_ex hX hP 4 (pc' := 9) (st' := []) (lo' := [(0, (2, (Ad E 1))), (1, (1, most)), (3, (0, small)), (4, (1, w50)), (6, (1, l6_h9)), (8, (0, (l8_h9 + 1)))]) rfl ?_
                refine r_eqG (X := X) (hq_up (hq_base _ _ _ _) rfl) ?_
                exact ih9 w50 l6_h9 (l8_h9 + 1) _ (by first | decide | omega) (by first | decide | omega) (by first | decide | omega) (by first | decide | omega) (by first | decide | omega) (by first | decide | omega) (by first | decide | omega)
  refine r_eqG (X := X) (hq_refl [] [92] _) ?_
  exact loop9 ((20 - 0) + 1 : Int).toNat most 0 0 _ (by first | decide | omega) (by first | decide | omega) (by first | decide | omega) (by first | decide | omega) (by first | decide | omega) (by first | decide | omega) (by first | decide | omega)
set_option maxRecDepth 100000 in
set_option maxHeartbeats 4000000 in
theorem c_X12_stays (E : En) (S : Sg) (G : Gh) (e ch : Int) (hS : S (Ad E 1) = 1) (e_a : 0 ≤ e) (e_b : e ≤ 15) (ch_a : 0 ≤ ch) (ch_b : ch ≤ 2) : Calls E mX12_stays [(2, (Ad E 1)), (0, e), (0, ch)] S G 2 0 0 (fun r S' G' => S = S' ∧ (∃ G1, hv [] [77, 82, 83, 84, 86, 90, 91, 92] G G1 = G') ∧ r = none ∧ True) := by
  refine calls_by [(0, (2, (Ad E 1))), (1, (0, e)), (2, (0, ch))] rfl rfl (Nat.le_of_ble_eq_true rfl) (fun X hX => ?_)
  have hP := hPX12_stays
  refine r_ex hX hP 1 (pc' := 1) (st' := [(2, (Ad E 1))]) (lo' := [(0, (2, (Ad E 1))), (1, (0, e)), (2, (0, ch))]) rfl ?_
  refine r_callV gd hX hP rfl cv_12_521 hS (d' := 0) (mc' := 0) (ms' := 0) (as' := []) (st := []) (by first | decide | omega) (by first | decide | omega) (by first | decide | omega) rfl rfl (Nat.le_of_ble_eq_true rfl) (c_X12_sumUp E S G  hS) ?_
  rintro _ _ _ ⟨rfl, ⟨G1, rfl⟩, rfl, -⟩
  refine r_ex hX hP 4 (pc' := 9) (st' := []) (lo' := [(0, (2, (Ad E 1))), (1, (0, e)), (2, (0, ch)), (3, (1, 0)), (5, (0, 0))]) rfl ?_
  have loop9 : ∀ (nF : Nat) (l3_h9 l5_h9 : Int) (Gh9 : Gh), (-9223372036854775808) ≤ l3_h9 → l3_h9 ≤ 9223372036854775807 → 0 ≤ l5_h9 → l5_h9 ≤ 20 → 20 - l5_h9 < (nF : Int) → X 0 0 9 [] [(0, (2, (Ad E 1))), (1, (0, e)), (2, (0, ch)), (3, (1, l3_h9)), (5, (0, l5_h9))] S (hv [] [77, 86] (hv [] [84] G G1) Gh9) := by
    intro nF
    induction nF with
    | zero => intro l3_h9 l5_h9 Gh9 yh9_0 yh9_1 yh9_2 yh9_3 ym9; exfalso; omega
    | succ nF ih9 =>
      intro l3_h9 l5_h9 Gh9 yh9_0 yh9_1 yh9_2 yh9_3 ym9
      refine r_ex hX hP 2 (pc' := 12) (st' := [(2, (Ad E 1)), (0, l5_h9)]) (lo' := [(0, (2, (Ad E 1))), (1, (0, e)), (2, (0, ch)), (3, (1, l3_h9)), (5, (0, l5_h9))]) rfl ?_
      refine r_getI hX hP rfl fl_12_314 hS (fun af2 af2e af2a af2b => ?_)
      refine r_ic_ge hX hP rfl (tgt := 76) rfl (by first | decide | omega) (by first | decide | omega) (by first | decide | omega) (by first | decide | omega) (fun c3 => ?_) (fun c3 => ?_)
      · skip
        refine r_ex hX hP 1 (pc' := 77) (st' := [(2, (Ad E 1))]) (lo' := [(0, (2, (Ad E 1))), (1, (0, e)), (2, (0, ch)), (3, (1, l3_h9)), (5, (0, l5_h9))]) rfl ?_
        refine r_getC hX hP rfl fl_12_122 hS (fun s4 => ?_)
        refine r_ex hX hP 5 (pc' := 85) (st' := [(0, ((3 * e) + ch)), (2, (Ad E 36))]) (lo' := [(0, (2, (Ad E 1))), (1, (0, e)), (2, (0, ch)), (3, (1, l3_h9)), (5, (0, l5_h9))]) rfl ?_
        refine r_iald hX hP rfl al_36 s4 (by first | decide | omega) (by first | decide | omega) (fun x5 x5e x5a x5b => ?_)
        refine r_ex hX hP 2 (pc' := 90) (st' := [(0, x5)]) (lo' := [(0, (2, (Ad E 1))), (1, (0, e)), (2, (0, ch)), (3, (1, l3_h9)), (5, (0, x5))]) rfl ?_
        refine r_if_lt hX hP rfl (tgt := 101) rfl (by first | decide | omega) (by first | decide | omega) (fun c6 => ?_) (fun c6 => ?_)
        · skip
          exact r_retV hX hP rfl rfl (by first | decide | omega) (by first | decide | omega) ⟨rfl, ⟨_, (hq_loop (hq_call (hq_refl _ _ _) rfl) rfl).symm⟩, rfl, trivial⟩
        · skip
          refine r_ex hX hP 2 (pc' := 96) (st' := [(0, x5), (1, l3_h9)]) (lo' := [(0, (2, (Ad E 1))), (1, (0, e)), (2, (0, ch)), (3, (1, l3_h9)), (5, (0, x5))]) rfl ?_
          refine r_i2l hX hP rfl (by first | decide | omega) (by first | decide | omega) ?_
          refine r_lc_gt hX hP rfl rfl (tgt := 102) rfl (by first | decide | omega) (by first | decide | omega) (by first | decide | omega) (by first | decide | omega) (fun c7 => ?_) (fun c7 => ?_)
          · skip
            refine r_ex hX hP 2 (pc' := 105) (st' := [(0, x5), (2, (Ad E 1))]) (lo' := [(0, (2, (Ad E 1))), (1, (0, e)), (2, (0, ch)), (3, (1, l3_h9)), (5, (0, x5))]) rfl ?_
            refine r_i2l hX hP rfl (by first | decide | omega) (by first | decide | omega) ?_
            refine r_ex hX hP 1 (pc' := 107) (st' := [(2, (Ad E 1)), (1, x5), (2, (Ad E 1))]) (lo' := [(0, (2, (Ad E 1))), (1, (0, e)), (2, (0, ch)), (3, (1, l3_h9)), (5, (0, x5))]) rfl ?_
            refine r_getC hX hP rfl fl_12_125 hS (fun s8 => ?_)
            refine r_ex hX hP 5 (pc' := 115) (st' := [(0, ((3 * e) + ch)), (2, (Ad E 37)), (1, x5), (2, (Ad E 1))]) (lo' := [(0, (2, (Ad E 1))), (1, (0, e)), (2, (0, ch)), (3, (1, l3_h9)), (5, (0, x5))]) rfl ?_
            refine r_iald hX hP rfl al_37 s8 (by first | decide | omega) (by first | decide | omega) (fun x9 x9e x9a x9b => ?_)
            refine r_callV gd hX hP rfl cv_12_553 hS (d' := 0) (mc' := 0) (ms' := 0) (as' := [(1, x5), (0, x9)]) (st := []) (by first | decide | omega) (by first | decide | omega) (by first | decide | omega) rfl rfl (Nat.le_of_ble_eq_true rfl) (c_X12_cutBack E S (hv [] [77, 86] (hv [] [84] G G1) Gh9) x5 x9 hS (by first | decide | omega) (by first | decide | omega) (by first | decide | omega) (by first | decide | omega)) ?_
            rintro _ _ _ ⟨rfl, ⟨G10, rfl⟩, rfl, -⟩
            refine r_ex hX hP 2 (pc' := 122) (st' := []) (lo' := [(0, (2, (Ad E 1))), (1, (0, e)), (2, (0, ch)), (3, (1, l3_h9)), (5, (0, x5)), (6, (0, 0))]) rfl ?_
            have loop122 : ∀ (nF : Nat) (l6_h122 : Int) (Gh122 : Gh), 0 ≤ l6_h122 → l6_h122 ≤ 20 → 20 - l6_h122 < (nF : Int) → X 0 0 122 [] [(0, (2, (Ad E 1))), (1, (0, e)), (2, (0, ch)), (3, (1, l3_h9)), (5, (0, x5)), (6, (0, l6_h122))] S (hv [] [77] (hv [] [86, 91, 92] (hv [] [77, 86] (hv [] [84] G G1) Gh9) G10) Gh122) := by
              intro nF
              induction nF with
              | zero => intro l6_h122 Gh122 yh122_0 yh122_1 ym122; exfalso; omega
              | succ nF ih122 =>
                intro l6_h122 Gh122 yh122_0 yh122_1 ym122
                refine r_ex hX hP 2 (pc' := 125) (st' := [(2, (Ad E 1)), (0, l6_h122)]) (lo' := [(0, (2, (Ad E 1))), (1, (0, e)), (2, (0, ch)), (3, (1, l3_h9)), (5, (0, x5)), (6, (0, l6_h122))]) rfl ?_
                refine r_getKI hX hP rfl fl_12_314 hS (x := af2) af2e ?_
                refine r_ic_ge hX hP rfl (tgt := 145) rfl (by first | decide | omega) (by first | decide | omega) (by first | decide | omega) (by first | decide | omega) (fun c11 => ?_) (fun c11 => ?_)
                · skip
                  refine r_ex hX hP 2 (pc' := 148) (st' := []) (lo' := [(0, (2, (Ad E 1))), (1, (0, e)), (2, (0, ch)), (3, (1, l3_h9)), (5, (0, x5)), (6, (0, 0))]) rfl ?_
                  have loop148 : ∀ (nF : Nat) (l6_h148 : Int) (Gh148 : Gh), 0 ≤ l6_h148 → l6_h148 ≤ 20 → 20 - l6_h148 < (nF : Int) → X 0 0 148 [] [(0, (2, (Ad E 1))), (1, (0, e)), (2, (0, ch)), (3, (1, l3_h9)), (5, (0, x5)), (6, (0, l6_h148))] S (hv [] [77, 82, 83, 84, 90, 91] (hv [] [77] (hv [] [86, 91, 92] (hv [] [77, 86] (hv [] [84] G G1) Gh9) G10) Gh122) Gh148) := by
                    intro nF
                    induction nF with
                    | zero => intro l6_h148 Gh148 yh148_0 yh148_1 ym148; exfalso; omega
                    | succ nF ih148 =>
                      intro l6_h148 Gh148 yh148_0 yh148_1 ym148
                      refine r_ex hX hP 2 (pc' := 151) (st' := [(2, (Ad E 1)), (0, l6_h148)]) (lo' := [(0, (2, (Ad E 1))), (1, (0, e)), (2, (0, ch)), (3, (1, l3_h9)), (5, (0, x5)), (6, (0, l6_h148))]) rfl ?_
                      refine r_getKI hX hP rfl fl_12_314 hS (x := af2) af2e ?_
                      refine r_ic_ge hX hP rfl (tgt := 236) rfl (by first | decide | omega) (by first | decide | omega) (by first | decide | omega) (by first | decide | omega) (fun c12 => ?_) (fun c12 => ?_)
                      · skip
                        exact r_retV hX hP rfl rfl (by first | decide | omega) (by first | decide | omega) ⟨rfl, ⟨_, (hq_loop (hq_loop (hq_call (hq_loop (hq_call (hq_refl _ _ _) rfl) rfl) rfl) rfl) rfl).symm⟩, rfl, trivial⟩
                      · skip
                        refine r_ex hX hP 1 (pc' := 158) (st' := [(2, (Ad E 1))]) (lo' := [(0, (2, (Ad E 1))), (1, (0, e)), (2, (0, ch)), (3, (1, l3_h9)), (5, (0, x5)), (6, (0, l6_h148))]) rfl ?_
                        refine r_getC hX hP rfl fl_12_18 hS (fun s13 => ?_)
                        refine r_ex hX hP 1 (pc' := 163) (st' := [(0, l6_h148), (2, (Ad E 2))]) (lo' := [(0, (2, (Ad E 1))), (1, (0, e)), (2, (0, ch)), (3, (1, l3_h9)), (5, (0, x5)), (6, (0, l6_h148))]) rfl ?_
                        refine r_iald hX hP rfl al_2 s13 (by first | decide | omega) (by first | decide | omega) (fun x14 x14e x14a x14b => ?_)
                        refine r_if_ge hX hP rfl (tgt := 230) rfl (by first | decide | omega) (by first | decide | omega) (fun c15 => ?_) (fun c15 => ?_)
                        · skip
                          refine r_ex hX hP 2 (pc' := 148) (st' := []) (lo' := [(0, (2, (Ad E 1))), (1, (0, e)), (2, (0, ch)), (3, (1, l3_h9)), (5, (0, x5)), (6, (0, (l6_h148 + 1)))]) rfl ?_
                          refine r_eqG (X := X) (hq_base _ _ _ _) ?_
                          exact ih148 (l6_h148 + 1) _ (by first | decide | omega) (by first | decide | omega) (by first | decide | omega)
                        · skip
                          refine r_ex hX hP 1 (pc' := 168) (st' := [(2, (Ad E 1))]) (lo' := [(0, (2, (Ad E 1))), (1, (0, e)), (2, (0, ch)), (3, (1, l3_h9)), (5, (0, x5)), (6, (0, l6_h148))]) rfl ?_
                          refine r_getC hX hP rfl fl_12_283 hS (fun s16 => ?_)
                          refine r_ex hX hP 1 (pc' := 173) (st' := [(0, l6_h148), (2, (Ad E 86))]) (lo' := [(0, (2, (Ad E 1))), (1, (0, e)), (2, (0, ch)), (3, (1, l3_h9)), (5, (0, x5)), (6, (0, l6_h148))]) rfl ?_
                          refine r_lald hX hP rfl al_86 s16 (by first | decide | omega) (by first | decide | omega) (fun x17 x17e x17a x17b => ?_)
                          refine r_ex hX hP 1 (pc' := 175) (st' := [(1, 0), (1, x17)]) (lo' := [(0, (2, (Ad E 1))), (1, (0, e)), (2, (0, ch)), (3, (1, l3_h9)), (5, (0, x5)), (6, (0, l6_h148))]) rfl ?_
                          refine r_lc_ne hX hP rfl rfl (tgt := 182) rfl (by first | decide | omega) (by first | decide | omega) (by first | decide | omega) (by first | decide | omega) (fun c18 => ?_) (fun c18 => ?_)
                          · skip
                            refine r_ex hX hP 2 (pc' := 184) (st' := [(2, (Ad E 1)), (2, (Ad E 1))]) (lo' := [(0, (2, (Ad E 1))), (1, (0, e)), (2, (0, ch)), (3, (1, l3_h9)), (5, (0, x5)), (6, (0, l6_h148))]) rfl ?_
                            refine r_getC hX hP rfl fl_12_283 hS (fun _ => ?_)
                            refine r_ex hX hP 1 (pc' := 189) (st' := [(0, l6_h148), (2, (Ad E 86)), (2, (Ad E 1))]) (lo' := [(0, (2, (Ad E 1))), (1, (0, e)), (2, (0, ch)), (3, (1, l3_h9)), (5, (0, x5)), (6, (0, l6_h148))]) rfl ?_
                            refine r_laldK hX hP rfl al_86 s16 (by first | decide | omega) (by first | decide | omega) (x := x17) x17e ?_
                            refine r_ex hX hP 1 (pc' := 192) (st' := [(0, l6_h148), (1, x17), (2, (Ad E 1))]) (lo' := [(0, (2, (Ad E 1))), (1, (0, e)), (2, (0, ch)), (3, (1, l3_h9)), (5, (0, x5)), (6, (0, l6_h148))]) rfl ?_
                            refine r_callV gd hX hP rfl cv_12_557 hS (d' := 1) (mc' := 0) (ms' := 0) (as' := [(1, x17), (0, l6_h148)]) (st := []) (by first | decide | omega) (by first | decide | omega) (by first | decide | omega) rfl rfl (Nat.le_of_ble_eq_true rfl) (c_X12_parts E S (hv [] [77, 82, 83, 84, 90, 91] (hv [] [77] (hv [] [86, 91, 92] (hv [] [77, 86] (hv [] [84] G G1) Gh9) G10) Gh122) Gh148) x17 l6_h148 hS (by first | decide | omega) (by first | decide | omega) (by first | decide | omega) (by first | decide | omega)) ?_
                            rintro _ _ _ ⟨rfl, ⟨G19, rfl⟩, rfl, -⟩
                            refine r_ex hX hP 2 (pc' := 198) (st' := []) (lo' := [(0, (2, (Ad E 1))), (1, (0, e)), (2, (0, ch)), (3, (1, l3_h9)), (5, (0, x5)), (6, (0, l6_h148)), (7, (0, 0))]) rfl ?_
                            have loop198 : ∀ (nF : Nat) (l7_h198 : Int) (Gh198 : Gh), 0 ≤ l7_h198 → l7_h198 ≤ 20 → 20 - l7_h198 < (nF : Int) → X 0 0 198 [] [(0, (2, (Ad E 1))), (1, (0, e)), (2, (0, ch)), (3, (1, l3_h9)), (5, (0, x5)), (6, (0, l6_h148)), (7, (0, l7_h198))] S (hv [] [77] (hv [] [82, 83, 84, 90, 91] (hv [] [77, 82, 83, 84, 90, 91] (hv [] [77] (hv [] [86, 91, 92] (hv [] [77, 86] (hv [] [84] G G1) Gh9) G10) Gh122) Gh148) G19) Gh198) := by
                              intro nF
                              induction nF with
                              | zero => intro l7_h198 Gh198 yh198_0 yh198_1 ym198; exfalso; omega
                              | succ nF ih198 =>
                                intro l7_h198 Gh198 yh198_0 yh198_1 ym198
                                refine r_ex hX hP 2 (pc' := 201) (st' := [(2, (Ad E 1)), (0, l7_h198)]) (lo' := [(0, (2, (Ad E 1))), (1, (0, e)), (2, (0, ch)), (3, (1, l3_h9)), (5, (0, x5)), (6, (0, l6_h148)), (7, (0, l7_h198))]) rfl ?_
                                refine r_getKI hX hP rfl fl_12_314 hS (x := af2) af2e ?_
                                refine r_ic_ge hX hP rfl (tgt := 230) rfl (by first | decide | omega) (by first | decide | omega) (by first | decide | omega) (by first | decide | omega) (fun c20 => ?_) (fun c20 => ?_)
                                · skip
                                  refine r_ex hX hP 2 (pc' := 148) (st' := []) (lo' := [(0, (2, (Ad E 1))), (1, (0, e)), (2, (0, ch)), (3, (1, l3_h9)), (5, (0, x5)), (6, (0, (l6_h148 + 1))), (7, (0, l7_h198))]) rfl ?_
                                  refine r_pick hX [0, 1, 2, 3, 4, 5] (lo' := [(0, (2, (Ad E 1))), (1, (0, e)), (2, (0, ch)), (3, (1, l3_h9)), (5, (0, x5)), (6, (0, (l6_h148 + 1)))]) rfl ?_
                                  refine r_eqG (X := X) (hq_loop (hq_call (hq_base _ _ _ _) rfl) rfl) ?_
                                  exact ih148 (l6_h148 + 1) _ (by first | decide | omega) (by first | decide | omega) (by first | decide | omega)
                                · skip
                                  refine r_ex hX hP 1 (pc' := 208) (st' := [(2, (Ad E 1))]) (lo' := [(0, (2, (Ad E 1))), (1, (0, e)), (2, (0, ch)), (3, (1, l3_h9)), (5, (0, x5)), (6, (0, l6_h148)), (7, (0, l7_h198))]) rfl ?_
                                  refine r_getC hX hP rfl fl_12_256 hS (fun s21 => ?_)
                                  refine r_ex hX hP 2 (pc' := 214) (st' := [(0, l7_h198), (2, (Ad E 77)), (0, l7_h198), (2, (Ad E 77))]) (lo' := [(0, (2, (Ad E 1))), (1, (0, e)), (2, (0, ch)), (3, (1, l3_h9)), (5, (0, x5)), (6, (0, l6_h148)), (7, (0, l7_h198))]) rfl ?_
                                  refine r_lald hX hP rfl al_77 s21 (by first | decide | omega) (by first | decide | omega) (fun x22 x22e x22a x22b => ?_)
                                  refine r_ex hX hP 1 (pc' := 216) (st' := [(2, (Ad E 1)), (1, x22), (0, l7_h198), (2, (Ad E 77))]) (lo' := [(0, (2, (Ad E 1))), (1, (0, e)), (2, (0, ch)), (3, (1, l3_h9)), (5, (0, x5)), (6, (0, l6_h148)), (7, (0, l7_h198))]) rfl ?_
                                  refine r_getC hX hP rfl fl_12_271 hS (fun s23 => ?_)
                                  refine r_ex hX hP 1 (pc' := 221) (st' := [(0, l7_h198), (2, (Ad E 82)), (1, x22), (0, l7_h198), (2, (Ad E 77))]) (lo' := [(0, (2, (Ad E 1))), (1, (0, e)), (2, (0, ch)), (3, (1, l3_h9)), (5, (0, x5)), (6, (0, l6_h148)), (7, (0, l7_h198))]) rfl ?_
                                  refine r_lald hX hP rfl al_82 s23 (by first | decide | omega) (by first | decide | omega) (fun x24 x24e x24a x24b => ?_)
                                  refine r_ex hX hP 1 (pc' := 223) (st' := [(1, (x22 + x24)), (0, l7_h198), (2, (Ad E 77))]) (lo' := [(0, (2, (Ad E 1))), (1, (0, e)), (2, (0, ch)), (3, (1, l3_h9)), (5, (0, x5)), (6, (0, l6_h148)), (7, (0, l7_h198))]) rfl ?_
                                  refine r_hvL hX (fun w25 w25a w25b w25e => ?_)
                                  refine r_lastK hX hP rfl al_77 s21 (by first | decide | omega) (by first | decide | omega) (by first | decide | omega) (by first | decide | omega) (fun h26 => ?_)
                                  refine r_ex hX hP 2 (pc' := 198) (st' := []) (lo' := [(0, (2, (Ad E 1))), (1, (0, e)), (2, (0, ch)), (3, (1, l3_h9)), (5, (0, x5)), (6, (0, l6_h148)), (7, (0, (l7_h198 + 1)))]) rfl ?_
                                  refine r_eqG (X := X) (hq_up (hq_base _ _ _ _) rfl) ?_
                                  exact ih198 (l7_h198 + 1) _ (by first | decide | omega) (by first | decide | omega) (by first | decide | omega)
                            refine r_eqG (X := X) (hq_refl [] [77] _) ?_
                            exact loop198 ((20 - 0) + 1 : Int).toNat 0 _ (by first | decide | omega) (by first | decide | omega) (by first | decide | omega)
                          · skip
                            refine r_ex hX hP 3 (pc' := 148) (st' := []) (lo' := [(0, (2, (Ad E 1))), (1, (0, e)), (2, (0, ch)), (3, (1, l3_h9)), (5, (0, x5)), (6, (0, (l6_h148 + 1)))]) rfl ?_
                            refine r_eqG (X := X) (hq_base _ _ _ _) ?_
                            exact ih148 (l6_h148 + 1) _ (by first | decide | omega) (by first | decide | omega) (by first | decide | omega)
                  refine r_eqG (X := X) (hq_refl [] [77, 82, 83, 84, 90, 91] _) ?_
                  exact loop148 ((20 - 0) + 1 : Int).toNat 0 _ (by first | decide | omega) (by first | decide | omega) (by first | decide | omega)
                · skip
                  refine r_ex hX hP 1 (pc' := 132) (st' := [(2, (Ad E 1))]) (lo' := [(0, (2, (Ad E 1))), (1, (0, e)), (2, (0, ch)), (3, (1, l3_h9)), (5, (0, x5)), (6, (0, l6_h122))]) rfl ?_
                  refine r_getC hX hP rfl fl_12_256 hS (fun s27 => ?_)
                  refine r_ex hX hP 2 (pc' := 138) (st' := [(1, 0), (0, l6_h122), (2, (Ad E 77))]) (lo' := [(0, (2, (Ad E 1))), (1, (0, e)), (2, (0, ch)), (3, (1, l3_h9)), (5, (0, x5)), (6, (0, l6_h122))]) rfl ?_
                  refine r_lastK hX hP rfl al_77 s27 (by first | decide | omega) (by first | decide | omega) (by first | decide | omega) (by first | decide | omega) (fun h28 => ?_)
                  refine r_ex hX hP 2 (pc' := 122) (st' := []) (lo' := [(0, (2, (Ad E 1))), (1, (0, e)), (2, (0, ch)), (3, (1, l3_h9)), (5, (0, x5)), (6, (0, (l6_h122 + 1)))]) rfl ?_
                  refine r_eqG (X := X) (hq_up (hq_base _ _ _ _) rfl) ?_
                  exact ih122 (l6_h122 + 1) _ (by first | decide | omega) (by first | decide | omega) (by first | decide | omega)
            refine r_eqG (X := X) (hq_refl [] [77] _) ?_
            exact loop122 ((20 - 0) + 1 : Int).toNat 0 _ (by first | decide | omega) (by first | decide | omega) (by first | decide | omega)
          · skip
            exact r_retV hX hP rfl rfl (by first | decide | omega) (by first | decide | omega) ⟨rfl, ⟨_, (hq_loop (hq_call (hq_refl _ _ _) rfl) rfl).symm⟩, rfl, trivial⟩
      · skip
        refine r_ex hX hP 1 (pc' := 19) (st' := [(2, (Ad E 1))]) (lo' := [(0, (2, (Ad E 1))), (1, (0, e)), (2, (0, ch)), (3, (1, l3_h9)), (5, (0, l5_h9))]) rfl ?_
        refine r_getC hX hP rfl fl_12_283 hS (fun s29 => ?_)
        refine r_ex hX hP 2 (pc' := 25) (st' := [(2, (Ad E 1)), (0, l5_h9), (2, (Ad E 86))]) (lo' := [(0, (2, (Ad E 1))), (1, (0, e)), (2, (0, ch)), (3, (1, l3_h9)), (5, (0, l5_h9))]) rfl ?_
        refine r_getC hX hP rfl fl_12_18 hS (fun s30 => ?_)
        refine r_ex hX hP 1 (pc' := 30) (st' := [(0, l5_h9), (2, (Ad E 2)), (0, l5_h9), (2, (Ad E 86))]) (lo' := [(0, (2, (Ad E 1))), (1, (0, e)), (2, (0, ch)), (3, (1, l3_h9)), (5, (0, l5_h9))]) rfl ?_
        refine r_iald hX hP rfl al_2 s30 (by first | decide | omega) (by first | decide | omega) (fun x31 x31e x31a x31b => ?_)
        refine r_if_ge hX hP rfl (tgt := 44) rfl (by first | decide | omega) (by first | decide | omega) (fun c32 => ?_) (fun c32 => ?_)
        · skip
          refine r_ex hX hP 1 (pc' := 45) (st' := [(1, 0), (0, l5_h9), (2, (Ad E 86))]) (lo' := [(0, (2, (Ad E 1))), (1, (0, e)), (2, (0, ch)), (3, (1, l3_h9)), (5, (0, l5_h9))]) rfl ?_
          refine r_lastK hX hP rfl al_86 s29 (by first | decide | omega) (by first | decide | omega) (by first | decide | omega) (by first | decide | omega) (fun h33 => ?_)
          refine r_ex hX hP 2 (pc' := 48) (st' := [(2, (Ad E 1)), (1, l3_h9)]) (lo' := [(0, (2, (Ad E 1))), (1, (0, e)), (2, (0, ch)), (3, (1, l3_h9)), (5, (0, l5_h9))]) rfl ?_
          refine r_getC hX hP rfl fl_12_283 hS (fun _ => ?_)
          refine r_ex hX hP 1 (pc' := 53) (st' := [(0, l5_h9), (2, (Ad E 86)), (1, l3_h9)]) (lo' := [(0, (2, (Ad E 1))), (1, (0, e)), (2, (0, ch)), (3, (1, l3_h9)), (5, (0, l5_h9))]) rfl ?_
          refine r_laldK hX hP rfl al_86 s29 (by first | decide | omega) (by first | decide | omega) (x := 0) h33 ?_
          refine r_ex hX hP 3 (pc' := 57) (st' := [(2, (Ad E 1))]) (lo' := [(0, (2, (Ad E 1))), (1, (0, e)), (2, (0, ch)), (3, (1, (l3_h9 + 0))), (5, (0, l5_h9))]) rfl ?_
          refine r_getC hX hP rfl fl_12_256 hS (fun s34 => ?_)
          refine r_ex hX hP 2 (pc' := 63) (st' := [(2, (Ad E 1)), (0, l5_h9), (2, (Ad E 77))]) (lo' := [(0, (2, (Ad E 1))), (1, (0, e)), (2, (0, ch)), (3, (1, (l3_h9 + 0))), (5, (0, l5_h9))]) rfl ?_
          refine r_getC hX hP rfl fl_12_268 hS (fun s35 => ?_)
          refine r_ex hX hP 1 (pc' := 68) (st' := [(0, l5_h9), (2, (Ad E 81)), (0, l5_h9), (2, (Ad E 77))]) (lo' := [(0, (2, (Ad E 1))), (1, (0, e)), (2, (0, ch)), (3, (1, (l3_h9 + 0))), (5, (0, l5_h9))]) rfl ?_
          refine r_lald hX hP rfl al_81 s35 (by first | decide | omega) (by first | decide | omega) (fun x36 x36e x36a x36b => ?_)
          refine r_lastK hX hP rfl al_77 s34 (by first | decide | omega) (by first | decide | omega) (by first | decide | omega) (by first | decide | omega) (fun h37 => ?_)
          refine r_ex hX hP 2 (pc' := 9) (st' := []) (lo' := [(0, (2, (Ad E 1))), (1, (0, e)), (2, (0, ch)), (3, (1, (l3_h9 + 0))), (5, (0, (l5_h9 + 1)))]) rfl ?_
          refine r_eqG (X := X) (hq_up (hq_up (hq_base _ _ _ _) rfl) rfl) ?_
          exact ih9 (l3_h9 + 0) (l5_h9 + 1) _ (by first | decide | omega) (by first | decide | omega) (by first | decide | omega) (by first | decide | omega) (by first | decide | omega)
        · skip
          refine r_ex hX hP 1 (pc' := 35) (st' := [(2, (Ad E 1)), (0, l5_h9), (2, (Ad E 86))]) (lo' := [(0, (2, (Ad E 1))), (1, (0, e)), (2, (0, ch)), (3, (1, l3_h9)), (5, (0, l5_h9))]) rfl ?_
          refine r_getC hX hP rfl fl_12_277 hS (fun s38 => ?_)
          refine r_ex hX hP 1 (pc' := 40) (st' := [(0, l5_h9), (2, (Ad E 84)), (0, l5_h9), (2, (Ad E 86))]) (lo' := [(0, (2, (Ad E 1))), (1, (0, e)), (2, (0, ch)), (3, (1, l3_h9)), (5, (0, l5_h9))]) rfl ?_
          refine r_lald hX hP rfl al_84 s38 (by first | decide | omega) (by first | decide | omega) (fun x39 x39e x39a x39b => ?_)
          refine r_ex hX hP 1 (pc' := 45) (st' := [(1, x39), (0, l5_h9), (2, (Ad E 86))]) (lo' := [(0, (2, (Ad E 1))), (1, (0, e)), (2, (0, ch)), (3, (1, l3_h9)), (5, (0, l5_h9))]) rfl ?_
          refine r_lastK hX hP rfl al_86 s29 (by first | decide | omega) (by first | decide | omega) (by first | decide | omega) (by first | decide | omega) (fun h40 => ?_)
          refine r_ex hX hP 2 (pc' := 48) (st' := [(2, (Ad E 1)), (1, l3_h9)]) (lo' := [(0, (2, (Ad E 1))), (1, (0, e)), (2, (0, ch)), (3, (1, l3_h9)), (5, (0, l5_h9))]) rfl ?_
          refine r_getC hX hP rfl fl_12_283 hS (fun _ => ?_)
          refine r_ex hX hP 1 (pc' := 53) (st' := [(0, l5_h9), (2, (Ad E 86)), (1, l3_h9)]) (lo' := [(0, (2, (Ad E 1))), (1, (0, e)), (2, (0, ch)), (3, (1, l3_h9)), (5, (0, l5_h9))]) rfl ?_
          refine r_laldK hX hP rfl al_86 s29 (by first | decide | omega) (by first | decide | omega) (x := x39) h40 ?_
          refine r_ex hX hP 1 (pc' := 55) (st' := [(1, (l3_h9 + x39))]) (lo' := [(0, (2, (Ad E 1))), (1, (0, e)), (2, (0, ch)), (3, (1, l3_h9)), (5, (0, l5_h9))]) rfl ?_
          refine r_hvL hX (fun w41 w41a w41b w41e => ?_)
          refine r_ex hX hP 2 (pc' := 57) (st' := [(2, (Ad E 1))]) (lo' := [(0, (2, (Ad E 1))), (1, (0, e)), (2, (0, ch)), (3, (1, w41)), (5, (0, l5_h9))]) rfl ?_
          refine r_getC hX hP rfl fl_12_256 hS (fun s42 => ?_)
          refine r_ex hX hP 2 (pc' := 63) (st' := [(2, (Ad E 1)), (0, l5_h9), (2, (Ad E 77))]) (lo' := [(0, (2, (Ad E 1))), (1, (0, e)), (2, (0, ch)), (3, (1, w41)), (5, (0, l5_h9))]) rfl ?_
          refine r_getC hX hP rfl fl_12_268 hS (fun s43 => ?_)
          refine r_ex hX hP 1 (pc' := 68) (st' := [(0, l5_h9), (2, (Ad E 81)), (0, l5_h9), (2, (Ad E 77))]) (lo' := [(0, (2, (Ad E 1))), (1, (0, e)), (2, (0, ch)), (3, (1, w41)), (5, (0, l5_h9))]) rfl ?_
          refine r_lald hX hP rfl al_81 s43 (by first | decide | omega) (by first | decide | omega) (fun x44 x44e x44a x44b => ?_)
          refine r_lastK hX hP rfl al_77 s42 (by first | decide | omega) (by first | decide | omega) (by first | decide | omega) (by first | decide | omega) (fun h45 => ?_)
          refine r_ex hX hP 2 (pc' := 9) (st' := []) (lo' := [(0, (2, (Ad E 1))), (1, (0, e)), (2, (0, ch)), (3, (1, w41)), (5, (0, (l5_h9 + 1)))]) rfl ?_
          refine r_eqG (X := X) (hq_up (hq_up (hq_base _ _ _ _) rfl) rfl) ?_
          exact ih9 w41 (l5_h9 + 1) _ (by first | decide | omega) (by first | decide | omega) (by first | decide | omega) (by first | decide | omega) (by first | decide | omega)
  refine r_eqG (X := X) (hq_refl [] [77, 86] _) ?_
  exact loop9 ((20 - 0) + 1 : Int).toNat 0 0 _ (by first | decide | omega) (by first | decide | omega) (by first | decide | omega) (by first | decide | omega) (by first | decide | omega)
set_option maxRecDepth 100000 in
set_option maxHeartbeats 4000000 in
theorem c_X12_cuts (E : En) (S : Sg) (G : Gh) (e : Int) (hS : S (Ad E 1) = 1) (e_a : 0 ≤ e) (e_b : e ≤ 15) (mi : MI E G) : Calls E mX12_cuts [(2, (Ad E 1)), (0, e)] S G 3 0 0 (fun r S' G' => S = S' ∧ (∃ G1, hv [] [76, 77, 78, 81, 82, 83, 84, 86, 87, 90, 91, 92] G G1 = G') ∧ r = none ∧ True) := by
  refine calls_by [(0, (2, (Ad E 1))), (1, (0, e))] rfl rfl (Nat.le_of_ble_eq_true rfl) (fun X hX => ?_)
  have hP := hPX12_cuts
  refine r_ex hX hP 1 (pc' := 1) (st' := [(2, (Ad E 1))]) (lo' := [(0, (2, (Ad E 1))), (1, (0, e))]) rfl ?_
  refine r_getC hX hP rfl fl_12_74 hS (fun s1 => ?_)
  refine r_ex hX hP 1 (pc' := 5) (st' := [(0, e), (2, (Ad E 20))]) (lo' := [(0, (2, (Ad E 1))), (1, (0, e))]) rfl ?_
  refine r_iald hX hP rfl al_20 s1 (by first | decide | omega) (by first | decide | omega) (fun x2 x2e x2a x2b => ?_)
  refine r_ex hX hP 3 (pc' := 9) (st' := []) (lo' := [(0, (2, (Ad E 1))), (1, (0, e)), (2, (0, x2)), (3, (0, 0))]) rfl ?_
  have loop9 : ∀ (nF : Nat) (l3_h9 : Int) (Gh9 : Gh), 0 ≤ l3_h9 → l3_h9 ≤ 20 → 20 - l3_h9 < (nF : Int) → X 0 0 9 [] [(0, (2, (Ad E 1))), (1, (0, e)), (2, (0, x2)), (3, (0, l3_h9))] S (hv [] [76, 87] G Gh9) := by
    intro nF
    induction nF with
    | zero => intro l3_h9 Gh9 yh9_0 yh9_1 ym9; exfalso; omega
    | succ nF ih9 =>
      intro l3_h9 Gh9 yh9_0 yh9_1 ym9
      refine r_ex hX hP 2 (pc' := 11) (st' := [(2, (Ad E 1)), (0, l3_h9)]) (lo' := [(0, (2, (Ad E 1))), (1, (0, e)), (2, (0, x2)), (3, (0, l3_h9))]) rfl ?_
      refine r_getI hX hP rfl fl_12_314 hS (fun af3 af3e af3a af3b => ?_)
      refine r_ic_ge hX hP rfl (tgt := 52) rfl (by first | decide | omega) (by first | decide | omega) (by first | decide | omega) (by first | decide | omega) (fun c4 => ?_) (fun c4 => ?_)
      · skip
        refine r_ex hX hP 2 (pc' := 54) (st' := []) (lo' := [(0, (2, (Ad E 1))), (1, (0, e)), (2, (0, x2)), (3, (0, 0))]) rfl ?_
        have loop54 : ∀ (nF : Nat) (l3_h54 : Int) (Gh54 : Gh), 0 ≤ l3_h54 → l3_h54 ≤ 60 → 60 - l3_h54 < (nF : Int) → X 0 0 54 [] [(0, (2, (Ad E 1))), (1, (0, e)), (2, (0, x2)), (3, (0, l3_h54))] S (hv [] [78] (hv [] [76, 87] G Gh9) Gh54) := by
          intro nF
          induction nF with
          | zero => intro l3_h54 Gh54 yh54_0 yh54_1 ym54; exfalso; omega
          | succ nF ih54 =>
            intro l3_h54 Gh54 yh54_0 yh54_1 ym54
            refine r_ex hX hP 2 (pc' := 57) (st' := [(0, 60), (0, l3_h54)]) (lo' := [(0, (2, (Ad E 1))), (1, (0, e)), (2, (0, x2)), (3, (0, l3_h54))]) rfl ?_
            refine r_ic_ge hX hP rfl (tgt := 73) rfl (by first | decide | omega) (by first | decide | omega) (by first | decide | omega) (by first | decide | omega) (fun c5 => ?_) (fun c5 => ?_)
            · skip
              refine r_ex hX hP 2 (pc' := 75) (st' := []) (lo' := [(0, (2, (Ad E 1))), (1, (0, e)), (2, (0, x2)), (3, (0, 0))]) rfl ?_
              have loop75 : ∀ (nF : Nat) (l3_h75 : Int) (Gh75 : Gh), 0 ≤ l3_h75 → l3_h75 ≤ 3 → 3 - l3_h75 < (nF : Int) → X 0 0 75 [] [(0, (2, (Ad E 1))), (1, (0, e)), (2, (0, x2)), (3, (0, l3_h75))] S (hv [] [77, 78, 81, 82, 83, 84, 86, 90, 91, 92] (hv [] [78] (hv [] [76, 87] G Gh9) Gh54) Gh75) := by
                intro nF
                induction nF with
                | zero => intro l3_h75 Gh75 yh75_0 yh75_1 ym75; exfalso; omega
                | succ nF ih75 =>
                  intro l3_h75 Gh75 yh75_0 yh75_1 ym75
                  refine r_ex hX hP 2 (pc' := 77) (st' := [(2, (Ad E 1)), (0, l3_h75)]) (lo' := [(0, (2, (Ad E 1))), (1, (0, e)), (2, (0, x2)), (3, (0, l3_h75))]) rfl ?_
                  refine r_getC hX hP rfl fl_12_95 hS (fun s6 => ?_)
                  refine r_ex hX hP 1 (pc' := 81) (st' := [(0, e), (2, (Ad E 27)), (0, l3_h75)]) (lo' := [(0, (2, (Ad E 1))), (1, (0, e)), (2, (0, x2)), (3, (0, l3_h75))]) rfl ?_
                  refine r_iald hX hP rfl al_27 s6 (by first | decide | omega) (by first | decide | omega) (fun x7 x7e x7a x7b => ?_)
                  refine r_ic_ge hX hP rfl (tgt := 256) rfl (by first | decide | omega) (by first | decide | omega) (by first | decide | omega) (by first | decide | omega) (fun c8 => ?_) (fun c8 => ?_)
                  · skip
                    exact r_retV hX hP rfl rfl (by first | decide | omega) (by first | decide | omega) ⟨rfl, ⟨_, (hq_loop (hq_loop (hq_loop (hq_refl _ _ _) rfl) rfl) rfl).symm⟩, rfl, trivial⟩
                  · skip
                    refine r_ex hX hP 2 (pc' := 88) (st' := []) (lo' := [(0, (2, (Ad E 1))), (1, (0, e)), (2, (0, x2)), (3, (0, l3_h75)), (4, (0, 0))]) rfl ?_
                    have loop88 : ∀ (nF : Nat) (l4_h88 : Int) (Gh88 : Gh), 0 ≤ l4_h88 → l4_h88 ≤ 20 → 20 - l4_h88 < (nF : Int) → X 0 0 88 [] [(0, (2, (Ad E 1))), (1, (0, e)), (2, (0, x2)), (3, (0, l3_h75)), (4, (0, l4_h88))] S (hv [] [81] (hv [] [77, 78, 81, 82, 83, 84, 86, 90, 91, 92] (hv [] [78] (hv [] [76, 87] G Gh9) Gh54) Gh75) Gh88) := by
                      intro nF
                      induction nF with
                      | zero => intro l4_h88 Gh88 yh88_0 yh88_1 ym88; exfalso; omega
                      | succ nF ih88 =>
                        intro l4_h88 Gh88 yh88_0 yh88_1 ym88
                        refine r_ex hX hP 2 (pc' := 91) (st' := [(2, (Ad E 1)), (0, l4_h88)]) (lo' := [(0, (2, (Ad E 1))), (1, (0, e)), (2, (0, x2)), (3, (0, l3_h75)), (4, (0, l4_h88))]) rfl ?_
                        refine r_getKI hX hP rfl fl_12_314 hS (x := af3) af3e ?_
                        refine r_ic_ge hX hP rfl (tgt := 132) rfl (by first | decide | omega) (by first | decide | omega) (by first | decide | omega) (by first | decide | omega) (fun c9 => ?_) (fun c9 => ?_)
                        · skip
                          refine r_ex hX hP 3 (pc' := 135) (st' := [(0, l3_h75), (0, e), (2, (Ad E 1))]) (lo' := [(0, (2, (Ad E 1))), (1, (0, e)), (2, (0, x2)), (3, (0, l3_h75)), (4, (0, l4_h88))]) rfl ?_
                          refine r_callV gd hX hP rfl cv_12_550 hS (d' := 2) (mc' := 0) (ms' := 0) (as' := [(0, e), (0, l3_h75)]) (st := []) (by first | decide | omega) (by first | decide | omega) (by first | decide | omega) rfl rfl (Nat.le_of_ble_eq_true rfl) (c_X12_stays E S (hv [] [81] (hv [] [77, 78, 81, 82, 83, 84, 86, 90, 91, 92] (hv [] [78] (hv [] [76, 87] G Gh9) Gh54) Gh75) Gh88) e l3_h75 hS (by first | decide | omega) (by first | decide | omega) (by first | decide | omega) (by first | decide | omega)) ?_
                          rintro _ _ _ ⟨rfl, ⟨G10, rfl⟩, rfl, -⟩
                          refine r_ex hX hP 1 (pc' := 139) (st' := [(2, (Ad E 1))]) (lo' := [(0, (2, (Ad E 1))), (1, (0, e)), (2, (0, x2)), (3, (0, l3_h75)), (4, (0, l4_h88))]) rfl ?_
                          refine r_getC hX hP rfl fl_12_98 hS (fun s11 => ?_)
                          refine r_ex hX hP 1 (pc' := 143) (st' := [(0, e), (2, (Ad E 28))]) (lo' := [(0, (2, (Ad E 1))), (1, (0, e)), (2, (0, x2)), (3, (0, l3_h75)), (4, (0, l4_h88))]) rfl ?_
                          refine r_iald hX hP rfl al_28 s11 (by first | decide | omega) (by first | decide | omega) (fun x12 x12e x12a x12b => ?_)
                          refine r_ex hX hP 1 (pc' := 145) (st' := [(0, l3_h75), (0, x12)]) (lo' := [(0, (2, (Ad E 1))), (1, (0, e)), (2, (0, x2)), (3, (0, l3_h75)), (4, (0, l4_h88))]) rfl ?_
                          refine r_ic_ne hX hP rfl (tgt := 152) rfl (by first | decide | omega) (by first | decide | omega) (by first | decide | omega) (by first | decide | omega) (fun c13 => ?_) (fun c13 => ?_)
                          · skip
                            refine r_ex hX hP 1 (pc' := 153) (st' := [(2, (Ad E 1))]) (lo' := [(0, (2, (Ad E 1))), (1, (0, e)), (2, (0, x2)), (3, (0, l3_h75)), (4, (0, l4_h88))]) rfl ?_
                            refine r_getC hX hP rfl fl_12_98 hS (fun _ => ?_)
                            refine r_ex hX hP 1 (pc' := 157) (st' := [(0, e), (2, (Ad E 28))]) (lo' := [(0, (2, (Ad E 1))), (1, (0, e)), (2, (0, x2)), (3, (0, l3_h75)), (4, (0, l4_h88))]) rfl ?_
                            refine r_ialdK hX hP rfl al_28 s11 (by first | decide | omega) (by first | decide | omega) (x := x12) x12e ?_
                            refine r_ex hX hP 3 (pc' := 163) (st' := []) (lo' := [(0, (2, (Ad E 1))), (1, (0, e)), (2, (0, x2)), (3, (0, l3_h75)), (4, (0, x12)), (5, (0, 0))]) rfl ?_
                            have loop163 : ∀ (nF : Nat) (l5_h163 : Int) (Gh163 : Gh), 0 ≤ l5_h163 → l5_h163 ≤ 20 → 20 - l5_h163 < (nF : Int) → X 0 0 163 [] [(0, (2, (Ad E 1))), (1, (0, e)), (2, (0, x2)), (3, (0, l3_h75)), (4, (0, x12)), (5, (0, l5_h163))] S (hv [] [78] (hv [] [77, 82, 83, 84, 86, 90, 91, 92] (hv [] [81] (hv [] [77, 78, 81, 82, 83, 84, 86, 90, 91, 92] (hv [] [78] (hv [] [76, 87] G Gh9) Gh54) Gh75) Gh88) G10) Gh163) := by
                              intro nF
                              induction nF with
                              | zero => intro l5_h163 Gh163 yh163_0 yh163_1 ym163; exfalso; omega
                              | succ nF ih163 =>
                                intro l5_h163 Gh163 yh163_0 yh163_1 ym163
                                refine r_ex hX hP 2 (pc' := 166) (st' := [(2, (Ad E 1)), (0, l5_h163)]) (lo' := [(0, (2, (Ad E 1))), (1, (0, e)), (2, (0, x2)), (3, (0, l3_h75)), (4, (0, x12)), (5, (0, l5_h163))]) rfl ?_
                                refine r_getKI hX hP rfl fl_12_314 hS (x := af3) af3e ?_
                                refine r_ic_ge hX hP rfl (tgt := 250) rfl (by first | decide | omega) (by first | decide | omega) (by first | decide | omega) (by first | decide | omega) (fun c14 => ?_) (fun c14 => ?_)
                                · skip
                                  refine r_ex hX hP 2 (pc' := 75) (st' := []) (lo' := [(0, (2, (Ad E 1))), (1, (0, e)), (2, (0, x2)), (3, (0, (l3_h75 + 1))), (4, (0, x12)), (5, (0, l5_h163))]) rfl ?_
                                  refine r_pick hX [0, 1, 2, 3] (lo' := [(0, (2, (Ad E 1))), (1, (0, e)), (2, (0, x2)), (3, (0, (l3_h75 + 1)))]) rfl ?_
                                  refine r_eqG (X := X) (hq_loop (hq_call (hq_loop (hq_base _ _ _ _) rfl) rfl) rfl) ?_
                                  exact ih75 (l3_h75 + 1) _ (by first | decide | omega) (by first | decide | omega) (by first | decide | omega)
                                · skip
                                  refine r_ex hX hP 1 (pc' := 173) (st' := [(2, (Ad E 1))]) (lo' := [(0, (2, (Ad E 1))), (1, (0, e)), (2, (0, x2)), (3, (0, l3_h75)), (4, (0, x12)), (5, (0, l5_h163))]) rfl ?_
                                  refine r_getC hX hP rfl fl_12_286 hS (fun s15 => ?_)
                                  refine r_ex hX hP 1 (pc' := 178) (st' := [(0, l5_h163), (2, (Ad E 87))]) (lo' := [(0, (2, (Ad E 1))), (1, (0, e)), (2, (0, x2)), (3, (0, l3_h75)), (4, (0, x12)), (5, (0, l5_h163))]) rfl ?_
                                  refine r_iald hX hP rfl al_87 s15 (by first | decide | omega) (by first | decide | omega) (fun x16 x16e x16a x16b => ?_)
                                  refine r_ex hX hP 1 (pc' := 180) (st' := [(0, l3_h75), (0, x16)]) (lo' := [(0, (2, (Ad E 1))), (1, (0, e)), (2, (0, x2)), (3, (0, l3_h75)), (4, (0, x12)), (5, (0, l5_h163))]) rfl ?_
                                  refine r_ic_eq hX hP rfl (tgt := 186) rfl (by first | decide | omega) (by first | decide | omega) (by first | decide | omega) (by first | decide | omega) (fun c17 => ?_) (fun c17 => ?_)
                                  · skip
                                    refine r_ex hX hP 1 (pc' := 187) (st' := [(2, (Ad E 1))]) (lo' := [(0, (2, (Ad E 1))), (1, (0, e)), (2, (0, x2)), (3, (0, l3_h75)), (4, (0, x12)), (5, (0, l5_h163))]) rfl ?_
                                    refine r_getC hX hP rfl fl_12_259 hS (fun s18 => ?_)
                                    refine r_ex hX hP 6 (pc' := 198) (st' := [(0, ((20 * l3_h75) + l5_h163)), (2, (Ad E 78)), (0, ((20 * l3_h75) + l5_h163)), (2, (Ad E 78))]) (lo' := [(0, (2, (Ad E 1))), (1, (0, e)), (2, (0, x2)), (3, (0, l3_h75)), (4, (0, x12)), (5, (0, l5_h163))]) rfl ?_
                                    refine r_lald hX hP rfl al_78 s18 (by first | decide | omega) (by first | decide | omega) (fun x19 x19e x19a x19b => ?_)
                                    refine r_ex hX hP 1 (pc' := 200) (st' := [(2, (Ad E 1)), (1, x19), (0, ((20 * l3_h75) + l5_h163)), (2, (Ad E 78))]) (lo' := [(0, (2, (Ad E 1))), (1, (0, e)), (2, (0, x2)), (3, (0, l3_h75)), (4, (0, x12)), (5, (0, l5_h163))]) rfl ?_
                                    refine r_getC hX hP rfl fl_12_256 hS (fun s20 => ?_)
                                    refine r_ex hX hP 1 (pc' := 205) (st' := [(0, l5_h163), (2, (Ad E 77)), (1, x19), (0, ((20 * l3_h75) + l5_h163)), (2, (Ad E 78))]) (lo' := [(0, (2, (Ad E 1))), (1, (0, e)), (2, (0, x2)), (3, (0, l3_h75)), (4, (0, x12)), (5, (0, l5_h163))]) rfl ?_
                                    refine r_lald hX hP rfl al_77 s20 (by first | decide | omega) (by first | decide | omega) (fun x21 x21e x21a x21b => ?_)
                                    refine r_ex hX hP 1 (pc' := 207) (st' := [(1, (x19 + x21)), (0, ((20 * l3_h75) + l5_h163)), (2, (Ad E 78))]) (lo' := [(0, (2, (Ad E 1))), (1, (0, e)), (2, (0, x2)), (3, (0, l3_h75)), (4, (0, x12)), (5, (0, l5_h163))]) rfl ?_
                                    refine r_hvL hX (fun w22 w22a w22b w22e => ?_)
                                    refine r_lastK hX hP rfl al_78 s18 (by first | decide | omega) (by first | decide | omega) (by first | decide | omega) (by first | decide | omega) (fun h23 => ?_)
                                    refine r_ex hX hP 1 (pc' := 210) (st' := [(0, x12)]) (lo' := [(0, (2, (Ad E 1))), (1, (0, e)), (2, (0, x2)), (3, (0, l3_h75)), (4, (0, x12)), (5, (0, l5_h163))]) rfl ?_
                                    refine r_if_lt hX hP rfl (tgt := 244) rfl (by first | decide | omega) (by first | decide | omega) (fun c24 => ?_) (fun c24 => ?_)
                                    · skip
                                      refine r_ex hX hP 2 (pc' := 163) (st' := []) (lo' := [(0, (2, (Ad E 1))), (1, (0, e)), (2, (0, x2)), (3, (0, l3_h75)), (4, (0, x12)), (5, (0, (l5_h163 + 1)))]) rfl ?_
                                      refine r_eqG (X := X) (hq_up (hq_base _ _ _ _) rfl) ?_
                                      exact ih163 (l5_h163 + 1) _ (by first | decide | omega) (by first | decide | omega) (by first | decide | omega)
                                    · skip
                                      refine r_ex hX hP 1 (pc' := 214) (st' := [(2, (Ad E 1))]) (lo' := [(0, (2, (Ad E 1))), (1, (0, e)), (2, (0, x2)), (3, (0, l3_h75)), (4, (0, x12)), (5, (0, l5_h163))]) rfl ?_
                                      refine r_getC hX hP rfl fl_12_259 hS (fun _ => ?_)
                                      refine r_ex hX hP 6 (pc' := 226) (st' := [(0, ((20 * x12) + l5_h163)), (2, (Ad E 78)), (0, ((20 * x12) + l5_h163)), (2, (Ad E 78))]) (lo' := [(0, (2, (Ad E 1))), (1, (0, e)), (2, (0, x2)), (3, (0, l3_h75)), (4, (0, x12)), (5, (0, l5_h163))]) rfl ?_
                                      refine r_lald hX hP rfl al_78 s18 (by first | decide | omega) (by first | decide | omega) (fun x25 x25e x25a x25b => ?_)
                                      refine r_ex hX hP 1 (pc' := 228) (st' := [(2, (Ad E 1)), (1, x25), (0, ((20 * x12) + l5_h163)), (2, (Ad E 78))]) (lo' := [(0, (2, (Ad E 1))), (1, (0, e)), (2, (0, x2)), (3, (0, l3_h75)), (4, (0, x12)), (5, (0, l5_h163))]) rfl ?_
                                      refine r_getC hX hP rfl fl_12_253 hS (fun s26 => ?_)
                                      refine r_ex hX hP 1 (pc' := 233) (st' := [(0, l5_h163), (2, (Ad E 76)), (1, x25), (0, ((20 * x12) + l5_h163)), (2, (Ad E 78))]) (lo' := [(0, (2, (Ad E 1))), (1, (0, e)), (2, (0, x2)), (3, (0, l3_h75)), (4, (0, x12)), (5, (0, l5_h163))]) rfl ?_
                                      refine r_lald hX hP rfl al_76 s26 (by first | decide | omega) (by first | decide | omega) (fun x27 x27e x27a x27b => ?_)
                                      refine r_ex hX hP 1 (pc' := 235) (st' := [(2, (Ad E 1)), (1, x27), (1, x25), (0, ((20 * x12) + l5_h163)), (2, (Ad E 78))]) (lo' := [(0, (2, (Ad E 1))), (1, (0, e)), (2, (0, x2)), (3, (0, l3_h75)), (4, (0, x12)), (5, (0, l5_h163))]) rfl ?_
                                      refine r_getC hX hP rfl fl_12_256 hS (fun _ => ?_)
                                      refine r_ex hX hP 1 (pc' := 240) (st' := [(0, l5_h163), (2, (Ad E 77)), (1, x27), (1, x25), (0, ((20 * x12) + l5_h163)), (2, (Ad E 78))]) (lo' := [(0, (2, (Ad E 1))), (1, (0, e)), (2, (0, x2)), (3, (0, l3_h75)), (4, (0, x12)), (5, (0, l5_h163))]) rfl ?_
                                      refine r_laldK hX hP rfl al_77 s20 (by first | decide | omega) (by first | decide | omega) (x := x21) x21e ?_
                                      refine r_ex hX hP 1 (pc' := 242) (st' := [(1, (x27 - x21)), (1, x25), (0, ((20 * x12) + l5_h163)), (2, (Ad E 78))]) (lo' := [(0, (2, (Ad E 1))), (1, (0, e)), (2, (0, x2)), (3, (0, l3_h75)), (4, (0, x12)), (5, (0, l5_h163))]) rfl ?_
                                      refine r_hvL hX (fun w28 w28a w28b w28e => ?_)
                                      refine r_ex hX hP 1 (pc' := 243) (st' := [(1, (x25 + w28)), (0, ((20 * x12) + l5_h163)), (2, (Ad E 78))]) (lo' := [(0, (2, (Ad E 1))), (1, (0, e)), (2, (0, x2)), (3, (0, l3_h75)), (4, (0, x12)), (5, (0, l5_h163))]) rfl ?_
                                      refine r_hvL hX (fun w29 w29a w29b w29e => ?_)
                                      refine r_lastK hX hP rfl al_78 s18 (by first | decide | omega) (by first | decide | omega) (by first | decide | omega) (by first | decide | omega) (fun h30 => ?_)
                                      refine r_ex hX hP 2 (pc' := 163) (st' := []) (lo' := [(0, (2, (Ad E 1))), (1, (0, e)), (2, (0, x2)), (3, (0, l3_h75)), (4, (0, x12)), (5, (0, (l5_h163 + 1)))]) rfl ?_
                                      refine r_eqG (X := X) (hq_up (hq_up (hq_base _ _ _ _) rfl) rfl) ?_
                                      exact ih163 (l5_h163 + 1) _ (by first | decide | omega) (by first | decide | omega) (by first | decide | omega)
                                  · skip
                                    refine r_ex hX hP 3 (pc' := 163) (st' := []) (lo' := [(0, (2, (Ad E 1))), (1, (0, e)), (2, (0, x2)), (3, (0, l3_h75)), (4, (0, x12)), (5, (0, (l5_h163 + 1)))]) rfl ?_
                                    refine r_eqG (X := X) (hq_base _ _ _ _) ?_
                                    exact ih163 (l5_h163 + 1) _ (by first | decide | omega) (by first | decide | omega) (by first | decide | omega)
                            refine r_eqG (X := X) (hq_refl [] [78] _) ?_
                            exact loop163 ((20 - 0) + 1 : Int).toNat 0 _ (by first | decide | omega) (by first | decide | omega) (by first | decide | omega)
                          · skip
                            refine r_ex hX hP 5 (pc' := 163) (st' := []) (lo' := [(0, (2, (Ad E 1))), (1, (0, e)), (2, (0, x2)), (3, (0, l3_h75)), (4, (0, (-1))), (5, (0, 0))]) rfl ?_
                            have loop163 : ∀ (nF : Nat) (l5_h163 : Int) (Gh163 : Gh), 0 ≤ l5_h163 → l5_h163 ≤ 20 → 20 - l5_h163 < (nF : Int) → X 0 0 163 [] [(0, (2, (Ad E 1))), (1, (0, e)), (2, (0, x2)), (3, (0, l3_h75)), (4, (0, (-1))), (5, (0, l5_h163))] S (hv [] [78] (hv [] [77, 82, 83, 84, 86, 90, 91, 92] (hv [] [81] (hv [] [77, 78, 81, 82, 83, 84, 86, 90, 91, 92] (hv [] [78] (hv [] [76, 87] G Gh9) Gh54) Gh75) Gh88) G10) Gh163) := by
                              intro nF
                              induction nF with
                              | zero => intro l5_h163 Gh163 yh163_0 yh163_1 ym163; exfalso; omega
                              | succ nF ih163 =>
                                intro l5_h163 Gh163 yh163_0 yh163_1 ym163
                                refine r_ex hX hP 2 (pc' := 166) (st' := [(2, (Ad E 1)), (0, l5_h163)]) (lo' := [(0, (2, (Ad E 1))), (1, (0, e)), (2, (0, x2)), (3, (0, l3_h75)), (4, (0, (-1))), (5, (0, l5_h163))]) rfl ?_
                                refine r_getKI hX hP rfl fl_12_314 hS (x := af3) af3e ?_
                                refine r_ic_ge hX hP rfl (tgt := 250) rfl (by first | decide | omega) (by first | decide | omega) (by first | decide | omega) (by first | decide | omega) (fun c31 => ?_) (fun c31 => ?_)
                                · skip
                                  refine r_ex hX hP 2 (pc' := 75) (st' := []) (lo' := [(0, (2, (Ad E 1))), (1, (0, e)), (2, (0, x2)), (3, (0, (l3_h75 + 1))), (4, (0, (-1))), (5, (0, l5_h163))]) rfl ?_
                                  refine r_pick hX [0, 1, 2, 3] (lo' := [(0, (2, (Ad E 1))), (1, (0, e)), (2, (0, x2)), (3, (0, (l3_h75 + 1)))]) rfl ?_
                                  refine r_eqG (X := X) (hq_loop (hq_call (hq_loop (hq_base _ _ _ _) rfl) rfl) rfl) ?_
                                  exact ih75 (l3_h75 + 1) _ (by first | decide | omega) (by first | decide | omega) (by first | decide | omega)
                                · skip
                                  refine r_ex hX hP 1 (pc' := 173) (st' := [(2, (Ad E 1))]) (lo' := [(0, (2, (Ad E 1))), (1, (0, e)), (2, (0, x2)), (3, (0, l3_h75)), (4, (0, (-1))), (5, (0, l5_h163))]) rfl ?_
                                  refine r_getC hX hP rfl fl_12_286 hS (fun s32 => ?_)
                                  refine r_ex hX hP 1 (pc' := 178) (st' := [(0, l5_h163), (2, (Ad E 87))]) (lo' := [(0, (2, (Ad E 1))), (1, (0, e)), (2, (0, x2)), (3, (0, l3_h75)), (4, (0, (-1))), (5, (0, l5_h163))]) rfl ?_
                                  refine r_iald hX hP rfl al_87 s32 (by first | decide | omega) (by first | decide | omega) (fun x33 x33e x33a x33b => ?_)
                                  refine r_ex hX hP 1 (pc' := 180) (st' := [(0, l3_h75), (0, x33)]) (lo' := [(0, (2, (Ad E 1))), (1, (0, e)), (2, (0, x2)), (3, (0, l3_h75)), (4, (0, (-1))), (5, (0, l5_h163))]) rfl ?_
                                  refine r_ic_eq hX hP rfl (tgt := 186) rfl (by first | decide | omega) (by first | decide | omega) (by first | decide | omega) (by first | decide | omega) (fun c34 => ?_) (fun c34 => ?_)
                                  · skip
                                    refine r_ex hX hP 1 (pc' := 187) (st' := [(2, (Ad E 1))]) (lo' := [(0, (2, (Ad E 1))), (1, (0, e)), (2, (0, x2)), (3, (0, l3_h75)), (4, (0, (-1))), (5, (0, l5_h163))]) rfl ?_
                                    refine r_getC hX hP rfl fl_12_259 hS (fun s35 => ?_)
                                    refine r_ex hX hP 6 (pc' := 198) (st' := [(0, ((20 * l3_h75) + l5_h163)), (2, (Ad E 78)), (0, ((20 * l3_h75) + l5_h163)), (2, (Ad E 78))]) (lo' := [(0, (2, (Ad E 1))), (1, (0, e)), (2, (0, x2)), (3, (0, l3_h75)), (4, (0, (-1))), (5, (0, l5_h163))]) rfl ?_
                                    refine r_lald hX hP rfl al_78 s35 (by first | decide | omega) (by first | decide | omega) (fun x36 x36e x36a x36b => ?_)
                                    refine r_ex hX hP 1 (pc' := 200) (st' := [(2, (Ad E 1)), (1, x36), (0, ((20 * l3_h75) + l5_h163)), (2, (Ad E 78))]) (lo' := [(0, (2, (Ad E 1))), (1, (0, e)), (2, (0, x2)), (3, (0, l3_h75)), (4, (0, (-1))), (5, (0, l5_h163))]) rfl ?_
                                    refine r_getC hX hP rfl fl_12_256 hS (fun s37 => ?_)
                                    refine r_ex hX hP 1 (pc' := 205) (st' := [(0, l5_h163), (2, (Ad E 77)), (1, x36), (0, ((20 * l3_h75) + l5_h163)), (2, (Ad E 78))]) (lo' := [(0, (2, (Ad E 1))), (1, (0, e)), (2, (0, x2)), (3, (0, l3_h75)), (4, (0, (-1))), (5, (0, l5_h163))]) rfl ?_
                                    refine r_lald hX hP rfl al_77 s37 (by first | decide | omega) (by first | decide | omega) (fun x38 x38e x38a x38b => ?_)
                                    refine r_ex hX hP 1 (pc' := 207) (st' := [(1, (x36 + x38)), (0, ((20 * l3_h75) + l5_h163)), (2, (Ad E 78))]) (lo' := [(0, (2, (Ad E 1))), (1, (0, e)), (2, (0, x2)), (3, (0, l3_h75)), (4, (0, (-1))), (5, (0, l5_h163))]) rfl ?_
                                    refine r_hvL hX (fun w39 w39a w39b w39e => ?_)
                                    refine r_lastK hX hP rfl al_78 s35 (by first | decide | omega) (by first | decide | omega) (by first | decide | omega) (by first | decide | omega) (fun h40 => ?_)
                                    refine r_ex hX hP 1 (pc' := 210) (st' := [(0, (-1))]) (lo' := [(0, (2, (Ad E 1))), (1, (0, e)), (2, (0, x2)), (3, (0, l3_h75)), (4, (0, (-1))), (5, (0, l5_h163))]) rfl ?_
                                    refine r_if_lt hX hP rfl (tgt := 244) rfl (by first | decide | omega) (by first | decide | omega) (fun c41 => ?_) (fun c41 => ?_)
                                    · skip
                                      refine r_ex hX hP 2 (pc' := 163) (st' := []) (lo' := [(0, (2, (Ad E 1))), (1, (0, e)), (2, (0, x2)), (3, (0, l3_h75)), (4, (0, (-1))), (5, (0, (l5_h163 + 1)))]) rfl ?_
                                      refine r_eqG (X := X) (hq_up (hq_base _ _ _ _) rfl) ?_
                                      exact ih163 (l5_h163 + 1) _ (by first | decide | omega) (by first | decide | omega) (by first | decide | omega)
                                    · skip
                                      exfalso; omega
                                  · skip
                                    refine r_ex hX hP 3 (pc' := 163) (st' := []) (lo' := [(0, (2, (Ad E 1))), (1, (0, e)), (2, (0, x2)), (3, (0, l3_h75)), (4, (0, (-1))), (5, (0, (l5_h163 + 1)))]) rfl ?_
                                    refine r_eqG (X := X) (hq_base _ _ _ _) ?_
                                    exact ih163 (l5_h163 + 1) _ (by first | decide | omega) (by first | decide | omega) (by first | decide | omega)
                            refine r_eqG (X := X) (hq_refl [] [78] _) ?_
                            exact loop163 ((20 - 0) + 1 : Int).toNat 0 _ (by first | decide | omega) (by first | decide | omega) (by first | decide | omega)
                        · skip
                          refine r_ex hX hP 1 (pc' := 98) (st' := [(2, (Ad E 1))]) (lo' := [(0, (2, (Ad E 1))), (1, (0, e)), (2, (0, x2)), (3, (0, l3_h75)), (4, (0, l4_h88))]) rfl ?_
                          refine r_getC hX hP rfl fl_12_268 hS (fun s42 => ?_)
                          refine r_ex hX hP 2 (pc' := 104) (st' := [(2, (Ad E 1)), (0, l4_h88), (2, (Ad E 81))]) (lo' := [(0, (2, (Ad E 1))), (1, (0, e)), (2, (0, x2)), (3, (0, l3_h75)), (4, (0, l4_h88))]) rfl ?_
                          refine r_getC hX hP rfl fl_12_286 hS (fun s43 => ?_)
                          refine r_ex hX hP 1 (pc' := 109) (st' := [(0, l4_h88), (2, (Ad E 87)), (0, l4_h88), (2, (Ad E 81))]) (lo' := [(0, (2, (Ad E 1))), (1, (0, e)), (2, (0, x2)), (3, (0, l3_h75)), (4, (0, l4_h88))]) rfl ?_
                          refine r_iald hX hP rfl al_87 s43 (by first | decide | omega) (by first | decide | omega) (fun x44 x44e x44a x44b => ?_)
                          refine r_ex hX hP 1 (pc' := 111) (st' := [(0, l3_h75), (0, x44), (0, l4_h88), (2, (Ad E 81))]) (lo' := [(0, (2, (Ad E 1))), (1, (0, e)), (2, (0, x2)), (3, (0, l3_h75)), (4, (0, l4_h88))]) rfl ?_
                          refine r_ic_ne hX hP rfl (tgt := 124) rfl (by first | decide | omega) (by first | decide | omega) (by first | decide | omega) (by first | decide | omega) (fun c45 => ?_) (fun c45 => ?_)
                          · skip
                            refine r_ex hX hP 1 (pc' := 125) (st' := [(1, 0), (0, l4_h88), (2, (Ad E 81))]) (lo' := [(0, (2, (Ad E 1))), (1, (0, e)), (2, (0, x2)), (3, (0, l3_h75)), (4, (0, l4_h88))]) rfl ?_
                            refine r_lastK hX hP rfl al_81 s42 (by first | decide | omega) (by first | decide | omega) (by first | decide | omega) (by first | decide | omega) (fun h46 => ?_)
                            refine r_ex hX hP 2 (pc' := 88) (st' := []) (lo' := [(0, (2, (Ad E 1))), (1, (0, e)), (2, (0, x2)), (3, (0, l3_h75)), (4, (0, (l4_h88 + 1)))]) rfl ?_
                            refine r_eqG (X := X) (hq_up (hq_base _ _ _ _) rfl) ?_
                            exact ih88 (l4_h88 + 1) _ (by first | decide | omega) (by first | decide | omega) (by first | decide | omega)
                          · skip
                            refine r_ex hX hP 1 (pc' := 115) (st' := [(2, (Ad E 1)), (0, l4_h88), (2, (Ad E 81))]) (lo' := [(0, (2, (Ad E 1))), (1, (0, e)), (2, (0, x2)), (3, (0, l3_h75)), (4, (0, l4_h88))]) rfl ?_
                            refine r_getC hX hP rfl fl_12_253 hS (fun s47 => ?_)
                            refine r_ex hX hP 1 (pc' := 120) (st' := [(0, l4_h88), (2, (Ad E 76)), (0, l4_h88), (2, (Ad E 81))]) (lo' := [(0, (2, (Ad E 1))), (1, (0, e)), (2, (0, x2)), (3, (0, l3_h75)), (4, (0, l4_h88))]) rfl ?_
                            refine r_lald hX hP rfl al_76 s47 (by first | decide | omega) (by first | decide | omega) (fun x48 x48e x48a x48b => ?_)
                            refine r_ex hX hP 1 (pc' := 125) (st' := [(1, x48), (0, l4_h88), (2, (Ad E 81))]) (lo' := [(0, (2, (Ad E 1))), (1, (0, e)), (2, (0, x2)), (3, (0, l3_h75)), (4, (0, l4_h88))]) rfl ?_
                            refine r_lastK hX hP rfl al_81 s42 (by first | decide | omega) (by first | decide | omega) (by first | decide | omega) (by first | decide | omega) (fun h49 => ?_)
                            refine r_ex hX hP 2 (pc' := 88) (st' := []) (lo' := [(0, (2, (Ad E 1))), (1, (0, e)), (2, (0, x2)), (3, (0, l3_h75)), (4, (0, (l4_h88 + 1)))]) rfl ?_
                            refine r_eqG (X := X) (hq_up (hq_base _ _ _ _) rfl) ?_
                            exact ih88 (l4_h88 + 1) _ (by first | decide | omega) (by first | decide | omega) (by first | decide | omega)
                    refine r_eqG (X := X) (hq_refl [] [81] _) ?_
                    exact loop88 ((20 - 0) + 1 : Int).toNat 0 _ (by first | decide | omega) (by first | decide | omega) (by first | decide | omega)
              refine r_eqG (X := X) (hq_refl [] [77, 78, 81, 82, 83, 84, 86, 90, 91, 92] _) ?_
              exact loop75 ((3 - 0) + 1 : Int).toNat 0 _ (by first | decide | omega) (by first | decide | omega) (by first | decide | omega)
            · skip
              refine r_ex hX hP 1 (pc' := 61) (st' := [(2, (Ad E 1))]) (lo' := [(0, (2, (Ad E 1))), (1, (0, e)), (2, (0, x2)), (3, (0, l3_h54))]) rfl ?_
              refine r_getC hX hP rfl fl_12_259 hS (fun s50 => ?_)
              refine r_ex hX hP 2 (pc' := 66) (st' := [(1, 0), (0, l3_h54), (2, (Ad E 78))]) (lo' := [(0, (2, (Ad E 1))), (1, (0, e)), (2, (0, x2)), (3, (0, l3_h54))]) rfl ?_
              refine r_lastK hX hP rfl al_78 s50 (by first | decide | omega) (by first | decide | omega) (by first | decide | omega) (by first | decide | omega) (fun h51 => ?_)
              refine r_ex hX hP 2 (pc' := 54) (st' := []) (lo' := [(0, (2, (Ad E 1))), (1, (0, e)), (2, (0, x2)), (3, (0, (l3_h54 + 1)))]) rfl ?_
              refine r_eqG (X := X) (hq_up (hq_base _ _ _ _) rfl) ?_
              exact ih54 (l3_h54 + 1) _ (by first | decide | omega) (by first | decide | omega) (by first | decide | omega)
        refine r_eqG (X := X) (hq_refl [] [78] _) ?_
        exact loop54 ((60 - 0) + 1 : Int).toNat 0 _ (by first | decide | omega) (by first | decide | omega) (by first | decide | omega)
      · skip
        refine r_ex hX hP 1 (pc' := 18) (st' := [(2, (Ad E 1))]) (lo' := [(0, (2, (Ad E 1))), (1, (0, e)), (2, (0, x2)), (3, (0, l3_h9))]) rfl ?_
        refine r_getC hX hP rfl fl_12_253 hS (fun s52 => ?_)
        refine r_ex hX hP 2 (pc' := 23) (st' := [(2, (Ad E 1)), (0, l3_h9), (2, (Ad E 76))]) (lo' := [(0, (2, (Ad E 1))), (1, (0, e)), (2, (0, x2)), (3, (0, l3_h9))]) rfl ?_
        refine r_getC hX hP rfl fl_12_241 hS (fun s53 => ?_)
        refine r_ex hX hP 5 (pc' := 32) (st' := [(0, ((20 * l3_h9) + x2)), (2, (Ad E 72)), (0, l3_h9), (2, (Ad E 76))]) (lo' := [(0, (2, (Ad E 1))), (1, (0, e)), (2, (0, x2)), (3, (0, l3_h9))]) rfl ?_
        refine r_lald hX hP rfl al_72 s53 (by first | decide | omega) (by first | decide | omega) (fun x54 x54e x54a x54b => ?_)
        refine r_lastK hX hP rfl al_76 s52 (by first | decide | omega) (by first | decide | omega) (by first | decide | omega) (by first | decide | omega) (fun h55 => ?_)
        refine r_ex hX hP 1 (pc' := 35) (st' := [(2, (Ad E 1))]) (lo' := [(0, (2, (Ad E 1))), (1, (0, e)), (2, (0, x2)), (3, (0, l3_h9))]) rfl ?_
        refine r_getC hX hP rfl fl_12_286 hS (fun s56 => ?_)
        refine r_ex hX hP 4 (pc' := 42) (st' := [(0, l3_h9), (0, e), (2, (Ad E 1)), (0, l3_h9), (2, (Ad E 87))]) (lo' := [(0, (2, (Ad E 1))), (1, (0, e)), (2, (0, x2)), (3, (0, l3_h9))]) rfl ?_
        have mi57 : MI E (up (hv [] [76, 87] G Gh9) 76 (Ad E 76) l3_h9 x54) := mi_keep mi rfl rfl rfl rfl rfl rfl (fun _ => rfl) (fun _ => rfl) (fun _ => rfl) (fun _ => rfl) (fun _ => rfl) (fun _ => rfl) (fun _ => rfl) (fun _ => rfl) (fun _ => rfl) (fun _ => rfl) (fun _ => rfl) (fun _ => rfl) (fun _ => rfl)
        refine r_callV gd hX hP rfl cv_12_515 hS (d' := 2) (mc' := 0) (ms' := 0) (as' := [(0, e), (0, l3_h9)]) (st := [(0, l3_h9), (2, (Ad E 87))]) (by first | decide | omega) (by first | decide | omega) (by first | decide | omega) rfl rfl (Nat.le_of_ble_eq_true rfl) (c_X12_chosenOf E S (up (hv [] [76, 87] G Gh9) 76 (Ad E 76) l3_h9 x54) e l3_h9 hS (by first | decide | omega) (by first | decide | omega) (by first | decide | omega) (by first | decide | omega) mi57) ?_
        rintro _ _ _ ⟨rfl, rfl, z58, rfl, z58a, z58b⟩
        refine r_iastK hX hP rfl al_87 s56 (by first | decide | omega) (by first | decide | omega) (by first | decide | omega) (by first | decide | omega) (fun h59 => ?_)
        refine r_ex hX hP 2 (pc' := 9) (st' := []) (lo' := [(0, (2, (Ad E 1))), (1, (0, e)), (2, (0, x2)), (3, (0, (l3_h9 + 1)))]) rfl ?_
        refine r_eqG (X := X) (hq_up (hq_up (hq_base _ _ _ _) rfl) rfl) ?_
        exact ih9 (l3_h9 + 1) _ (by first | decide | omega) (by first | decide | omega) (by first | decide | omega)
  refine r_eqG (X := X) (hq_refl [] [76, 87] _) ?_
  exact loop9 ((20 - 0) + 1 : Int).toNat 0 _ (by first | decide | omega) (by first | decide | omega) (by first | decide | omega)
