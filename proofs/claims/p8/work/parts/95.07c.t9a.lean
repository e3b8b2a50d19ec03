theorem c_X12_nextR (E : En) (S : Sg) (G : Gh) (hS : S (Ad E 1) = 1) (TT : Tp) (nn : Int) (sr : Rg) (rd : RdM E TT nn sr G) : Calls E mX12_next [(2, (Ad E 1))] S G 1 0 0 (fun r S' G' => S = S' ∧ (∃ G1, hv [82, 83, 84, 85, 86, 87] [] G G1 = G') ∧ r = none ∧ RdM E TT nn (pAv TT nn sr) G') := c_X12_next0 E S G hS TT nn (tkE TT nn (sr 0)) sr (rn_of rd)
set_option maxRecDepth 100000 in
set_option maxHeartbeats 4000000 in
theorem c_X12_spelledR (E : En) (S : Sg) (G : Gh) (a b c d e f : Int) (a_a : 0 ≤ a) (a_b : a ≤ 255) (b_a : 0 ≤ b) (b_b : b ≤ 255) (c_a : 0 ≤ c) (c_b : c ≤ 255) (d_a : 0 ≤ d) (d_b : d ≤ 255) (e_a : 0 ≤ e) (e_b : e ≤ 255) (f_a : 0 ≤ f) (f_b : f ≤ 255) : Calls E mX12_spelled [(0, a), (0, b), (0, c), (0, d), (0, e), (0, f)] S G 0 0 0 (fun r S' G' => S = S' ∧ G = G' ∧ ∃ z : Int, r = some (1, z) ∧ (-9223372036854775808) ≤ z ∧ z ≤ 9223372036854775807 ∧ z = sp6 a b c d e f) := by
  refine calls_by [(0, (0, a)), (1, (0, b)), (2, (0, c)), (3, (0, d)), (4, (0, e)), (5, (0, f))] rfl rfl (Nat.le_of_ble_eq_true rfl) (fun X hX => ?_)
  have hP := hPX12_spelled
  refine r_ex hX hP 1 (pc' := 1) (st' := [(0, a)]) (lo' := [(0, (0, a)), (1, (0, b)), (2, (0, c)), (3, (0, d)), (4, (0, e)), (5, (0, f))]) rfl ?_
  refine r_i2l hX hP rfl (by first | decide | omega) (by first | decide | omega) ?_
  refine r_ldc2 hX hP rfl (v := 96) (tbg sg9 134 rfl rfl) ?_
  refine r_ex hX hP 3 (pc' := 10) (st' := [(1, (a - 96))]) (lo' := [(0, (0, a)), (1, (0, b)), (2, (0, c)), (3, (0, d)), (4, (0, e)), (5, (0, f)), (6, (1, (a - 96)))]) rfl ?_
  refine r_ldc2 hX hP rfl (v := 32) (tbg sg9 133 rfl rfl) ?_
  refine r_ex hX hP 2 (pc' := 15) (st' := [(0, b), (1, ((a - 96) * 32))]) (lo' := [(0, (0, a)), (1, (0, b)), (2, (0, c)), (3, (0, d)), (4, (0, e)), (5, (0, f)), (6, (1, (a - 96)))]) rfl ?_
  refine r_i2l hX hP rfl (by first | decide | omega) (by first | decide | omega) ?_
  refine r_ex hX hP 1 (pc' := 17) (st' := [(1, (((a - 96) * 32) + b))]) (lo' := [(0, (0, a)), (1, (0, b)), (2, (0, c)), (3, (0, d)), (4, (0, e)), (5, (0, f)), (6, (1, (a - 96)))]) rfl ?_
  refine r_ldc2 hX hP rfl (v := 96) (tbg sg9 134 rfl rfl) ?_
  refine r_ex hX hP 3 (pc' := 24) (st' := [(0, c)]) (lo' := [(0, (0, a)), (1, (0, b)), (2, (0, c)), (3, (0, d)), (4, (0, e)), (5, (0, f)), (6, (1, ((((a - 96) * 32) + b) - 96)))]) rfl ?_
  refine r_if_le hX hP rfl (tgt := 43) rfl (by first | decide | omega) (by first | decide | omega) (fun c1 => ?_) (fun c1 => ?_)
  · skip
    refine r_ex hX hP 3 (pc' := 48) (st' := [(0, d)]) (lo' := [(0, (0, a)), (1, (0, b)), (2, (0, c)), (3, (0, d)), (4, (0, e)), (5, (0, f)), (6, (1, ((((a - 96) * 32) + b) - 96)))]) rfl ?_
    refine r_if_le hX hP rfl (tgt := 67) rfl (by first | decide | omega) (by first | decide | omega) (fun c2 => ?_) (fun c2 => ?_)
    · skip
      refine r_ex hX hP 3 (pc' := 73) (st' := [(0, e)]) (lo' := [(0, (0, a)), (1, (0, b)), (2, (0, c)), (3, (0, d)), (4, (0, e)), (5, (0, f)), (6, (1, ((((a - 96) * 32) + b) - 96)))]) rfl ?_
      refine r_if_le hX hP rfl (tgt := 93) rfl (by first | decide | omega) (by first | decide | omega) (fun c3 => ?_) (fun c3 => ?_)
      · skip
        refine r_ex hX hP 3 (pc' := 99) (st' := [(0, f)]) (lo' := [(0, (0, a)), (1, (0, b)), (2, (0, c)), (3, (0, d)), (4, (0, e)), (5, (0, f)), (6, (1, ((((a - 96) * 32) + b) - 96)))]) rfl ?_
        refine r_if_le hX hP rfl (tgt := 119) rfl (by first | decide | omega) (by first | decide | omega) (fun c4 => ?_) (fun c4 => ?_)
        · skip
          refine r_ex hX hP 1 (pc' := 121) (st' := [(1, ((((a - 96) * 32) + b) - 96))]) (lo' := [(0, (0, a)), (1, (0, b)), (2, (0, c)), (3, (0, d)), (4, (0, e)), (5, (0, f)), (6, (1, ((((a - 96) * 32) + b) - 96)))]) rfl ?_
          have hZ5 : ((((a - 96) * 32) + b) - 96) = sp6 a b c d e f := by unfold sp6; (repeat (first | rw [if_pos (by first | decide | omega)] | rw [if_neg (by first | decide | omega)])); try rfl
          exact r_retL hX hP rfl rfl (by first | decide | omega) (by first | decide | omega) ⟨rfl, rfl, ((((a - 96) * 32) + b) - 96), rfl, (by first | decide | omega), (by first | decide | omega), (by first | decide | omega)⟩
        · skip
          refine r_ex hX hP 1 (pc' := 104) (st' := [(1, ((((a - 96) * 32) + b) - 96))]) (lo' := [(0, (0, a)), (1, (0, b)), (2, (0, c)), (3, (0, d)), (4, (0, e)), (5, (0, f)), (6, (1, ((((a - 96) * 32) + b) - 96)))]) rfl ?_
          refine r_ldc2 hX hP rfl (v := 32) (tbg sg9 133 rfl rfl) ?_
          refine r_ex hX hP 2 (pc' := 110) (st' := [(0, f), (1, (((((a - 96) * 32) + b) - 96) * 32))]) (lo' := [(0, (0, a)), (1, (0, b)), (2, (0, c)), (3, (0, d)), (4, (0, e)), (5, (0, f)), (6, (1, ((((a - 96) * 32) + b) - 96)))]) rfl ?_
          refine r_i2l hX hP rfl (by first | decide | omega) (by first | decide | omega) ?_
          refine r_ex hX hP 1 (pc' := 112) (st' := [(1, ((((((a - 96) * 32) + b) - 96) * 32) + f))]) (lo' := [(0, (0, a)), (1, (0, b)), (2, (0, c)), (3, (0, d)), (4, (0, e)), (5, (0, f)), (6, (1, ((((a - 96) * 32) + b) - 96)))]) rfl ?_
          refine r_ldc2 hX hP rfl (v := 96) (tbg sg9 134 rfl rfl) ?_
          refine r_ex hX hP 2 (pc' := 121) (st' := [(1, (((((((a - 96) * 32) + b) - 96) * 32) + f) - 96))]) (lo' := [(0, (0, a)), (1, (0, b)), (2, (0, c)), (3, (0, d)), (4, (0, e)), (5, (0, f)), (6, (1, ((((a - 96) * 32) + b) - 96)))]) rfl ?_
          have hZ6 : (((((((a - 96) * 32) + b) - 96) * 32) + f) - 96) = sp6 a b c d e f := by unfold sp6; (repeat (first | rw [if_pos (by first | decide | omega)] | rw [if_neg (by first | decide | omega)])); try rfl
          exact r_retL hX hP rfl rfl (by first | decide | omega) (by first | decide | omega) ⟨rfl, rfl, (((((((a - 96) * 32) + b) - 96) * 32) + f) - 96), rfl, (by first | decide | omega), (by first | decide | omega), (by first | decide | omega)⟩
      · skip
        refine r_ex hX hP 1 (pc' := 78) (st' := [(1, ((((a - 96) * 32) + b) - 96))]) (lo' := [(0, (0, a)), (1, (0, b)), (2, (0, c)), (3, (0, d)), (4, (0, e)), (5, (0, f)), (6, (1, ((((a - 96) * 32) + b) - 96)))]) rfl ?_
        refine r_ldc2 hX hP rfl (v := 32) (tbg sg9 133 rfl rfl) ?_
        refine r_ex hX hP 2 (pc' := 84) (st' := [(0, e), (1, (((((a - 96) * 32) + b) - 96) * 32))]) (lo' := [(0, (0, a)), (1, (0, b)), (2, (0, c)), (3, (0, d)), (4, (0, e)), (5, (0, f)), (6, (1, ((((a - 96) * 32) + b) - 96)))]) rfl ?_
        refine r_i2l hX hP rfl (by first | decide | omega) (by first | decide | omega) ?_
        refine r_ex hX hP 1 (pc' := 86) (st' := [(1, ((((((a - 96) * 32) + b) - 96) * 32) + e))]) (lo' := [(0, (0, a)), (1, (0, b)), (2, (0, c)), (3, (0, d)), (4, (0, e)), (5, (0, f)), (6, (1, ((((a - 96) * 32) + b) - 96)))]) rfl ?_
        refine r_ldc2 hX hP rfl (v := 96) (tbg sg9 134 rfl rfl) ?_
        refine r_ex hX hP 4 (pc' := 99) (st' := [(0, f)]) (lo' := [(0, (0, a)), (1, (0, b)), (2, (0, c)), (3, (0, d)), (4, (0, e)), (5, (0, f)), (6, (1, (((((((a - 96) * 32) + b) - 96) * 32) + e) - 96)))]) rfl ?_
        refine r_if_le hX hP rfl (tgt := 119) rfl (by first | decide | omega) (by first | decide | omega) (fun c7 => ?_) (fun c7 => ?_)
        · skip
          refine r_ex hX hP 1 (pc' := 121) (st' := [(1, (((((((a - 96) * 32) + b) - 96) * 32) + e) - 96))]) (lo' := [(0, (0, a)), (1, (0, b)), (2, (0, c)), (3, (0, d)), (4, (0, e)), (5, (0, f)), (6, (1, (((((((a - 96) * 32) + b) - 96) * 32) + e) - 96)))]) rfl ?_
          have hZ8 : (((((((a - 96) * 32) + b) - 96) * 32) + e) - 96) = sp6 a b c d e f := by unfold sp6; (repeat (first | rw [if_pos (by first | decide | omega)] | rw [if_neg (by first | decide | omega)])); try rfl
          exact r_retL hX hP rfl rfl (by first | decide | omega) (by first | decide | omega) ⟨rfl, rfl, (((((((a - 96) * 32) + b) - 96) * 32) + e) - 96), rfl, (by first | decide | omega), (by first | decide | omega), (by first | decide | omega)⟩
        · skip
          refine r_ex hX hP 1 (pc' := 104) (st' := [(1, (((((((a - 96) * 32) + b) - 96) * 32) + e) - 96))]) (lo' := [(0, (0, a)), (1, (0, b)), (2, (0, c)), (3, (0, d)), (4, (0, e)), (5, (0, f)), (6, (1, (((((((a - 96) * 32) + b) - 96) * 32) + e) - 96)))]) rfl ?_
          refine r_ldc2 hX hP rfl (v := 32) (tbg sg9 133 rfl rfl) ?_
          refine r_ex hX hP 2 (pc' := 110) (st' := [(0, f), (1, ((((((((a - 96) * 32) + b) - 96) * 32) + e) - 96) * 32))]) (lo' := [(0, (0, a)), (1, (0, b)), (2, (0, c)), (3, (0, d)), (4, (0, e)), (5, (0, f)), (6, (1, (((((((a - 96) * 32) + b) - 96) * 32) + e) - 96)))]) rfl ?_
          refine r_i2l hX hP rfl (by first | decide | omega) (by first | decide | omega) ?_
          refine r_ex hX hP 1 (pc' := 112) (st' := [(1, (((((((((a - 96) * 32) + b) - 96) * 32) + e) - 96) * 32) + f))]) (lo' := [(0, (0, a)), (1, (0, b)), (2, (0, c)), (3, (0, d)), (4, (0, e)), (5, (0, f)), (6, (1, (((((((a - 96) * 32) + b) - 96) * 32) + e) - 96)))]) rfl ?_
          refine r_ldc2 hX hP rfl (v := 96) (tbg sg9 134 rfl rfl) ?_
          refine r_ex hX hP 2 (pc' := 121) (st' := [(1, ((((((((((a - 96) * 32) + b) - 96) * 32) + e) - 96) * 32) + f) - 96))]) (lo' := [(0, (0, a)), (1, (0, b)), (2, (0, c)), (3, (0, d)), (4, (0, e)), (5, (0, f)), (6, (1, (((((((a - 96) * 32) + b) - 96) * 32) + e) - 96)))]) rfl ?_
          have hZ9 : ((((((((((a - 96) * 32) + b) - 96) * 32) + e) - 96) * 32) + f) - 96) = sp6 a b c d e f := by unfold sp6; (repeat (first | rw [if_pos (by first | decide | omega)] | rw [if_neg (by first | decide | omega)])); try rfl
          exact r_retL hX hP rfl rfl (by first | decide | omega) (by first | decide | omega) ⟨rfl, rfl, ((((((((((a - 96) * 32) + b) - 96) * 32) + e) - 96) * 32) + f) - 96), rfl, (by first | decide | omega), (by first | decide | omega), (by first | decide | omega)⟩
    · skip
      refine r_ex hX hP 1 (pc' := 53) (st' := [(1, ((((a - 96) * 32) + b) - 96))]) (lo' := [(0, (0, a)), (1, (0, b)), (2, (0, c)), (3, (0, d)), (4, (0, e)), (5, (0, f)), (6, (1, ((((a - 96) * 32) + b) - 96)))]) rfl ?_
      refine r_ldc2 hX hP rfl (v := 32) (tbg sg9 133 rfl rfl) ?_
      refine r_ex hX hP 2 (pc' := 58) (st' := [(0, d), (1, (((((a - 96) * 32) + b) - 96) * 32))]) (lo' := [(0, (0, a)), (1, (0, b)), (2, (0, c)), (3, (0, d)), (4, (0, e)), (5, (0, f)), (6, (1, ((((a - 96) * 32) + b) - 96)))]) rfl ?_
      refine r_i2l hX hP rfl (by first | decide | omega) (by first | decide | omega) ?_
      refine r_ex hX hP 1 (pc' := 60) (st' := [(1, ((((((a - 96) * 32) + b) - 96) * 32) + d))]) (lo' := [(0, (0, a)), (1, (0, b)), (2, (0, c)), (3, (0, d)), (4, (0, e)), (5, (0, f)), (6, (1, ((((a - 96) * 32) + b) - 96)))]) rfl ?_
      refine r_ldc2 hX hP rfl (v := 96) (tbg sg9 134 rfl rfl) ?_
      refine r_ex hX hP 4 (pc' := 73) (st' := [(0, e)]) (lo' := [(0, (0, a)), (1, (0, b)), (2, (0, c)), (3, (0, d)), (4, (0, e)), (5, (0, f)), (6, (1, (((((((a - 96) * 32) + b) - 96) * 32) + d) - 96)))]) rfl ?_
      refine r_if_le hX hP rfl (tgt := 93) rfl (by first | decide | omega) (by first | decide | omega) (fun c10 => ?_) (fun c10 => ?_)
      · skip
        refine r_ex hX hP 3 (pc' := 99) (st' := [(0, f)]) (lo' := [(0, (0, a)), (1, (0, b)), (2, (0, c)), (3, (0, d)), (4, (0, e)), (5, (0, f)), (6, (1, (((((((a - 96) * 32) + b) - 96) * 32) + d) - 96)))]) rfl ?_
        refine r_if_le hX hP rfl (tgt := 119) rfl (by first | decide | omega) (by first | decide | omega) (fun c11 => ?_) (fun c11 => ?_)
        · skip
          refine r_ex hX hP 1 (pc' := 121) (st' := [(1, (((((((a - 96) * 32) + b) - 96) * 32) + d) - 96))]) (lo' := [(0, (0, a)), (1, (0, b)), (2, (0, c)), (3, (0, d)), (4, (0, e)), (5, (0, f)), (6, (1, (((((((a - 96) * 32) + b) - 96) * 32) + d) - 96)))]) rfl ?_
          have hZ12 : (((((((a - 96) * 32) + b) - 96) * 32) + d) - 96) = sp6 a b c d e f := by unfold sp6; (repeat (first | rw [if_pos (by first | decide | omega)] | rw [if_neg (by first | decide | omega)])); try rfl
          exact r_retL hX hP rfl rfl (by first | decide | omega) (by first | decide | omega) ⟨rfl, rfl, (((((((a - 96) * 32) + b) - 96) * 32) + d) - 96), rfl, (by first | decide | omega), (by first | decide | omega), (by first | decide | omega)⟩
        · skip
          refine r_ex hX hP 1 (pc' := 104) (st' := [(1, (((((((a - 96) * 32) + b) - 96) * 32) + d) - 96))]) (lo' := [(0, (0, a)), (1, (0, b)), (2, (0, c)), (3, (0, d)), (4, (0, e)), (5, (0, f)), (6, (1, (((((((a - 96) * 32) + b) - 96) * 32) + d) - 96)))]) rfl ?_
          refine r_ldc2 hX hP rfl (v := 32) (tbg sg9 133 rfl rfl) ?_
          refine r_ex hX hP 2 (pc' := 110) (st' := [(0, f), (1, ((((((((a - 96) * 32) + b) - 96) * 32) + d) - 96) * 32))]) (lo' := [(0, (0, a)), (1, (0, b)), (2, (0, c)), (3, (0, d)), (4, (0, e)), (5, (0, f)), (6, (1, (((((((a - 96) * 32) + b) - 96) * 32) + d) - 96)))]) rfl ?_
          refine r_i2l hX hP rfl (by first | decide | omega) (by first | decide | omega) ?_
          refine r_ex hX hP 1 (pc' := 112) (st' := [(1, (((((((((a - 96) * 32) + b) - 96) * 32) + d) - 96) * 32) + f))]) (lo' := [(0, (0, a)), (1, (0, b)), (2, (0, c)), (3, (0, d)), (4, (0, e)), (5, (0, f)), (6, (1, (((((((a - 96) * 32) + b) - 96) * 32) + d) - 96)))]) rfl ?_
          refine r_ldc2 hX hP rfl (v := 96) (tbg sg9 134 rfl rfl) ?_
          refine r_ex hX hP 2 (pc' := 121) (st' := [(1, ((((((((((a - 96) * 32) + b) - 96) * 32) + d) - 96) * 32) + f) - 96))]) (lo' := [(0, (0, a)), (1, (0, b)), (2, (0, c)), (3, (0, d)), (4, (0, e)), (5, (0, f)), (6, (1, (((((((a - 96) * 32) + b) - 96) * 32) + d) - 96)))]) rfl ?_
          have hZ13 : ((((((((((a - 96) * 32) + b) - 96) * 32) + d) - 96) * 32) + f) - 96) = sp6 a b c d e f := by unfold sp6; (repeat (first | rw [if_pos (by first | decide | omega)] | rw [if_neg (by first | decide | omega)])); try rfl
          exact r_retL hX hP rfl rfl (by first | decide | omega) (by first | decide | omega) ⟨rfl, rfl, ((((((((((a - 96) * 32) + b) - 96) * 32) + d) - 96) * 32) + f) - 96), rfl, (by first | decide | omega), (by first | decide | omega), (by first | decide | omega)⟩
      · skip
        refine r_ex hX hP 1 (pc' := 78) (st' := [(1, (((((((a - 96) * 32) + b) - 96) * 32) + d) - 96))]) (lo' := [(0, (0, a)), (1, (0, b)), (2, (0, c)), (3, (0, d)), (4, (0, e)), (5, (0, f)), (6, (1, (((((((a - 96) * 32) + b) - 96) * 32) + d) - 96)))]) rfl ?_
        refine r_ldc2 hX hP rfl (v := 32) (tbg sg9 133 rfl rfl) ?_
        refine r_ex hX hP 2 (pc' := 84) (st' := [(0, e), (1, ((((((((a - 96) * 32) + b) - 96) * 32) + d) - 96) * 32))]) (lo' := [(0, (0, a)), (1, (0, b)), (2, (0, c)), (3, (0, d)), (4, (0, e)), (5, (0, f)), (6, (1, (((((((a - 96) * 32) + b) - 96) * 32) + d) - 96)))]) rfl ?_
        refine r_i2l hX hP rfl (by first | decide | omega) (by first | decide | omega) ?_
        refine r_ex hX hP 1 (pc' := 86) (st' := [(1, (((((((((a - 96) * 32) + b) - 96) * 32) + d) - 96) * 32) + e))]) (lo' := [(0, (0, a)), (1, (0, b)), (2, (0, c)), (3, (0, d)), (4, (0, e)), (5, (0, f)), (6, (1, (((((((a - 96) * 32) + b) - 96) * 32) + d) - 96)))]) rfl ?_
        refine r_ldc2 hX hP rfl (v := 96) (tbg sg9 134 rfl rfl) ?_
        refine r_ex hX hP 4 (pc' := 99) (st' := [(0, f)]) (lo' := [(0, (0, a)), (1, (0, b)), (2, (0, c)), (3, (0, d)), (4, (0, e)), (5, (0, f)), (6, (1, ((((((((((a - 96) * 32) + b) - 96) * 32) + d) - 96) * 32) + e) - 96)))]) rfl ?_
        refine r_if_le hX hP rfl (tgt := 119) rfl (by first | decide | omega) (by first | decide | omega) (fun c14 => ?_) (fun c14 => ?_)
        · skip
          refine r_ex hX hP 1 (pc' := 121) (st' := [(1, ((((((((((a - 96) * 32) + b) - 96) * 32) + d) - 96) * 32) + e) - 96))]) (lo' := [(0, (0, a)), (1, (0, b)), (2, (0, c)), (3, (0, d)), (4, (0, e)), (5, (0, f)), (6, (1, ((((((((((a - 96) * 32) + b) - 96) * 32) + d) - 96) * 32) + e) - 96)))]) rfl ?_
          have hZ15 : ((((((((((a - 96) * 32) + b) - 96) * 32) + d) - 96) * 32) + e) - 96) = sp6 a b c d e f := by unfold sp6; (repeat (first | rw [if_pos (by first | decide | omega)] | rw [if_neg (by first | decide | omega)])); try rfl
          exact r_retL hX hP rfl rfl (by first | decide | omega) (by first | decide | omega) ⟨rfl, rfl, ((((((((((a - 96) * 32) + b) - 96) * 32) + d) - 96) * 32) + e) - 96), rfl, (by first | decide | omega), (by first | decide | omega), (by first | decide | omega)⟩
        · skip
          refine r_ex hX hP 1 (pc' := 104) (st' := [(1, ((((((((((a - 96) * 32) + b) - 96) * 32) + d) - 96) * 32) + e) - 96))]) (lo' := [(0, (0, a)), (1, (0, b)), (2, (0, c)), (3, (0, d)), (4, (0, e)), (5, (0, f)), (6, (1, ((((((((((a - 96) * 32) + b) - 96) * 32) + d) - 96) * 32) + e) - 96)))]) rfl ?_
          refine r_ldc2 hX hP rfl (v := 32) (tbg sg9 133 rfl rfl) ?_
          refine r_ex hX hP 2 (pc' := 110) (st' := [(0, f), (1, (((((((((((a - 96) * 32) + b) - 96) * 32) + d) - 96) * 32) + e) - 96) * 32))]) (lo' := [(0, (0, a)), (1, (0, b)), (2, (0, c)), (3, (0, d)), (4, (0, e)), (5, (0, f)), (6, (1, ((((((((((a - 96) * 32) + b) - 96) * 32) + d) - 96) * 32) + e) - 96)))]) rfl ?_
          refine r_i2l hX hP rfl (by first | decide | omega) (by first | decide | omega) ?_
          refine r_ex hX hP 1 (pc' := 112) (st' := [(1, ((((((((((((a - 96) * 32) + b) - 96) * 32) + d) - 96) * 32) + e) - 96) * 32) + f))]) (lo' := [(0, (0, a)), (1, (0, b)), (2, (0, c)), (3, (0, d)), (4, (0, e)), (5, (0, f)), (6, (1, ((((((((((a - 96) * 32) + b) - 96) * 32) + d) - 96) * 32) + e) - 96)))]) rfl ?_
          refine r_ldc2 hX hP rfl (v := 96) (tbg sg9 134 rfl rfl) ?_
          refine r_ex hX hP 2 (pc' := 121) (st' := [(1, (((((((((((((a - 96) * 32) + b) - 96) * 32) + d) - 96) * 32) + e) - 96) * 32) + f) - 96))]) (lo' := [(0, (0, a)), (1, (0, b)), (2, (0, c)), (3, (0, d)), (4, (0, e)), (5, (0, f)), (6, (1, ((((((((((a - 96) * 32) + b) - 96) * 32) + d) - 96) * 32) + e) - 96)))]) rfl ?_
          have hZ16 : (((((((((((((a - 96) * 32) + b) - 96) * 32) + d) - 96) * 32) + e) - 96) * 32) + f) - 96) = sp6 a b c d e f := by unfold sp6; (repeat (first | rw [if_pos (by first | decide | omega)] | rw [if_neg (by first | decide | omega)])); try rfl
          exact r_retL hX hP rfl rfl (by first | decide | omega) (by first | decide | omega) ⟨rfl, rfl, (((((((((((((a - 96) * 32) + b) - 96) * 32) + d) - 96) * 32) + e) - 96) * 32) + f) - 96), rfl, (by first | decide | omega), (by first | decide | omega), (by first | decide | omega)⟩
  · skip
    refine r_ex hX hP 1 (pc' := 29) (st' := [(1, ((((a - 96) * 32) + b) - 96))]) (lo' := [(0, (0, a)), (1, (0, b)), (2, (0, c)), (3, (0, d)), (4, (0, e)), (5, (0, f)), (6, (1, ((((a - 96) * 32) + b) - 96)))]) rfl ?_
    refine r_ldc2 hX hP rfl (v := 32) (tbg sg9 133 rfl rfl) ?_
    refine r_ex hX hP 2 (pc' := 34) (st' := [(0, c), (1, (((((a - 96) * 32) + b) - 96) * 32))]) (lo' := [(0, (0, a)), (1, (0, b)), (2, (0, c)), (3, (0, d)), (4, (0, e)), (5, (0, f)), (6, (1, ((((a - 96) * 32) + b) - 96)))]) rfl ?_
    refine r_i2l hX hP rfl (by first | decide | omega) (by first | decide | omega) ?_
    refine r_ex hX hP 1 (pc' := 36) (st' := [(1, ((((((a - 96) * 32) + b) - 96) * 32) + c))]) (lo' := [(0, (0, a)), (1, (0, b)), (2, (0, c)), (3, (0, d)), (4, (0, e)), (5, (0, f)), (6, (1, ((((a - 96) * 32) + b) - 96)))]) rfl ?_
    refine r_ldc2 hX hP rfl (v := 96) (tbg sg9 134 rfl rfl) ?_
    refine r_ex hX hP 4 (pc' := 48) (st' := [(0, d)]) (lo' := [(0, (0, a)), (1, (0, b)), (2, (0, c)), (3, (0, d)), (4, (0, e)), (5, (0, f)), (6, (1, (((((((a - 96) * 32) + b) - 96) * 32) + c) - 96)))]) rfl ?_
    refine r_if_le hX hP rfl (tgt := 67) rfl (by first | decide | omega) (by first | decide | omega) (fun c17 => ?_) (fun c17 => ?_)
    · skip
      refine r_ex hX hP 3 (pc' := 73) (st' := [(0, e)]) (lo' := [(0, (0, a)), (1, (0, b)), (2, (0, c)), (3, (0, d)), (4, (0, e)), (5, (0, f)), (6, (1, (((((((a - 96) * 32) + b) - 96) * 32) + c) - 96)))]) rfl ?_
      refine r_if_le hX hP rfl (tgt := 93) rfl (by first | decide | omega) (by first | decide | omega) (fun c18 => ?_) (fun c18 => ?_)
      · skip
        refine r_ex hX hP 3 (pc' := 99) (st' := [(0, f)]) (lo' := [(0, (0, a)), (1, (0, b)), (2, (0, c)), (3, (0, d)), (4, (0, e)), (5, (0, f)), (6, (1, (((((((a - 96) * 32) + b) - 96) * 32) + c) - 96)))]) rfl ?_
        refine r_if_le hX hP rfl (tgt := 119) rfl (by first | decide | omega) (by first | decide | omega) (fun c19 => ?_) (fun c19 => ?_)
        · skip
          refine r_ex hX hP 1 (pc' := 121) (st' := [(1, (((((((a - 96) * 32) + b) - 96) * 32) + c) - 96))]) (lo' := [(0, (0, a)), (1, (0, b)), (2, (0, c)), (3, (0, d)), (4, (0, e)), (5, (0, f)), (6, (1, (((((((a - 96) * 32) + b) - 96) * 32) + c) - 96)))]) rfl ?_
          have hZ20 : (((((((a - 96) * 32) + b) - 96) * 32) + c) - 96) = sp6 a b c d e f := by unfold sp6; (repeat (first | rw [if_pos (by first | decide | omega)] | rw [if_neg (by first | decide | omega)])); try rfl
          exact r_retL hX hP rfl rfl (by first | decide | omega) (by first | decide | omega) ⟨rfl, rfl, (((((((a - 96) * 32) + b) - 96) * 32) + c) - 96), rfl, (by first | decide | omega), (by first | decide | omega), (by first | decide | omega)⟩
        · skip
          refine r_ex hX hP 1 (pc' := 104) (st' := [(1, (((((((a - 96) * 32) + b) - 96) * 32) + c) - 96))]) (lo' := [(0, (0, a)), (1, (0, b)), (2, (0, c)), (3, (0, d)), (4, (0, e)), (5, (0, f)), (6, (1, (((((((a - 96) * 32) + b) - 96) * 32) + c) - 96)))]) rfl ?_
          refine r_ldc2 hX hP rfl (v := 32) (tbg sg9 133 rfl rfl) ?_
          refine r_ex hX hP 2 (pc' := 110) (st' := [(0, f), (1, ((((((((a - 96) * 32) + b) - 96) * 32) + c) - 96) * 32))]) (lo' := [(0, (0, a)), (1, (0, b)), (2, (0, c)), (3, (0, d)), (4, (0, e)), (5, (0, f)), (6, (1, (((((((a - 96) * 32) + b) - 96) * 32) + c) - 96)))]) rfl ?_
          refine r_i2l hX hP rfl (by first | decide | omega) (by first | decide | omega) ?_
          refine r_ex hX hP 1 (pc' := 112) (st' := [(1, (((((((((a - 96) * 32) + b) - 96) * 32) + c) - 96) * 32) + f))]) (lo' := [(0, (0, a)), (1, (0, b)), (2, (0, c)), (3, (0, d)), (4, (0, e)), (5, (0, f)), (6, (1, (((((((a - 96) * 32) + b) - 96) * 32) + c) - 96)))]) rfl ?_
          refine r_ldc2 hX hP rfl (v := 96) (tbg sg9 134 rfl rfl) ?_
          refine r_ex hX hP 2 (pc' := 121) (st' := [(1, ((((((((((a - 96) * 32) + b) - 96) * 32) + c) - 96) * 32) + f) - 96))]) (lo' := [(0, (0, a)), (1, (0, b)), (2, (0, c)), (3, (0, d)), (4, (0, e)), (5, (0, f)), (6, (1, (((((((a - 96) * 32) + b) - 96) * 32) + c) - 96)))]) rfl ?_
          have hZ21 : ((((((((((a - 96) * 32) + b) - 96) * 32) + c) - 96) * 32) + f) - 96) = sp6 a b c d e f := by unfold sp6; (repeat (first | rw [if_pos (by first | decide | omega)] | rw [if_neg (by first | decide | omega)])); try rfl
          exact r_retL hX hP rfl rfl (by first | decide | omega) (by first | decide | omega) ⟨rfl, rfl, ((((((((((a - 96) * 32) + b) - 96) * 32) + c) - 96) * 32) + f) - 96), rfl, (by first | decide | omega), (by first | decide | omega), (by first | decide | omega)⟩
      · skip
        refine r_ex hX hP 1 (pc' := 78) (st' := [(1, (((((((a - 96) * 32) + b) - 96) * 32) + c) - 96))]) (lo' := [(0, (0, a)), (1, (0, b)), (2, (0, c)), (3, (0, d)), (4, (0, e)), (5, (0, f)), (6, (1, (((((((a - 96) * 32) + b) - 96) * 32) + c) - 96)))]) rfl ?_
        refine r_ldc2 hX hP rfl (v := 32) (tbg sg9 133 rfl rfl) ?_
        refine r_ex hX hP 2 (pc' := 84) (st' := [(0, e), (1, ((((((((a - 96) * 32) + b) - 96) * 32) + c) - 96) * 32))]) (lo' := [(0, (0, a)), (1, (0, b)), (2, (0, c)), (3, (0, d)), (4, (0, e)), (5, (0, f)), (6, (1, (((((((a - 96) * 32) + b) - 96) * 32) + c) - 96)))]) rfl ?_
        refine r_i2l hX hP rfl (by first | decide | omega) (by first | decide | omega) ?_
        refine r_ex hX hP 1 (pc' := 86) (st' := [(1, (((((((((a - 96) * 32) + b) - 96) * 32) + c) - 96) * 32) + e))]) (lo' := [(0, (0, a)), (1, (0, b)), (2, (0, c)), (3, (0, d)), (4, (0, e)), (5, (0, f)), (6, (1, (((((((a - 96) * 32) + b) - 96) * 32) + c) - 96)))]) rfl ?_
        refine r_ldc2 hX hP rfl (v := 96) (tbg sg9 134 rfl rfl) ?_
        refine r_ex hX hP 4 (pc' := 99) (st' := [(0, f)]) (lo' := [(0, (0, a)), (1, (0, b)), (2, (0, c)), (3, (0, d)), (4, (0, e)), (5, (0, f)), (6, (1, ((((((((((a - 96) * 32) + b) - 96) * 32) + c) - 96) * 32) + e) - 96)))]) rfl ?_
        refine r_if_le hX hP rfl (tgt := 119) rfl (by first | decide | omega) (by first | decide | omega) (fun c22 => ?_) (fun c22 => ?_)
        · skip
          refine r_ex hX hP 1 (pc' := 121) (st' := [(1, ((((((((((a - 96) * 32) + b) - 96) * 32) + c) - 96) * 32) + e) - 96))]) (lo' := [(0, (0, a)), (1, (0, b)), (2, (0, c)), (3, (0, d)), (4, (0, e)), (5, (0, f)), (6, (1, ((((((((((a - 96) * 32) + b) - 96) * 32) + c) - 96) * 32) + e) - 96)))]) rfl ?_
          have hZ23 : ((((((((((a - 96) * 32) + b) - 96) * 32) + c) - 96) * 32) + e) - 96) = sp6 a b c d e f := by unfold sp6; (repeat (first | rw [if_pos (by first | decide | omega)] | rw [if_neg (by first | decide | omega)])); try rfl
          exact r_retL hX hP rfl rfl (by first | decide | omega) (by first | decide | omega) ⟨rfl, rfl, ((((((((((a - 96) * 32) + b) - 96) * 32) + c) - 96) * 32) + e) - 96), rfl, (by first | decide | omega), (by first | decide | omega), (by first | decide | omega)⟩
        · skip
          refine r_ex hX hP 1 (pc' := 104) (st' := [(1, ((((((((((a - 96) * 32) + b) - 96) * 32) + c) - 96) * 32) + e) - 96))]) (lo' := [(0, (0, a)), (1, (0, b)), (2, (0, c)), (3, (0, d)), (4, (0, e)), (5, (0, f)), (6, (1, ((((((((((a - 96) * 32) + b) - 96) * 32) + c) - 96) * 32) + e) - 96)))]) rfl ?_
          refine r_ldc2 hX hP rfl (v := 32) (tbg sg9 133 rfl rfl) ?_
          refine r_ex hX hP 2 (pc' := 110) (st' := [(0, f), (1, (((((((((((a - 96) * 32) + b) - 96) * 32) + c) - 96) * 32) + e) - 96) * 32))]) (lo' := [(0, (0, a)), (1, (0, b)), (2, (0, c)), (3, (0, d)), (4, (0, e)), (5, (0, f)), (6, (1, ((((((((((a - 96) * 32) + b) - 96) * 32) + c) - 96) * 32) + e) - 96)))]) rfl ?_
          refine r_i2l hX hP rfl (by first | decide | omega) (by first | decide | omega) ?_
          refine r_ex hX hP 1 (pc' := 112) (st' := [(1, ((((((((((((a - 96) * 32) + b) - 96) * 32) + c) - 96) * 32) + e) - 96) * 32) + f))]) (lo' := [(0, (0, a)), (1, (0, b)), (2, (0, c)), (3, (0, d)), (4, (0, e)), (5, (0, f)), (6, (1, ((((((((((a - 96) * 32) + b) - 96) * 32) + c) - 96) * 32) + e) - 96)))]) rfl ?_
          refine r_ldc2 hX hP rfl (v := 96) (tbg sg9 134 rfl rfl) ?_
          refine r_ex hX hP 2 (pc' := 121) (st' := [(1, (((((((((((((a - 96) * 32) + b) - 96) * 32) + c) - 96) * 32) + e) - 96) * 32) + f) - 96))]) (lo' := [(0, (0, a)), (1, (0, b)), (2, (0, c)), (3, (0, d)), (4, (0, e)), (5, (0, f)), (6, (1, ((((((((((a - 96) * 32) + b) - 96) * 32) + c) - 96) * 32) + e) - 96)))]) rfl ?_
          have hZ24 : (((((((((((((a - 96) * 32) + b) - 96) * 32) + c) - 96) * 32) + e) - 96) * 32) + f) - 96) = sp6 a b c d e f := by unfold sp6; (repeat (first | rw [if_pos (by first | decide | omega)] | rw [if_neg (by first | decide | omega)])); try rfl
          exact r_retL hX hP rfl rfl (by first | decide | omega) (by first | decide | omega) ⟨rfl, rfl, (((((((((((((a - 96) * 32) + b) - 96) * 32) + c) - 96) * 32) + e) - 96) * 32) + f) - 96), rfl, (by first | decide | omega), (by first | decide | omega), (by first | decide | omega)⟩
    · skip
      refine r_ex hX hP 1 (pc' := 53) (st' := [(1, (((((((a - 96) * 32) + b) - 96) * 32) + c) - 96))]) (lo' := [(0, (0, a)), (1, (0, b)), (2, (0, c)), (3, (0, d)), (4, (0, e)), (5, (0, f)), (6, (1, (((((((a - 96) * 32) + b) - 96) * 32) + c) - 96)))]) rfl ?_
      refine r_ldc2 hX hP rfl (v := 32) (tbg sg9 133 rfl rfl) ?_
      refine r_ex hX hP 2 (pc' := 58) (st' := [(0, d), (1, ((((((((a - 96) * 32) + b) - 96) * 32) + c) - 96) * 32))]) (lo' := [(0, (0, a)), (1, (0, b)), (2, (0, c)), (3, (0, d)), (4, (0, e)), (5, (0, f)), (6, (1, (((((((a - 96) * 32) + b) - 96) * 32) + c) - 96)))]) rfl ?_
      refine r_i2l hX hP rfl (by first | decide | omega) (by first | decide | omega) ?_
      refine r_ex hX hP 1 (pc' := 60) (st' := [(1, (((((((((a - 96) * 32) + b) - 96) * 32) + c) - 96) * 32) + d))]) (lo' := [(0, (0, a)), (1, (0, b)), (2, (0, c)), (3, (0, d)), (4, (0, e)), (5, (0, f)), (6, (1, (((((((a - 96) * 32) + b) - 96) * 32) + c) - 96)))]) rfl ?_
      refine r_ldc2 hX hP rfl (v := 96) (tbg sg9 134 rfl rfl) ?_
      refine r_ex hX hP 4 (pc' := 73) (st' := [(0, e)]) (lo' := [(0, (0, a)), (1, (0, b)), (2, (0, c)), (3, (0, d)), (4, (0, e)), (5, (0, f)), (6, (1, ((((((((((a - 96) * 32) + b) - 96) * 32) + c) - 96) * 32) + d) - 96)))]) rfl ?_
      refine r_if_le hX hP rfl (tgt := 93) rfl (by first | decide | omega) (by first | decide | omega) (fun c25 => ?_) (fun c25 => ?_)
      · skip
        refine r_ex hX hP 3 (pc' := 99) (st' := [(0, f)]) (lo' := [(0, (0, a)), (1, (0, b)), (2, (0, c)), (3, (0, d)), (4, (0, e)), (5, (0, f)), (6, (1, ((((((((((a - 96) * 32) + b) - 96) * 32) + c) - 96) * 32) + d) - 96)))]) rfl ?_
        refine r_if_le hX hP rfl (tgt := 119) rfl (by first | decide | omega) (by first | decide | omega) (fun c26 => ?_) (fun c26 => ?_)
        · skip
          refine r_ex hX hP 1 (pc' := 121) (st' := [(1, ((((((((((a - 96) * 32) + b) - 96) * 32) + c) - 96) * 32) + d) - 96))]) (lo' := [(0, (0, a)), (1, (0, b)), (2, (0, c)), (3, (0, d)), (4, (0, e)), (5, (0, f)), (6, (1, ((((((((((a - 96) * 32) + b) - 96) * 32) + c) - 96) * 32) + d) - 96)))]) rfl ?_
          have hZ27 : ((((((((((a - 96) * 32) + b) - 96) * 32) + c) - 96) * 32) + d) - 96) = sp6 a b c d e f := by unfold sp6; (repeat (first | rw [if_pos (by first | decide | omega)] | rw [if_neg (by first | decide | omega)])); try rfl
          exact r_retL hX hP rfl rfl (by first | decide | omega) (by first | decide | omega) ⟨rfl, rfl, ((((((((((a - 96) * 32) + b) - 96) * 32) + c) - 96) * 32) + d) - 96), rfl, (by first | decide | omega), (by first | decide | omega), (by first | decide | omega)⟩
        · skip
          refine r_ex hX hP 1 (pc' := 104) (st' := [(1, ((((((((((a - 96) * 32) + b) - 96) * 32) + c) - 96) * 32) + d) - 96))]) (lo' := [(0, (0, a)), (1, (0, b)), (2, (0, c)), (3, (0, d)), (4, (0, e)), (5, (0, f)), (6, (1, ((((((((((a - 96) * 32) + b) - 96) * 32) + c) - 96) * 32) + d) - 96)))]) rfl ?_
          refine r_ldc2 hX hP rfl (v := 32) (tbg sg9 133 rfl rfl) ?_
          refine r_ex hX hP 2 (pc' := 110) (st' := [(0, f), (1, (((((((((((a - 96) * 32) + b) - 96) * 32) + c) - 96) * 32) + d) - 96) * 32))]) (lo' := [(0, (0, a)), (1, (0, b)), (2, (0, c)), (3, (0, d)), (4, (0, e)), (5, (0, f)), (6, (1, ((((((((((a - 96) * 32) + b) - 96) * 32) + c) - 96) * 32) + d) - 96)))]) rfl ?_
          refine r_i2l hX hP rfl (by first | decide | omega) (by first | decide | omega) ?_
          refine r_ex hX hP 1 (pc' := 112) (st' := [(1, ((((((((((((a - 96) * 32) + b) - 96) * 32) + c) - 96) * 32) + d) - 96) * 32) + f))]) (lo' := [(0, (0, a)), (1, (0, b)), (2, (0, c)), (3, (0, d)), (4, (0, e)), (5, (0, f)), (6, (1, ((((((((((a - 96) * 32) + b) - 96) * 32) + c) - 96) * 32) + d) - 96)))]) rfl ?_
          refine r_ldc2 hX hP rfl (v := 96) (tbg sg9 134 rfl rfl) ?_
          refine r_ex hX hP 2 (pc' := 121) (st' := [(1, (((((((((((((a - 96) * 32) + b) - 96) * 32) + c) - 96) * 32) + d) - 96) * 32) + f) - 96))]) (lo' := [(0, (0, a)), (1, (0, b)), (2, (0, c)), (3, (0, d)), (4, (0, e)), (5, (0, f)), (6, (1, ((((((((((a - 96) * 32) + b) - 96) * 32) + c) - 96) * 32) + d) - 96)))]) rfl ?_
          have hZ28 : (((((((((((((a - 96) * 32) + b) - 96) * 32) + c) - 96) * 32) + d) - 96) * 32) + f) - 96) = sp6 a b c d e f := by unfold sp6; (repeat (first | rw [if_pos (by first | decide | omega)] | rw [if_neg (by first | decide | omega)])); try rfl
          exact r_retL hX hP rfl rfl (by first | decide | omega) (by first | decide | omega) ⟨rfl, rfl, (((((((((((((a - 96) * 32) + b) - 96) * 32) + c) - 96) * 32) + d) - 96) * 32) + f) - 96), rfl, (by first | decide | omega), (by first | decide | omega), (by first | decide | omega)⟩
      · skip
        refine r_ex hX hP 1 (pc' := 78) (st' := [(1, ((((((((((a - 96) * 32) + b) - 96) * 32) + c) - 96) * 32) + d) - 96))]) (lo' := [(0, (0, a)), (1, (0, b)), (2, (0, c)), (3, (0, d)), (4, (0, e)), (5, (0, f)), (6, (1, ((((((((((a - 96) * 32) + b) - 96) * 32) + c) - 96) * 32) + d) - 96)))]) rfl ?_
        refine r_ldc2 hX hP rfl (v := 32) (tbg sg9 133 rfl rfl) ?_
        refine r_ex hX hP 2 (pc' := 84) (st' := [(0, e), (1, (((((((((((a - 96) * 32) + b) - 96) * 32) + c) - 96) * 32) + d) - 96) * 32))]) (lo' := [(0, (0, a)), (1, (0, b)), (2, (0, c)), (3, (0, d)), (4, (0, e)), (5, (0, f)), (6, (1, ((((((((((a - 96) * 32) + b) - 96) * 32) + c) - 96) * 32) + d) - 96)))]) rfl ?_
        refine r_i2l hX hP rfl (by first | decide | omega) (by first | decide | omega) ?_
        refine r_ex hX hP 1 (pc' := 86) (st' := [(1, ((((((((((((a - 96) * 32) + b) - 96) * 32) + c) - 96) * 32) + d) - 96) * 32) + e))]) (lo' := [(0, (0, a)), (1, (0, b)), (2, (0, c)), (3, (0, d)), (4, (0, e)), (5, (0, f)), (6, (1, ((((((((((a - 96) * 32) + b) - 96) * 32) + c) - 96) * 32) + d) - 96)))]) rfl ?_
        refine r_ldc2 hX hP rfl (v := 96) (tbg sg9 134 rfl rfl) ?_
        refine r_ex hX hP 4 (pc' := 99) (st' := [(0, f)]) (lo' := [(0, (0, a)), (1, (0, b)), (2, (0, c)), (3, (0, d)), (4, (0, e)), (5, (0, f)), (6, (1, (((((((((((((a - 96) * 32) + b) - 96) * 32) + c) - 96) * 32) + d) - 96) * 32) + e) - 96)))]) rfl ?_
        refine r_if_le hX hP rfl (tgt := 119) rfl (by first | decide | omega) (by first | decide | omega) (fun c29 => ?_) (fun c29 => ?_)
        · skip
          refine r_ex hX hP 1 (pc' := 121) (st' := [(1, (((((((((((((a - 96) * 32) + b) - 96) * 32) + c) - 96) * 32) + d) - 96) * 32) + e) - 96))]) (lo' := [(0, (0, a)), (1, (0, b)), (2, (0, c)), (3, (0, d)), (4, (0, e)), (5, (0, f)), (6, (1, (((((((((((((a - 96) * 32) + b) - 96) * 32) + c) - 96) * 32) + d) - 96) * 32) + e) - 96)))]) rfl ?_
          have hZ30 : (((((((((((((a - 96) * 32) + b) - 96) * 32) + c) - 96) * 32) + d) - 96) * 32) + e) - 96) = sp6 a b c d e f := by unfold sp6; (repeat (first | rw [if_pos (by first | decide | omega)] | rw [if_neg (by first | decide | omega)])); try rfl
          exact r_retL hX hP rfl rfl (by first | decide | omega) (by first | decide | omega) ⟨rfl, rfl, (((((((((((((a - 96) * 32) + b) - 96) * 32) + c) - 96) * 32) + d) - 96) * 32) + e) - 96), rfl, (by first | decide | omega), (by first | decide | omega), (by first | decide | omega)⟩
        · skip
          refine r_ex hX hP 1 (pc' := 104) (st' := [(1, (((((((((((((a - 96) * 32) + b) - 96) * 32) + c) - 96) * 32) + d) - 96) * 32) + e) - 96))]) (lo' := [(0, (0, a)), (1, (0, b)), (2, (0, c)), (3, (0, d)), (4, (0, e)), (5, (0, f)), (6, (1, (((((((((((((a - 96) * 32) + b) - 96) * 32) + c) - 96) * 32) + d) - 96) * 32) + e) - 96)))]) rfl ?_
          refine r_ldc2 hX hP rfl (v := 32) (tbg sg9 133 rfl rfl) ?_
          refine r_ex hX hP 2 (pc' := 110) (st' := [(0, f), (1, ((((((((((((((a - 96) * 32) + b) - 96) * 32) + c) - 96) * 32) + d) - 96) * 32) + e) - 96) * 32))]) (lo' := [(0, (0, a)), (1, (0, b)), (2, (0, c)), (3, (0, d)), (4, (0, e)), (5, (0, f)), (6, (1, (((((((((((((a - 96) * 32) + b) - 96) * 32) + c) - 96) * 32) + d) - 96) * 32) + e) - 96)))]) rfl ?_
          refine r_i2l hX hP rfl (by first | decide | omega) (by first | decide | omega) ?_
          refine r_ex hX hP 1 (pc' := 112) (st' := [(1, (((((((((((((((a - 96) * 32) + b) - 96) * 32) + c) - 96) * 32) + d) - 96) * 32) + e) - 96) * 32) + f))]) (lo' := [(0, (0, a)), (1, (0, b)), (2, (0, c)), (3, (0, d)), (4, (0, e)), (5, (0, f)), (6, (1, (((((((((((((a - 96) * 32) + b) - 96) * 32) + c) - 96) * 32) + d) - 96) * 32) + e) - 96)))]) rfl ?_
          refine r_ldc2 hX hP rfl (v := 96) (tbg sg9 134 rfl rfl) ?_
          refine r_ex hX hP 2 (pc' := 121) (st' := [(1, ((((((((((((((((a - 96) * 32) + b) - 96) * 32) + c) - 96) * 32) + d) - 96) * 32) + e) - 96) * 32) + f) - 96))]) (lo' := [(0, (0, a)), (1, (0, b)), (2, (0, c)), (3, (0, d)), (4, (0, e)), (5, (0, f)), (6, (1, (((((((((((((a - 96) * 32) + b) - 96) * 32) + c) - 96) * 32) + d) - 96) * 32) + e) - 96)))]) rfl ?_
          have hZ31 : ((((((((((((((((a - 96) * 32) + b) - 96) * 32) + c) - 96) * 32) + d) - 96) * 32) + e) - 96) * 32) + f) - 96) = sp6 a b c d e f := by unfold sp6; (repeat (first | rw [if_pos (by first | decide | omega)] | rw [if_neg (by first | decide | omega)])); try rfl
          exact r_retL hX hP rfl rfl (by first | decide | omega) (by first | decide | omega) ⟨rfl, rfl, ((((((((((((((((a - 96) * 32) + b) - 96) * 32) + c) - 96) * 32) + d) - 96) * 32) + e) - 96) * 32) + f) - 96), rfl, (by first | decide | omega), (by first | decide | omega), (by first | decide | omega)⟩
set_option maxRecDepth 100000 in
set_option maxHeartbeats 4000000 in
theorem c_X12_isWordR (E : En) (S : Sg) (G : Gh) (w : Int) (hS : S (Ad E 1) = 1) (w_a : (-9223372036854775808) ≤ w) (w_b : w ≤ 9223372036854775807) (TT : Tp) (nn : Int) (sr : Rg) (rd : RdM E TT nn sr G) : Calls E mX12_isWord [(2, (Ad E 1)), (1, w)] S G 0 0 0 (fun r S' G' => S = S' ∧ G = G' ∧ ∃ z : Int, r = some (0, z) ∧ 0 ≤ z ∧ z ≤ 1 ∧ ((tkK TT nn (sr 0) = 1 ∧ wd TT (tkS TT nn (sr 0)) (tkE TT nn (sr 0)) = w ∧ z = 1) ∨ ((tkK TT nn (sr 0) ≠ 1 ∨ wd TT (tkS TT nn (sr 0)) (tkE TT nn (sr 0)) ≠ w) ∧ z = 0)) ∧ RdM E TT nn (sr) G') := by
  refine calls_by [(0, (2, (Ad E 1))), (1, (1, w))] rfl rfl (Nat.le_of_ble_eq_true rfl) (fun X hX => ?_)
  have hP := hPX12_isWord
  have k1 := srt_or (tkK TT nn (sr 0))
  refine r_ex hX hP 1 (pc' := 1) (st' := [(2, (Ad E 1))]) (lo' := [(0, (2, (Ad E 1))), (1, (1, w))]) rfl ?_
  refine r_getI hX hP rfl fl_12_358 hS (fun sf2 sf2e sf2a sf2b => ?_)
  have k3 := rm_sort rd
  have k3 := sf2e.trans k3
  refine r_ex hX hP 1 (pc' := 5) (st' := [(0, 1), (0, sf2)]) (lo' := [(0, (2, (Ad E 1))), (1, (1, w))]) rfl ?_
  refine r_ic_ne hX hP rfl (tgt := 21) rfl (by first | decide | omega) (by first | decide | omega) (by first | decide | omega) (by first | decide | omega) (fun c4 => ?_) (fun c4 => ?_)
  · skip
    refine r_ex hX hP 1 (pc' := 22) (st' := [(0, 0)]) (lo' := [(0, (2, (Ad E 1))), (1, (1, w))]) rfl ?_
    exact r_retZ hX hP rfl rfl (by first | decide | omega) (by first | decide | omega) (by first | decide | omega) (by first | decide | omega) ⟨rfl, rfl, 0, rfl, (by first | decide | omega), (by first | decide | omega), (by first | decide | omega), rd⟩
  · skip
    refine r_ex hX hP 1 (pc' := 9) (st' := [(2, (Ad E 1))]) (lo' := [(0, (2, (Ad E 1))), (1, (1, w))]) rfl ?_
    refine r_getL hX hP rfl fl_12_364 hS (fun wf5 wf5e wf5a wf5b => ?_)
    have k6 := rm_word rd
    have k6 := k6.imp id (fun w => wf5e.trans w)
    refine r_ex hX hP 1 (pc' := 13) (st' := [(1, w), (1, wf5)]) (lo' := [(0, (2, (Ad E 1))), (1, (1, w))]) rfl ?_
    refine r_lc_ne hX hP rfl rfl (tgt := 21) rfl (by first | decide | omega) (by first | decide | omega) (by first | decide | omega) (by first | decide | omega) (fun c7 => ?_) (fun c7 => ?_)
    · skip
      refine r_ex hX hP 1 (pc' := 22) (st' := [(0, 0)]) (lo' := [(0, (2, (Ad E 1))), (1, (1, w))]) rfl ?_
      exact r_retZ hX hP rfl rfl (by first | decide | omega) (by first | decide | omega) (by first | decide | omega) (by first | decide | omega) ⟨rfl, rfl, 0, rfl, (by first | decide | omega), (by first | decide | omega), (by first | decide | omega), rd⟩
    · skip
      refine r_ex hX hP 2 (pc' := 22) (st' := [(0, 1)]) (lo' := [(0, (2, (Ad E 1))), (1, (1, w))]) rfl ?_
      exact r_retZ hX hP rfl rfl (by first | decide | omega) (by first | decide | omega) (by first | decide | omega) (by first | decide | omega) ⟨rfl, rfl, 1, rfl, (by first | decide | omega), (by first | decide | omega), (by first | decide | omega), rd⟩
set_option maxRecDepth 100000 in
set_option maxHeartbeats 4000000 in
theorem c_X12_isSignR (E : En) (S : Sg) (G : Gh) (c : Int) (hS : S (Ad E 1) = 1) (c_a : 0 ≤ c) (c_b : c ≤ 255) (pre0 : (c = 59 ∨ c = 60 ∨ c = 62 ∨ c = 123 ∨ c = 125)) (TT : Tp) (nn : Int) (sr : Rg) (rd : RdM E TT nn sr G) : Calls E mX12_isSign [(2, (Ad E 1)), (0, c)] S G 0 0 0 (fun r S' G' => S = S' ∧ G = G' ∧ ∃ z : Int, r = some (0, z) ∧ 0 ≤ z ∧ z ≤ 1 ∧ ((tkK TT nn (sr 0) = c ∧ z = 1) ∨ (tkK TT nn (sr 0) ≠ c ∧ z = 0)) ∧ RdM E TT nn (sr) G') := by
  refine calls_by [(0, (2, (Ad E 1))), (1, (0, c))] rfl rfl (Nat.le_of_ble_eq_true rfl) (fun X hX => ?_)
  have hP := hPX12_isSign
  have k1 := srt_or (tkK TT nn (sr 0))
  have k2 := tkK_cs TT nn (sr 0)
  refine r_ex hX hP 1 (pc' := 1) (st' := [(2, (Ad E 1))]) (lo' := [(0, (2, (Ad E 1))), (1, (0, c))]) rfl ?_
  refine r_getI hX hP rfl fl_12_358 hS (fun sf3 sf3e sf3a sf3b => ?_)
  have k4 := rm_sort rd
  have k4 := sf3e.trans k4
  refine r_ex hX hP 1 (pc' := 5) (st' := [(0, 3), (0, sf3)]) (lo' := [(0, (2, (Ad E 1))), (1, (0, c))]) rfl ?_
  refine r_ic_ne hX hP rfl (tgt := 20) rfl (by first | decide | omega) (by first | decide | omega) (by first | decide | omega) (by first | decide | omega) (fun c5 => ?_) (fun c5 => ?_)
  · skip
    refine r_ex hX hP 1 (pc' := 21) (st' := [(0, 0)]) (lo' := [(0, (2, (Ad E 1))), (1, (0, c))]) rfl ?_
    exact r_retZ hX hP rfl rfl (by first | decide | omega) (by first | decide | omega) (by first | decide | omega) (by first | decide | omega) ⟨rfl, rfl, 0, rfl, (by first | decide | omega), (by first | decide | omega), (by first | decide | omega), rd⟩
  · skip
    refine r_ex hX hP 1 (pc' := 9) (st' := [(2, (Ad E 1))]) (lo' := [(0, (2, (Ad E 1))), (1, (0, c))]) rfl ?_
    refine r_getI hX hP rfl fl_12_379 hS (fun nf6 nf6e nf6a nf6b => ?_)
    have k7 := rm_num rd
    have k7 := k7.imp id (fun w => nf6e.trans w)
    have k8 := rm_sgn rd
    have k8 := k8.imp id (fun w => nf6e.trans w)
    refine r_ex hX hP 1 (pc' := 13) (st' := [(0, c), (0, nf6)]) (lo' := [(0, (2, (Ad E 1))), (1, (0, c))]) rfl ?_
    refine r_ic_ne hX hP rfl (tgt := 20) rfl (by first | decide | omega) (by first | decide | omega) (by first | decide | omega) (by first | decide | omega) (fun c9 => ?_) (fun c9 => ?_)
    · skip
      refine r_ex hX hP 1 (pc' := 21) (st' := [(0, 0)]) (lo' := [(0, (2, (Ad E 1))), (1, (0, c))]) rfl ?_
      exact r_retZ hX hP rfl rfl (by first | decide | omega) (by first | decide | omega) (by first | decide | omega) (by first | decide | omega) ⟨rfl, rfl, 0, rfl, (by first | decide | omega), (by first | decide | omega), (by first | decide | omega), rd⟩
    · skip
      refine r_ex hX hP 2 (pc' := 21) (st' := [(0, 1)]) (lo' := [(0, (2, (Ad E 1))), (1, (0, c))]) rfl ?_
      exact r_retZ hX hP rfl rfl (by first | decide | omega) (by first | decide | omega) (by first | decide | omega) (by first | decide | omega) ⟨rfl, rfl, 1, rfl, (by first | decide | omega), (by first | decide | omega), (by first | decide | omega), rd⟩
set_option maxRecDepth 100000 in
set_option maxHeartbeats 4000000 in
theorem c_X12_failR (E : En) (S : Sg) (G : Gh) (w p : Int) (hS : S (Ad E 1) = 1) (w_a : 1 ≤ w) (w_b : w ≤ 6) (p_a : (-2147483648) ≤ p) (p_b : p ≤ 2147483647) (TT : Tp) (nn : Int) (sr : Rg) (rd : RdM E TT nn sr G) (pre0 : p = tkS TT nn (sr 0)) : Calls E mX12_fail [(2, (Ad E 1)), (0, w), (0, p)] S G 0 0 0 (fun r S' G' => S = S' ∧ (∃ G1, hv [80, 81] [] G G1 = G') ∧ r = none ∧ ∃ bad' : Int, bad' = G' 1 (Ad E 1) 80 ∧ 1 ≤ bad' ∧ RdM E TT nn (pFl TT nn w sr) G') := by
  refine calls_by [(0, (2, (Ad E 1))), (1, (0, w)), (2, (0, p))] rfl rfl (Nat.le_of_ble_eq_true rfl) (fun X hX => ?_)
  have hP := hPX12_fail
  refine r_ex hX hP 1 (pc' := 1) (st' := [(2, (Ad E 1))]) (lo' := [(0, (2, (Ad E 1))), (1, (0, w)), (2, (0, p))]) rfl ?_
  refine r_getI hX hP rfl fl_12_382 hS (fun bf1 bf1e bf1a bf1b => ?_)
  have k2 := rm_bad rd
  have k2 := bf1e.trans k2
  refine r_if_le hX hP rfl (tgt := 8) rfl (by first | decide | omega) (by first | decide | omega) (fun c3 => ?_) (fun c3 => ?_)
  · skip
    refine r_ex hX hP 2 (pc' := 10) (st' := [(0, w), (2, (Ad E 1))]) (lo' := [(0, (2, (Ad E 1))), (1, (0, w)), (2, (0, p))]) rfl ?_
    refine r_putIK hX hP rfl fp_12_382 hS (by first | decide | omega) (by first | decide | omega) (fun h4 => ?_)
    refine r_ex hX hP 2 (pc' := 15) (st' := [(0, p), (2, (Ad E 1))]) (lo' := [(0, (2, (Ad E 1))), (1, (0, w)), (2, (0, p))]) rfl ?_
    refine r_putIK hX hP rfl fp_12_385 hS (by first | decide | omega) (by first | decide | omega) (fun h5 => ?_)
    have rd6 : RdM E TT nn (ud (ud sr 1 w) 2 (tkS TT nn (sr 0))) (up (up G 1 (Ad E 1) 80 w) 1 (Ad E 1) 81 p) := rm_mk (rm_tape rd : _) (rm_end rd : _) (rm_at rd : _) (rm_beh rd : _) (rm_sort rd : _) (rm_num rd : _) (rm_sgn rd : _) (rm_word rd : _) (rm_let rd : _) h4.symm (Or.inr (h5.symm.trans (show p = tkS TT nn (sr 0) from by omega))) (Or.inl (show w ≠ 0 from by omega)) (Or.inl (show w ≠ 0 from by omega)) (Or.inl (show w ≠ 0 from by omega)) (Or.inl (show w ≠ 0 from by omega)) (Or.inl (show w ≠ 0 from by omega)) (Or.inl (show w ≠ 0 from by omega)) (Or.inl (show w ≠ 0 from by omega)) (Or.inl (show w ≠ 0 from by omega)) (Or.inl (show w ≠ 0 from by omega)) (Or.inl (show w ≠ 0 from by omega)) (Or.inl (show w ≠ 0 from by omega)) (Or.inl (show w ≠ 0 from by omega)) (Or.inl (show w ≠ 0 from by omega)) (Or.inl (show w ≠ 0 from by omega)) (nmv_keep (rm_nv rd) rfl rfl rfl rfl rfl rfl rfl) (rm_p0 rd : _) (rm_p1 rd : _) (rm_n4 rd : _) (Or.inl (show w ≠ 0 from by omega))
    have hC7 : ud (ud sr 1 w) 2 (tkS TT nn (sr 0)) = pFl TT nn w sr := by
      unfold pFl; (repeat (first | rw [if_pos (by first | decide | omega)] | rw [if_neg (by first | decide | omega)])); try rfl
    have hC71 : (pFl TT nn w sr) 1 = (ud (ud sr 1 w) 2 (tkS TT nn (sr 0))) 1 := congrFun hC7.symm 1
    exact r_retV hX hP rfl rfl (by first | decide | omega) (by first | decide | omega) ⟨rfl, ⟨_, (hq_up (hq_up (hq_refl _ _ _) rfl) rfl).symm⟩, rfl, w, h4, (by first | decide | omega), (rm_cast rd6 hC7)⟩
  · skip
    have hC8 : sr = pFl TT nn w sr := by
      unfold pFl; (repeat (first | rw [if_pos (by first | decide | omega)] | rw [if_neg (by first | decide | omega)])); try rfl
    have hC81 : (pFl TT nn w sr) 1 = (sr) 1 := congrFun hC8.symm 1
    exact r_retV hX hP rfl rfl (by first | decide | omega) (by first | decide | omega) ⟨rfl, ⟨_, (hq_refl _ _ _).symm⟩, rfl, bf1, bf1e, (by first | decide | omega), (rm_cast rd hC8)⟩
set_option maxRecDepth 100000 in
set_option maxHeartbeats 4000000 in
theorem c_X12_wrongR (E : En) (S : Sg) (G : Gh) (hS : S (Ad E 1) = 1) (TT : Tp) (nn : Int) (sr : Rg) (rd : RdM E TT nn sr G) : Calls E mX12_wrong [(2, (Ad E 1))] S G 1 0 0 (fun r S' G' => S = S' ∧ (∃ G1, hv [80, 81] [] G G1 = G') ∧ r = none ∧ ∃ bad' : Int, bad' = G' 1 (Ad E 1) 80 ∧ 1 ≤ bad' ∧ RdM E TT nn (pWr TT nn sr) G') := by
  refine calls_by [(0, (2, (Ad E 1)))] rfl rfl (Nat.le_of_ble_eq_true rfl) (fun X hX => ?_)
  have hP := hPX12_wrong
  have k1 := srt_or (tkK TT nn (sr 0))
  refine r_ex hX hP 2 (pc' := 2) (st' := [(2, (Ad E 1)), (2, (Ad E 1))]) (lo' := [(0, (2, (Ad E 1)))]) rfl ?_
  refine r_getI hX hP rfl fl_12_358 hS (fun sf2 sf2e sf2a sf2b => ?_)
  have k3 := rm_sort rd
  have k3 := sf2e.trans k3
  refine r_ex hX hP 1 (pc' := 6) (st' := [(0, 4), (0, sf2), (2, (Ad E 1))]) (lo' := [(0, (2, (Ad E 1)))]) rfl ?_
  refine r_ic_ne hX hP rfl (tgt := 13) rfl (by first | decide | omega) (by first | decide | omega) (by first | decide | omega) (by first | decide | omega) (fun c4 => ?_) (fun c4 => ?_)
  · skip
    refine r_ex hX hP 2 (pc' := 15) (st' := [(2, (Ad E 1)), (0, 2), (2, (Ad E 1))]) (lo' := [(0, (2, (Ad E 1)))]) rfl ?_
    refine r_getI hX hP rfl fl_12_352 hS (fun af5 af5e af5a af5b => ?_)
    have k6 := rm_at rd
    have k6 := af5e.trans k6
    refine r_callV gd hX hP rfl cv_12_388 hS (d' := 0) (mc' := 0) (ms' := 0) (as' := [(0, 2), (0, af5)]) (st := []) (by first | decide | omega) (by first | decide | omega) (by first | decide | omega) rfl rfl (Nat.le_of_ble_eq_true rfl) (c_X12_failR E S G 2 af5 hS (by first | decide | omega) (by first | decide | omega) (by first | decide | omega) (by first | decide | omega) TT nn sr rd (by first | decide | omega)) ?_
    rintro _ _ _ ⟨rfl, ⟨G7, rfl⟩, rfl, bah8, bah8e, f9, r10⟩
    have k11 := rm_bad r10
    have k11 := bah8e.trans k11
    refine r_peekI hX (tl1 80 rfl (by decide)) hS (fun o12 o12e o12a o12b => ?_)
    obtain rfl : bah8 = o12 := bah8e.trans o12e.symm
    have hC13 : pFl TT nn 2 sr = pWr TT nn sr := by
      unfold pWr; (repeat (first | rw [if_pos (by first | decide | omega)] | rw [if_neg (by first | decide | omega)])); try rfl
    have hC131 : (pWr TT nn sr) 1 = (pFl TT nn 2 sr) 1 := congrFun hC13.symm 1
    exact r_retV hX hP rfl rfl (by first | decide | omega) (by first | decide | omega) ⟨rfl, ⟨_, (hq_call (hq_refl _ _ _) rfl).symm⟩, rfl, bah8, bah8e, (by first | decide | omega), (rm_cast r10 hC13)⟩
  · skip
    refine r_ex hX hP 3 (pc' := 15) (st' := [(2, (Ad E 1)), (0, 1), (2, (Ad E 1))]) (lo' := [(0, (2, (Ad E 1)))]) rfl ?_
    refine r_getI hX hP rfl fl_12_352 hS (fun af14 af14e af14a af14b => ?_)
    have k15 := rm_at rd
    have k15 := af14e.trans k15
    refine r_callV gd hX hP rfl cv_12_388 hS (d' := 0) (mc' := 0) (ms' := 0) (as' := [(0, 1), (0, af14)]) (st := []) (by first | decide | omega) (by first | decide | omega) (by first | decide | omega) rfl rfl (Nat.le_of_ble_eq_true rfl) (c_X12_failR E S G 1 af14 hS (by first | decide | omega) (by first | decide | omega) (by first | decide | omega) (by first | decide | omega) TT nn sr rd (by first | decide | omega)) ?_
    rintro _ _ _ ⟨rfl, ⟨G16, rfl⟩, rfl, bah17, bah17e, f18, r19⟩
    have k20 := rm_bad r19
    have k20 := bah17e.trans k20
    refine r_peekI hX (tl1 80 rfl (by decide)) hS (fun o21 o21e o21a o21b => ?_)
    obtain rfl : bah17 = o21 := bah17e.trans o21e.symm
    have hC22 : pFl TT nn 1 sr = pWr TT nn sr := by
      unfold pWr; (repeat (first | rw [if_pos (by first | decide | omega)] | rw [if_neg (by first | decide | omega)])); try rfl
    have hC221 : (pWr TT nn sr) 1 = (pFl TT nn 1 sr) 1 := congrFun hC22.symm 1
    exact r_retV hX hP rfl rfl (by first | decide | omega) (by first | decide | omega) ⟨rfl, ⟨_, (hq_call (hq_refl _ _ _) rfl).symm⟩, rfl, bah17, bah17e, (by first | decide | omega), (rm_cast r19 hC22)⟩
set_option maxRecDepth 100000 in
set_option maxHeartbeats 4000000 in
theorem c_X12_signR (E : En) (S : Sg) (G : Gh) (c : Int) (hS : S (Ad E 1) = 1) (bad : Int) (bad_e : bad = G 1 (Ad E 1) 80) (c_a : 0 ≤ c) (c_b : c ≤ 255) (pre0 : (c = 59 ∨ c = 123 ∨ c = 125)) (TT : Tp) (nn : Int) (sr : Rg) (rd : RdM E TT nn sr G) : Calls E mX12_sign [(2, (Ad E 1)), (0, c)] S G 2 0 0 (fun r S' G' => S = S' ∧ (∃ G1, hv [80, 81, 82, 83, 84, 85, 86, 87] [] G G1 = G') ∧ r = none ∧ ∃ bad' : Int, bad' = G' 1 (Ad E 1) 80 ∧ (1 ≤ bad → 1 ≤ bad') ∧ RdM E TT nn (pSg TT nn c sr) G') := by
  refine calls_by [(0, (2, (Ad E 1))), (1, (0, c))] rfl rfl (Nat.le_of_ble_eq_true rfl) (fun X hX => ?_)
  have hP := hPX12_sign
  refine r_peekI hX (tl1 80 rfl (by decide)) hS (fun bad_o bad_oe bad_oa bad_ob => ?_)
  obtain rfl : bad = bad_o := bad_e.trans bad_oe.symm
  have k1 := rm_bad rd
  have k1 := bad_e.trans k1
  refine r_ex hX hP 1 (pc' := 1) (st' := [(2, (Ad E 1))]) (lo' := [(0, (2, (Ad E 1))), (1, (0, c))]) rfl ?_
  refine r_getKI hX hP rfl fl_12_382 hS (x := bad) bad_e ?_
  refine r_if_le hX hP rfl (tgt := 8) rfl (by first | decide | omega) (by first | decide | omega) (fun c2 => ?_) (fun c2 => ?_)
  · skip
    refine r_ex hX hP 2 (pc' := 10) (st' := [(0, c), (2, (Ad E 1))]) (lo' := [(0, (2, (Ad E 1))), (1, (0, c))]) rfl ?_
    refine r_callV gd hX hP rfl cv_12_392 hS (d' := 0) (mc' := 0) (ms' := 0) (as' := [(0, c)]) (st := []) (by first | decide | omega) (by first | decide | omega) (by first | decide | omega) rfl rfl (Nat.le_of_ble_eq_true rfl) (c_X12_isSignR E S G c hS (by first | decide | omega) (by first | decide | omega) (by first | decide | omega) TT nn sr rd) ?_
    rintro _ _ _ ⟨rfl, rfl, z3, rfl, z3a, z3b, f4, r5⟩
    refine r_if_ne hX hP rfl (tgt := 23) rfl (by first | decide | omega) (by first | decide | omega) (fun c6 => ?_) (fun c6 => ?_)
    · skip
      refine r_ex hX hP 1 (pc' := 24) (st' := [(2, (Ad E 1))]) (lo' := [(0, (2, (Ad E 1))), (1, (0, c))]) rfl ?_
      refine r_callV gd hX hP rfl cv_12_398 hS (d' := 1) (mc' := 0) (ms' := 0) (as' := []) (st := []) (by first | decide | omega) (by first | decide | omega) (by first | decide | omega) rfl rfl (Nat.le_of_ble_eq_true rfl) (c_X12_nextR E S G  hS TT nn sr r5) ?_
      rintro _ _ _ ⟨rfl, ⟨G7, rfl⟩, rfl, r8⟩
      have hC9 : pAv TT nn sr = pSg TT nn c sr := by
        rw [pSg_n]; (repeat (first | rw [if_pos (by first | decide | omega)] | rw [if_neg (by first | decide | omega)])); try rfl
      have hC91 : (pSg TT nn c sr) 1 = (pAv TT nn sr) 1 := congrFun hC9.symm 1
      exact r_retV hX hP rfl rfl (by first | decide | omega) (by first | decide | omega) ⟨rfl, ⟨_, (hq_call (hq_refl _ _ _) rfl).symm⟩, rfl, bad, bad_e, (by first | decide | omega), (rm_cast r8 hC9)⟩
    · skip
      refine r_ex hX hP 1 (pc' := 17) (st' := [(2, (Ad E 1))]) (lo' := [(0, (2, (Ad E 1))), (1, (0, c))]) rfl ?_
      refine r_callV gd hX hP rfl cv_12_395 hS (d' := 1) (mc' := 0) (ms' := 0) (as' := []) (st := []) (by first | decide | omega) (by first | decide | omega) (by first | decide | omega) rfl rfl (Nat.le_of_ble_eq_true rfl) (c_X12_wrongR E S G  hS TT nn sr r5) ?_
      rintro _ _ _ ⟨rfl, ⟨G10, rfl⟩, rfl, bah11, bah11e, f12, r13⟩
      have k14 := rm_bad r13
      have k14 := bah11e.trans k14
      refine r_peekI hX (tl1 80 rfl (by decide)) hS (fun o15 o15e o15a o15b => ?_)
      obtain rfl : bah11 = o15 := bah11e.trans o15e.symm
      refine r_ex hX hP 1 (pc' := 27) (st' := []) (lo' := [(0, (2, (Ad E 1))), (1, (0, c))]) rfl ?_
      have hC16 : pWr TT nn sr = pSg TT nn c sr := by
        rw [pSg_n]; (repeat (first | rw [if_pos (by first | decide | omega)] | rw [if_neg (by first | decide | omega)])); try rfl
      have hC161 : (pSg TT nn c sr) 1 = (pWr TT nn sr) 1 := congrFun hC16.symm 1
      exact r_retV hX hP rfl rfl (by first | decide | omega) (by first | decide | omega) ⟨rfl, ⟨_, (hq_call (hq_refl _ _ _) rfl).symm⟩, rfl, bah11, bah11e, (by first | decide | omega), (rm_cast r13 hC16)⟩
  · skip
    have hC17 : sr = pSg TT nn c sr := by
      rw [pSg_n]; (repeat (first | rw [if_pos (by first | decide | omega)] | rw [if_neg (by first | decide | omega)])); try rfl
    have hC171 : (pSg TT nn c sr) 1 = (sr) 1 := congrFun hC17.symm 1
    exact r_retV hX hP rfl rfl (by first | decide | omega) (by first | decide | omega) ⟨rfl, ⟨_, (hq_refl _ _ _).symm⟩, rfl, bad, bad_e, (by first | decide | omega), (rm_cast rd hC17)⟩
set_option maxRecDepth 100000 in
set_option maxHeartbeats 4000000 in
theorem c_X12_wordIsR (E : En) (S : Sg) (G : Gh) (w : Int) (hS : S (Ad E 1) = 1) (bad : Int) (bad_e : bad = G 1 (Ad E 1) 80) (w_a : (-9223372036854775808) ≤ w) (w_b : w ≤ 9223372036854775807) (TT : Tp) (nn : Int) (sr : Rg) (rd : RdM E TT nn sr G) (kk : Nat) (hw : w = wW kk) (hk : kk < 20) : Calls E mX12_wordIs [(2, (Ad E 1)), (1, w)] S G 2 0 0 (fun r S' G' => S = S' ∧ (∃ G1, hv [80, 81, 82, 83, 84, 85, 86, 87] [] G G1 = G') ∧ r = none ∧ ∃ bad' : Int, bad' = G' 1 (Ad E 1) 80 ∧ (1 ≤ bad → 1 ≤ bad') ∧ RdM E TT nn (pKd TT nn kk sr) G') := by
  refine calls_by [(0, (2, (Ad E 1))), (1, (1, w))] rfl rfl (Nat.le_of_ble_eq_true rfl) (fun X hX => ?_)
  have hP := hPX12_wordIs
  refine r_peekI hX (tl1 80 rfl (by decide)) hS (fun bad_o bad_oe bad_oa bad_ob => ?_)
  obtain rfl : bad = bad_o := bad_e.trans bad_oe.symm
  have k1 := rm_bad rd
  have k1 := bad_e.trans k1
  have k2 := wl_orW TT nn (sr 0) hk
  have k3 := hw
  refine r_ex hX hP 1 (pc' := 1) (st' := [(2, (Ad E 1))]) (lo' := [(0, (2, (Ad E 1))), (1, (1, w))]) rfl ?_
  refine r_getKI hX hP rfl fl_12_382 hS (x := bad) bad_e ?_
  refine r_if_le hX hP rfl (tgt := 8) rfl (by first | decide | omega) (by first | decide | omega) (fun c4 => ?_) (fun c4 => ?_)
  · skip
    refine r_ex hX hP 2 (pc' := 10) (st' := [(1, w), (2, (Ad E 1))]) (lo' := [(0, (2, (Ad E 1))), (1, (1, w))]) rfl ?_
    refine r_callV gd hX hP rfl cv_12_401 hS (d' := 0) (mc' := 0) (ms' := 0) (as' := [(1, w)]) (st := []) (by first | decide | omega) (by first | decide | omega) (by first | decide | omega) rfl rfl (Nat.le_of_ble_eq_true rfl) (c_X12_isWordR E S G w hS (by first | decide | omega) (by first | decide | omega) TT nn sr rd) ?_
    rintro _ _ _ ⟨rfl, rfl, z5, rfl, z5a, z5b, f6, r7⟩
    refine r_if_ne hX hP rfl (tgt := 23) rfl (by first | decide | omega) (by first | decide | omega) (fun c8 => ?_) (fun c8 => ?_)
    · skip
      refine r_ex hX hP 1 (pc' := 24) (st' := [(2, (Ad E 1))]) (lo' := [(0, (2, (Ad E 1))), (1, (1, w))]) rfl ?_
      refine r_callV gd hX hP rfl cv_12_398 hS (d' := 1) (mc' := 0) (ms' := 0) (as' := []) (st := []) (by first | decide | omega) (by first | decide | omega) (by first | decide | omega) rfl rfl (Nat.le_of_ble_eq_true rfl) (c_X12_nextR E S G  hS TT nn sr r7) ?_
      rintro _ _ _ ⟨rfl, ⟨G9, rfl⟩, rfl, r10⟩
      have hC11 : pAv TT nn sr = pKd TT nn kk sr := by
        rw [pKd_n]; (repeat (first | rw [if_pos (by first | decide | omega)] | rw [if_neg (by first | decide | omega)])); try rfl
      have hC111 : (pKd TT nn kk sr) 1 = (pAv TT nn sr) 1 := congrFun hC11.symm 1
      exact r_retV hX hP rfl rfl (by first | decide | omega) (by first | decide | omega) ⟨rfl, ⟨_, (hq_call (hq_refl _ _ _) rfl).symm⟩, rfl, bad, bad_e, (by first | decide | omega), (rm_cast r10 hC11)⟩
    · skip
      refine r_ex hX hP 1 (pc' := 17) (st' := [(2, (Ad E 1))]) (lo' := [(0, (2, (Ad E 1))), (1, (1, w))]) rfl ?_
      refine r_callV gd hX hP rfl cv_12_395 hS (d' := 1) (mc' := 0) (ms' := 0) (as' := []) (st := []) (by first | decide | omega) (by first | decide | omega) (by first | decide | omega) rfl rfl (Nat.le_of_ble_eq_true rfl) (c_X12_wrongR E S G  hS TT nn sr r7) ?_
      rintro _ _ _ ⟨rfl, ⟨G12, rfl⟩, rfl, bah13, bah13e, f14, r15⟩
      have k16 := rm_bad r15
      have k16 := bah13e.trans k16
      refine r_peekI hX (tl1 80 rfl (by decide)) hS (fun o17 o17e o17a o17b => ?_)
      obtain rfl : bah13 = o17 := bah13e.trans o17e.symm
      refine r_ex hX hP 1 (pc' := 27) (st' := []) (lo' := [(0, (2, (Ad E 1))), (1, (1, w))]) rfl ?_
      have hC18 : pWr TT nn sr = pKd TT nn kk sr := by
        rw [pKd_n]; (repeat (first | rw [if_pos (by first | decide | omega)] | rw [if_neg (by first | decide | omega)])); try rfl
      have hC181 : (pKd TT nn kk sr) 1 = (pWr TT nn sr) 1 := congrFun hC18.symm 1
      exact r_retV hX hP rfl rfl (by first | decide | omega) (by first | decide | omega) ⟨rfl, ⟨_, (hq_call (hq_refl _ _ _) rfl).symm⟩, rfl, bah13, bah13e, (by first | decide | omega), (rm_cast r15 hC18)⟩
  · skip
    have hC19 : sr = pKd TT nn kk sr := by
      rw [pKd_n]; (repeat (first | rw [if_pos (by first | decide | omega)] | rw [if_neg (by first | decide | omega)])); try rfl
    have hC191 : (pKd TT nn kk sr) 1 = (sr) 1 := congrFun hC19.symm 1
    exact r_retV hX hP rfl rfl (by first | decide | omega) (by first | decide | omega) ⟨rfl, ⟨_, (hq_refl _ _ _).symm⟩, rfl, bad, bad_e, (by first | decide | omega), (rm_cast rd hC19)⟩
set_option maxRecDepth 100000 in
set_option maxHeartbeats 4000000 in
theorem c_X12_countR (E : En) (S : Sg) (G : Gh) (low top : Int) (hS : S (Ad E 1) = 1) (bad : Int) (bad_e : bad = G 1 (Ad E 1) 80) (low_a : (-2147483648) ≤ low) (low_b : low ≤ 2147483647) (top_a : (-2147483648) ≤ top) (top_b : top ≤ 2147483647) (TT : Tp) (nn : Int) (sr : Rg) (rd : RdM E TT nn sr G) : Calls E mX12_count [(2, (Ad E 1)), (0, low), (0, top)] S G 2 0 0 (fun r S' G' => S = S' ∧ (∃ G1, hv [80, 81, 82, 83, 84, 85, 86, 87] [] G G1 = G') ∧ ∃ z : Int, r = some (0, z) ∧ ∃ bad' : Int, bad' = G' 1 (Ad E 1) 80 ∧ (-2147483648) ≤ z ∧ z ≤ 2147483647 ∧ ((1 ≤ bad' ∧ z = 0) ∨ (bad' = 0 ∧ bad = 0 ∧ z = tkV TT nn (sr 0) ∧ low ≤ z ∧ z ≤ top)) ∧ RdM E TT nn (pNb TT nn low top sr) G') := by
  refine calls_by [(0, (2, (Ad E 1))), (1, (0, low)), (2, (0, top))] rfl rfl (Nat.le_of_ble_eq_true rfl) (fun X hX => ?_)
  have hP := hPX12_count
  refine r_peekI hX (tl1 80 rfl (by decide)) hS (fun bad_o bad_oe bad_oa bad_ob => ?_)
  obtain rfl : bad = bad_o := bad_e.trans bad_oe.symm
  have k1 := rm_bad rd
  have k1 := bad_e.trans k1
  have k2 := srt_or (tkK TT nn (sr 0))
  refine r_ex hX hP 1 (pc' := 1) (st' := [(2, (Ad E 1))]) (lo' := [(0, (2, (Ad E 1))), (1, (0, low)), (2, (0, top))]) rfl ?_
  refine r_getKI hX hP rfl fl_12_382 hS (x := bad) bad_e ?_
  refine r_if_le hX hP rfl (tgt := 9) rfl (by first | decide | omega) (by first | decide | omega) (fun c3 => ?_) (fun c3 => ?_)
  · skip
    refine r_ex hX hP 1 (pc' := 10) (st' := [(2, (Ad E 1))]) (lo' := [(0, (2, (Ad E 1))), (1, (0, low)), (2, (0, top))]) rfl ?_
    refine r_getI hX hP rfl fl_12_358 hS (fun sf4 sf4e sf4a sf4b => ?_)
    have k5 := rm_sort rd
    have k5 := sf4e.trans k5
    refine r_ex hX hP 1 (pc' := 14) (st' := [(0, 2), (0, sf4)]) (lo' := [(0, (2, (Ad E 1))), (1, (0, low)), (2, (0, top))]) rfl ?_
    refine r_ic_eq hX hP rfl (tgt := 23) rfl (by first | decide | omega) (by first | decide | omega) (by first | decide | omega) (by first | decide | omega) (fun c6 => ?_) (fun c6 => ?_)
    · skip
      refine r_ex hX hP 1 (pc' := 24) (st' := [(2, (Ad E 1))]) (lo' := [(0, (2, (Ad E 1))), (1, (0, low)), (2, (0, top))]) rfl ?_
      refine r_getI hX hP rfl fl_12_379 hS (fun nf7 nf7e nf7a nf7b => ?_)
      have k8 := rm_num rd
      have k8 := k8.imp id (fun w => nf7e.trans w)
      have k9 := rm_sgn rd
      have k9 := k9.imp id (fun w => nf7e.trans w)
      refine r_ex hX hP 2 (pc' := 29) (st' := [(0, top), (0, low), (0, nf7)]) (lo' := [(0, (2, (Ad E 1))), (1, (0, low)), (2, (0, top))]) rfl ?_
      refine r_callS gd hX hP rfl cs_12_310 (d' := 0) (mc' := 0) (ms' := 0) (as' := [(0, nf7), (0, low), (0, top)]) (st := []) (by first | decide | omega) (by first | decide | omega) (by first | decide | omega) rfl rfl (Nat.le_of_ble_eq_true rfl) (c_X12_isIn E S G nf7 low top (by first | decide | omega) (by first | decide | omega) (by first | decide | omega) (by first | decide | omega) (by first | decide | omega) (by first | decide | omega)) ?_
      rintro _ _ _ ⟨rfl, rfl, z10, rfl, (⟨rfl, f11, f12⟩ | ⟨rfl, f13⟩)⟩
      · skip
        refine r_if_ne hX hP rfl (tgt := 46) rfl (by first | decide | omega) (by first | decide | omega) (fun c14 => ?_) (fun c14 => ?_)
        · skip
          refine r_ex hX hP 1 (pc' := 47) (st' := [(2, (Ad E 1))]) (lo' := [(0, (2, (Ad E 1))), (1, (0, low)), (2, (0, top))]) rfl ?_
          refine r_getKI hX hP rfl fl_12_379 hS (x := nf7) nf7e ?_
          refine r_ex hX hP 2 (pc' := 52) (st' := [(2, (Ad E 1))]) (lo' := [(0, (2, (Ad E 1))), (1, (0, low)), (2, (0, top)), (3, (0, nf7))]) rfl ?_
          refine r_callV gd hX hP rfl cv_12_398 hS (d' := 1) (mc' := 0) (ms' := 0) (as' := []) (st := []) (by first | decide | omega) (by first | decide | omega) (by first | decide | omega) rfl rfl (Nat.le_of_ble_eq_true rfl) (c_X12_nextR E S G  hS TT nn sr rd) ?_
          rintro _ _ _ ⟨rfl, ⟨G15, rfl⟩, rfl, r16⟩
          refine r_ex hX hP 1 (pc' := 56) (st' := [(0, nf7)]) (lo' := [(0, (2, (Ad E 1))), (1, (0, low)), (2, (0, top)), (3, (0, nf7))]) rfl ?_
          have hC17 : pAv TT nn sr = pNb TT nn low top sr := by
            rw [pNb_n]; (repeat (first | rw [if_pos (by first | decide | omega)] | rw [if_neg (by first | decide | omega)])); try (first | rfl | (split <;> (first | rfl | ((repeat (first | rw [if_pos (by first | decide | omega)] | rw [if_neg (by first | decide | omega)])); try rfl))))
          have hC171 : (pNb TT nn low top sr) 1 = (pAv TT nn sr) 1 := congrFun hC17.symm 1
          exact r_retI hX hP rfl rfl (by first | decide | omega) (by first | decide | omega) ⟨rfl, ⟨_, (hq_call (hq_refl _ _ _) rfl).symm⟩, nf7, rfl, bad, bad_e, (by first | decide | omega), (by first | decide | omega), (by first | decide | omega), (rm_cast r16 hC17)⟩
        · skip
          exfalso; omega
      · skip
        refine r_if_ne hX hP rfl (tgt := 46) rfl (by first | decide | omega) (by first | decide | omega) (fun c18 => ?_) (fun c18 => ?_)
        · skip
          exfalso; omega
        · skip
          refine r_ex hX hP 3 (pc' := 38) (st' := [(2, (Ad E 1)), (0, 4), (2, (Ad E 1))]) (lo' := [(0, (2, (Ad E 1))), (1, (0, low)), (2, (0, top))]) rfl ?_
          refine r_getI hX hP rfl fl_12_352 hS (fun af19 af19e af19a af19b => ?_)
          have k20 := rm_at rd
          have k20 := af19e.trans k20
          refine r_callV gd hX hP rfl cv_12_388 hS (d' := 0) (mc' := 0) (ms' := 0) (as' := [(0, 4), (0, af19)]) (st := []) (by first | decide | omega) (by first | decide | omega) (by first | decide | omega) rfl rfl (Nat.le_of_ble_eq_true rfl) (c_X12_failR E S G 4 af19 hS (by first | decide | omega) (by first | decide | omega) (by first | decide | omega) (by first | decide | omega) TT nn sr rd (by first | decide | omega)) ?_
          rintro _ _ _ ⟨rfl, ⟨G21, rfl⟩, rfl, bah22, bah22e, f23, r24⟩
          have k25 := rm_bad r24
          have k25 := bah22e.trans k25
          refine r_peekI hX (tl1 80 rfl (by decide)) hS (fun o26 o26e o26a o26b => ?_)
          obtain rfl : bah22 = o26 := bah22e.trans o26e.symm
          refine r_ex hX hP 1 (pc' := 45) (st' := [(0, 0)]) (lo' := [(0, (2, (Ad E 1))), (1, (0, low)), (2, (0, top))]) rfl ?_
          have hC27 : pFl TT nn 4 sr = pNb TT nn low top sr := by
            rw [pNb_n]; (repeat (first | rw [if_pos (by first | decide | omega)] | rw [if_neg (by first | decide | omega)])); try (first | rfl | (split <;> (first | rfl | ((repeat (first | rw [if_pos (by first | decide | omega)] | rw [if_neg (by first | decide | omega)])); try rfl))))
          have hC271 : (pNb TT nn low top sr) 1 = (pFl TT nn 4 sr) 1 := congrFun hC27.symm 1
          exact r_retI hX hP rfl rfl (by first | decide | omega) (by first | decide | omega) ⟨rfl, ⟨_, (hq_call (hq_refl _ _ _) rfl).symm⟩, 0, rfl, bah22, bah22e, (by first | decide | omega), (by first | decide | omega), (by first | decide | omega), (rm_cast r24 hC27)⟩
    · skip
      refine r_ex hX hP 1 (pc' := 18) (st' := [(2, (Ad E 1))]) (lo' := [(0, (2, (Ad E 1))), (1, (0, low)), (2, (0, top))]) rfl ?_
      refine r_callV gd hX hP rfl cv_12_395 hS (d' := 1) (mc' := 0) (ms' := 0) (as' := []) (st := []) (by first | decide | omega) (by first | decide | omega) (by first | decide | omega) rfl rfl (Nat.le_of_ble_eq_true rfl) (c_X12_wrongR E S G  hS TT nn sr rd) ?_
      rintro _ _ _ ⟨rfl, ⟨G28, rfl⟩, rfl, bah29, bah29e, f30, r31⟩
      have k32 := rm_bad r31
      have k32 := bah29e.trans k32
      refine r_peekI hX (tl1 80 rfl (by decide)) hS (fun o33 o33e o33a o33b => ?_)
      obtain rfl : bah29 = o33 := bah29e.trans o33e.symm
      refine r_ex hX hP 1 (pc' := 22) (st' := [(0, 0)]) (lo' := [(0, (2, (Ad E 1))), (1, (0, low)), (2, (0, top))]) rfl ?_
      have hC34 : pWr TT nn sr = pNb TT nn low top sr := by
        rw [pNb_n]; (repeat (first | rw [if_pos (by first | decide | omega)] | rw [if_neg (by first | decide | omega)])); try (first | rfl | (split <;> (first | rfl | ((repeat (first | rw [if_pos (by first | decide | omega)] | rw [if_neg (by first | decide | omega)])); try rfl))))
      have hC341 : (pNb TT nn low top sr) 1 = (pWr TT nn sr) 1 := congrFun hC34.symm 1
      exact r_retI hX hP rfl rfl (by first | decide | omega) (by first | decide | omega) ⟨rfl, ⟨_, (hq_call (hq_refl _ _ _) rfl).symm⟩, 0, rfl, bah29, bah29e, (by first | decide | omega), (by first | decide | omega), (by first | decide | omega), (rm_cast r31 hC34)⟩
  · skip
    refine r_ex hX hP 1 (pc' := 8) (st' := [(0, 0)]) (lo' := [(0, (2, (Ad E 1))), (1, (0, low)), (2, (0, top))]) rfl ?_
    have hC35 : sr = pNb TT nn low top sr := by
      rw [pNb_n]; (repeat (first | rw [if_pos (by first | decide | omega)] | rw [if_neg (by first | decide | omega)])); try (first | rfl | (split <;> (first | rfl | ((repeat (first | rw [if_pos (by first | decide | omega)] | rw [if_neg (by first | decide | omega)])); try rfl))))
    have hC351 : (pNb TT nn low top sr) 1 = (sr) 1 := congrFun hC35.symm 1
    exact r_retI hX hP rfl rfl (by first | decide | omega) (by first | decide | omega) ⟨rfl, ⟨_, (hq_refl _ _ _).symm⟩, 0, rfl, bad, bad_e, (by first | decide | omega), (by first | decide | omega), (by first | decide | omega), (rm_cast rd hC35)⟩
set_option maxRecDepth 100000 in
set_option maxHeartbeats 4000000 in
theorem c_X12_isFractionR (E : En) (S : Sg) (G : Gh) (hS : S (Ad E 1) = 1) (TT : Tp) (nn : Int) (sr : Rg) (rd : RdM E TT nn sr G) : Calls E mX12_isFraction [(2, (Ad E 1))] S G 1 0 0 (fun r S' G' => S = S' ∧ G = G' ∧ ∃ z : Int, r = some (0, z) ∧ 0 ≤ z ∧ z ≤ 1 ∧ z = wq TT nn (sr 0) 6 ∧ RdM E TT nn (sr) G') := by
  refine calls_by [(0, (2, (Ad E 1)))] rfl rfl (Nat.le_of_ble_eq_true rfl) (fun X hX => ?_)
  have hP := hPX12_isFraction
  refine r_ex hX hP 7 (pc' := 13) (st' := [(0, 105), (0, 116), (0, 99), (0, 97), (0, 114), (0, 102), (2, (Ad E 1))]) (lo' := [(0, (2, (Ad E 1)))]) rfl ?_
  refine r_callS gd hX hP rfl cs_12_405 (d' := 0) (mc' := 0) (ms' := 0) (as' := [(0, 102), (0, 114), (0, 97), (0, 99), (0, 116), (0, 105)]) (st := [(2, (Ad E 1))]) (by first | decide | omega) (by first | decide | omega) (by first | decide | omega) rfl rfl (Nat.le_of_ble_eq_true rfl) (c_X12_spelledR E S G 102 114 97 99 116 105 (by first | decide | omega) (by first | decide | omega) (by first | decide | omega) (by first | decide | omega) (by first | decide | omega) (by first | decide | omega) (by first | decide | omega) (by first | decide | omega) (by first | decide | omega) (by first | decide | omega) (by first | decide | omega) (by first | decide | omega)) ?_
  rintro _ _ _ ⟨rfl, rfl, z1, rfl, z1a, z1b, f2⟩
  have k3 := (show sp6 102 114 97 99 116 105 = 220237449 from by decide)
  refine r_ldc2 hX hP rfl (v := 1024) (tbg sg9 166 rfl rfl) ?_
  refine r_ex hX hP 1 (pc' := 20) (st' := [(1, (z1 * 1024)), (2, (Ad E 1))]) (lo' := [(0, (2, (Ad E 1)))]) rfl ?_
  refine r_ldc2 hX hP rfl (v := 480) (tbg sg9 167 rfl rfl) ?_
  refine r_ex hX hP 1 (pc' := 24) (st' := [(1, ((z1 * 1024) + 480)), (2, (Ad E 1))]) (lo' := [(0, (2, (Ad E 1)))]) rfl ?_
  refine r_ldc2 hX hP rfl (v := 110) (tbg sg9 168 rfl rfl) ?_
  refine r_ex hX hP 1 (pc' := 28) (st' := [(1, (((z1 * 1024) + 480) + 110)), (2, (Ad E 1))]) (lo' := [(0, (2, (Ad E 1)))]) rfl ?_
  refine r_ldc2 hX hP rfl (v := 96) (tbg sg9 134 rfl rfl) ?_
  refine r_ex hX hP 1 (pc' := 32) (st' := [(1, ((((z1 * 1024) + 480) + 110) - 96)), (2, (Ad E 1))]) (lo' := [(0, (2, (Ad E 1)))]) rfl ?_
  refine r_callV gd hX hP rfl cv_12_401 hS (d' := 0) (mc' := 0) (ms' := 0) (as' := [(1, ((((z1 * 1024) + 480) + 110) - 96))]) (st := []) (by first | decide | omega) (by first | decide | omega) (by first | decide | omega) rfl rfl (Nat.le_of_ble_eq_true rfl) (c_X12_isWordR E S G ((((z1 * 1024) + 480) + 110) - 96) hS (by first | decide | omega) (by first | decide | omega) TT nn sr rd) ?_
  rintro _ _ _ ⟨rfl, rfl, z4, rfl, z4a, z4b, f5, r6⟩
  have k7 := isw_eq (T := TT) (n := nn) (p := sr 0) (k := 6) (lit := 225523148270) (by decide) (by decide +kernel) (show ((((z1 * 1024) + 480) + 110) - 96) = 225523148270 from by omega) f5
  clear f5
  have k8 := wq_tk TT nn (sr 0) 6
  exact r_retZ hX hP rfl rfl (by first | decide | omega) (by first | decide | omega) (by first | decide | omega) (by first | decide | omega) ⟨rfl, rfl, z4, rfl, (by first | decide | omega), (by first | decide | omega), (by first | decide | omega), r6⟩
