theorem co_J0_coder_7d493 : Co mJ0_coder_7d493 0 := ⟨(tbg sg4 59 rfl rfl), (tbg sg1 18 rfl rfl), by decide, by decide, by decide +kernel, by decide⟩
theorem ct_J0_335 : Ct RJ0 335 mJ0_coder_7d493 0 := ⟨co_J0_coder_7d493, (tbg sg4 56 rfl rfl), (tbg sg4 57 rfl rfl), (tbg sg4 58 rfl rfl)⟩
theorem cs_J0_1059 : Cs RJ0 1059 mJ3_checkIndex_8e157 3 := ⟨co_J3_checkIndex_8e157, (tbg sg4 78 rfl rfl), (tbg sg4 79 rfl rfl)⟩
theorem co_J0_checkIndex_df160 : Co mJ0_checkIndex_df160 2 := ⟨(tbg sg4 75 rfl rfl), (tbg sg1 18 rfl rfl), by decide, by decide, by decide +kernel, by decide⟩
theorem cs_J1_9 : Cs RJ1 9 mJ0_checkIndex_df160 2 := ⟨co_J0_checkIndex_df160, (tbg sg4 73 rfl rfl), (tbg sg4 74 rfl rfl)⟩
theorem co_J0_isLatin1_aae02 : Co mJ0_isLatin1_aae02 0 := ⟨(tbg sg4 69 rfl rfl), (tbg sg1 18 rfl rfl), by decide, by decide, by decide +kernel, by decide⟩
theorem ct_J0_492 : Ct RJ0 492 mJ0_isLatin1_aae02 0 := ⟨co_J0_isLatin1_aae02, (tbg sg4 66 rfl rfl), (tbg sg4 67 rfl rfl), (tbg sg4 68 rfl rfl)⟩
theorem co_J1_charAt_3b067 : Co mJ1_charAt_3b067 2 := ⟨(tbg sg4 72 rfl rfl), (tbg sg1 19 rfl rfl), by decide, by decide, by decide +kernel, by decide⟩
theorem cs_J0_495 : Cs RJ0 495 mJ1_charAt_3b067 2 := ⟨co_J1_charAt_3b067, (tbg sg4 70 rfl rfl), (tbg sg4 71 rfl rfl)⟩
set_option maxRecDepth 100000 in
set_option maxHeartbeats 4000000 in
theorem c_J0_coder_7d493 (E : En) (S : Sg) (G : Gh) (this : Nat) (this_h : this < 20) : Calls E mJ0_coder_7d493 [(2, (sK E this))] S G 0 0 0 (fun r S' G' => S = S' ∧ G = G' ∧ ∃ z : Int, r = some (0, z) ∧ (z = 0)) := by
  refine calls_by [(0, (2, (sK E this)))] rfl rfl (Nat.le_of_ble_eq_true rfl) (fun X hX => ?_)
  have hP := hPJ0_coder_7d493
  have this_l := ksl8 this this_h
  refine r_getsC hX hP rfl (tbg sg4 60 rfl rfl) ?_
  refine r_if_eq hX hP rfl (tgt := 13) rfl (by first | decide | omega) (by first | decide | omega) (fun c1 => ?_) (fun c1 => ?_)
  · skip
    exfalso; omega
  · skip
    refine r_ex hX hP 1 (pc' := 7) (st' := [(2, (sK E this))]) (lo' := [(0, (2, (sK E this)))]) rfl ?_
    refine r_sgetc hX hP rfl this_h (tbg sg11 58 rfl rfl) ?_
    refine r_ex hX hP 1 (pc' := 14) (st' := [(0, 0)]) (lo' := [(0, (2, (sK E this)))]) rfl ?_
    exact r_retB hX hP rfl rfl (by first | decide | omega) (by first | decide | omega) (by first | decide | omega) (by first | decide | omega) ⟨rfl, rfl, 0, rfl, (by first | decide | omega)⟩
set_option maxRecDepth 100000 in
set_option maxHeartbeats 4000000 in
theorem c_J0_isLatin1_aae02 (E : En) (S : Sg) (G : Gh) (this : Nat) (this_h : this < 20) : Calls E mJ0_isLatin1_aae02 [(2, (sK E this))] S G 0 0 0 (fun r S' G' => S = S' ∧ G = G' ∧ ∃ z : Int, r = some (0, z) ∧ (z = 1)) := by
  refine calls_by [(0, (2, (sK E this)))] rfl rfl (Nat.le_of_ble_eq_true rfl) (fun X hX => ?_)
  have hP := hPJ0_isLatin1_aae02
  have this_l := ksl8 this this_h
  refine r_getsC hX hP rfl (tbg sg4 60 rfl rfl) ?_
  refine r_if_eq hX hP rfl (tgt := 17) rfl (by first | decide | omega) (by first | decide | omega) (fun c1 => ?_) (fun c1 => ?_)
  · skip
    exfalso; omega
  · skip
    refine r_ex hX hP 1 (pc' := 7) (st' := [(2, (sK E this))]) (lo' := [(0, (2, (sK E this)))]) rfl ?_
    refine r_sgetc hX hP rfl this_h (tbg sg11 58 rfl rfl) ?_
    refine r_if_ne hX hP rfl (tgt := 17) rfl (by first | decide | omega) (by first | decide | omega) (fun c2 => ?_) (fun c2 => ?_)
    · skip
      exfalso; omega
    · skip
      refine r_ex hX hP 2 (pc' := 18) (st' := [(0, 1)]) (lo' := [(0, (2, (sK E this)))]) rfl ?_
      exact r_retZ hX hP rfl rfl (by first | decide | omega) (by first | decide | omega) (by first | decide | omega) (by first | decide | omega) ⟨rfl, rfl, 1, rfl, (by first | decide | omega)⟩
set_option maxRecDepth 100000 in
set_option maxHeartbeats 4000000 in
theorem c_J0_length_8abf5 (E : En) (S : Sg) (G : Gh) (this : Nat) (this_h : this < 20) : Calls E mJ0_length_8abf5 [(2, (sK E this))] S G 1 0 0 (fun r S' G' => S = S' ∧ G = G' ∧ ∃ z : Int, r = some (0, z) ∧ 0 ≤ z ∧ z ≤ 8 ∧ z = ((ksL.getD this 0 : Nat) : Int)) := by
  refine calls_by [(0, (2, (sK E this)))] rfl rfl (Nat.le_of_ble_eq_true rfl) (fun X hX => ?_)
  have hP := hPJ0_length_8abf5
  have this_l := ksl8 this this_h
  refine r_ex hX hP 1 (pc' := 1) (st' := [(2, (sK E this))]) (lo' := [(0, (2, (sK E this)))]) rfl ?_
  refine r_sget hX hP rfl this_h (tbg sg11 57 rfl rfl) ?_
  refine r_salen hX hP rfl this_h ?_
  refine r_ex hX hP 1 (pc' := 6) (st' := [(2, (sK E this)), (0, ((ksL.getD this 0 : Nat) : Int))]) (lo' := [(0, (2, (sK E this)))]) rfl ?_
  refine r_callT gd hX hP rfl ct_J0_335 this_h (d' := 0) (mc' := 0) (ms' := 0) (as' := []) (st := [(0, ((ksL.getD this 0 : Nat) : Int))]) (by first | decide | omega) (by first | decide | omega) (by first | decide | omega) rfl rfl (Nat.le_of_ble_eq_true rfl) (c_J0_coder_7d493 E S G this  this_h) ?_
  rintro _ _ _ ⟨rfl, rfl, z1, rfl, rfl⟩
  refine r_ishr hX hP rfl (fun b2 b2a b2b b2e => ?_)
  have b2d := shr0 b2e (by first | decide | omega) (by first | decide | omega) (by first | decide | omega) (by first | decide | omega)
  exact r_retI hX hP rfl rfl (by first | decide | omega) (by first | decide | omega) ⟨rfl, rfl, b2, rfl, (by first | decide | omega), (by first | decide | omega), (by first | decide | omega)⟩
set_option maxRecDepth 100000 in
set_option maxHeartbeats 4000000 in
theorem c_J0_checkIndex_df160 (E : En) (S : Sg) (G : Gh) (index : Int) (length : Int) (index_a : 0 ≤ index) (index_b : index ≤ 2147483647) (length_a : (-2147483648) ≤ length) (length_b : length ≤ 2147483647) (pre0 : index + 1 ≤ length) : Calls E mJ0_checkIndex_df160 [(0, index), (0, length)] S G 1 0 0 (fun r S' G' => S = S' ∧ G = G' ∧ r = none ∧ True) := by
  refine calls_by [(0, (0, index)), (1, (0, length))] rfl rfl (Nat.le_of_ble_eq_true rfl) (fun X hX => ?_)
  have hP := hPJ0_checkIndex_df160
  refine r_ex hX hP 2 (pc' := 2) (st' := [(0, length), (0, index)]) (lo' := [(0, (0, index)), (1, (0, length))]) rfl ?_
  refine r_getsF hX hP rfl (tbg sg4 76 rfl rfl) (fun f1 => ?_)
  refine r_callS gd hX hP rfl cs_J0_1059 (d' := 0) (mc' := 0) (ms' := 0) (as' := [(0, index), (0, length), (2, f1)]) (st := []) (by first | decide | omega) (by first | decide | omega) (by first | decide | omega) rfl rfl (Nat.le_of_ble_eq_true rfl) (c_J3_checkIndex_8e157 E S G index length f1 (by first | decide | omega) (by first | decide | omega) (by first | decide | omega) (by first | decide | omega) (by first | decide | omega)) ?_
  rintro _ _ _ ⟨rfl, rfl, z2, rfl, z2a, z2b⟩
  refine r_ex hX hP 1 (pc' := 9) (st' := []) (lo' := [(0, (0, index)), (1, (0, length))]) rfl ?_
  exact r_retV hX hP rfl rfl (by first | decide | omega) (by first | decide | omega) ⟨rfl, rfl, rfl, trivial⟩
