set_option maxRecDepth 100000 in
set_option maxHeartbeats 4000000 in
theorem c_X12_lookR (E : En) (S : Sg) (G : Gh) (k : Int) (hS : S (Ad E 1) = 1) (textEnd : Int) (textEnd_e : textEnd = G 1 (Ad E 1) 77) (k_a : 0 ≤ k) (k_b : k ≤ 400) (TT : Tp) (nn : Int) (tpT : (∀ i : Int, 0 ≤ i → i < nn → G 61 (Ad E 61) i % 256 = TT i)) (te : textEnd = nn) : Calls E mX12_look [(2, (Ad E 1)), (0, k)] S G 0 0 0 (fun r S' G' => S = S' ∧ G = G' ∧ ∃ z : Int, r = some (0, z) ∧ ((0 ≤ z ∧ z ≤ 255 ∧ k < textEnd ∧ z = TT k) ∨ (z = 0 ∧ textEnd ≤ k))) := by
  refine calls_by [(0, (2, (Ad E 1))), (1, (0, k))] rfl rfl (Nat.le_of_ble_eq_true rfl) (fun X hX => ?_)
  have hP := hPX12_look
  refine r_peekI hX (tl1 77 rfl (by decide)) hS (fun textEnd_o textEnd_oe textEnd_oa textEnd_ob => ?_)
  obtain rfl : textEnd = textEnd_o := textEnd_e.trans textEnd_oe.symm
  refine r_ex hX hP 2 (pc' := 2) (st' := [(2, (Ad E 1)), (0, k)]) (lo' := [(0, (2, (Ad E 1))), (1, (0, k))]) rfl ?_
  refine r_getKI hX hP rfl fl_12_346 hS (x := textEnd) textEnd_e ?_
  refine r_ic_ge hX hP rfl (tgt := 21) rfl (by first | decide | omega) (by first | decide | omega) (by first | decide | omega) (by first | decide | omega) (fun c1 => ?_) (fun c1 => ?_)
  · skip
    refine r_ex hX hP 1 (pc' := 22) (st' := [(0, 0)]) (lo' := [(0, (2, (Ad E 1))), (1, (0, k))]) rfl ?_
    exact r_retI hX hP rfl rfl (by first | decide | omega) (by first | decide | omega) ⟨rfl, rfl, 0, rfl, (by first | decide | omega)⟩
  · skip
    refine r_ex hX hP 1 (pc' := 9) (st' := [(2, (Ad E 1))]) (lo' := [(0, (2, (Ad E 1))), (1, (0, k))]) rfl ?_
    refine r_getC hX hP rfl fl_12_200 hS (fun s2 => ?_)
    refine r_ex hX hP 1 (pc' := 13) (st' := [(0, k), (2, (Ad E 61))]) (lo' := [(0, (2, (Ad E 1))), (1, (0, k))]) rfl ?_
    refine r_bald hX hP rfl al_61 s2 (by first | decide | omega) (by first | decide | omega) (fun x3 x3e x3a x3b => ?_)
    have k4 := tpT k (by first | decide | omega) (by first | decide | omega)
    rw [← x3e] at k4
    refine r_ex hX hP 1 (pc' := 17) (st' := [(0, 255), (0, x3)]) (lo' := [(0, (2, (Ad E 1))), (1, (0, k))]) rfl ?_
    refine r_iand hX hP rfl (fun b5 b5a b5b b5e => ?_)
    have b5d := iand_bd b5a b5b b5e (by first | decide | omega) (by first | decide | omega)
    have b5x := iand255 b5a b5b b5e
    refine r_ex hX hP 1 (pc' := 22) (st' := [(0, b5)]) (lo' := [(0, (2, (Ad E 1))), (1, (0, k))]) rfl ?_
    exact r_retI hX hP rfl rfl (by first | decide | omega) (by first | decide | omega) ⟨rfl, rfl, b5, rfl, (by first | decide | omega)⟩
