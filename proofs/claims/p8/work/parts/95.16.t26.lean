set_option maxRecDepth 100000 in
set_option maxHeartbeats 4000000 in
theorem c_X12_layT (E : En) (S : Sg) (G : Gh) (v : Int) (hS : S (Ad E 1) = 1) (taped : Int) (taped_e : taped = G 1 (Ad E 1) 76) (v_a : (-2147483648) ≤ v) (v_b : v ≤ 2147483647) (pre0 : taped ≤ 396) : Calls E mX12_lay [(2, (Ad E 1)), (0, v)] S G 0 0 0 (fun r S' G' => S = S' ∧ (∃ G1, hv [76] [61] G G1 = G') ∧ r = none ∧ ∃ taped' : Int, taped' = G' 1 (Ad E 1) 76 ∧ taped' = taped + 4 ∧ (∀ i : Int, G' 61 (Ad E 61) i % 256 = layB (fun j => G 61 (Ad E 61) j % 256) taped v i)) := by
  refine calls_by [(0, (2, (Ad E 1))), (1, (0, v))] rfl rfl (Nat.le_of_ble_eq_true rfl) (fun X hX => ?_)
  have hP := hPX12_lay
  refine r_peekI hX (tl1 76 rfl (by decide)) hS (fun taped_o taped_oe taped_oa taped_ob => ?_)
  obtain rfl : taped = taped_o := taped_e.trans taped_oe.symm
  refine r_ex hX hP 2 (pc' := 2) (st' := []) (lo' := [(0, (2, (Ad E 1))), (1, (0, v)), (2, (0, 3))]) rfl ?_
  have loop2 : ∀ (nF : Nat) (l2_h2 taped_h2 : Int) (Gh2 : Gh), taped_h2 = (hv [76] [61] G Gh2) 1 (Ad E 1) 76 → (-1) ≤ l2_h2 → l2_h2 ≤ 3 → 0 ≤ taped_h2 → taped_h2 ≤ 400 → taped_h2 = taped + 3 - l2_h2 → (∀ i : Int, (hv [76] [61] G Gh2) 61 (Ad E 61) i % 256 = layM (fun j => G 61 (Ad E 61) j % 256) taped v (3 - l2_h2) i) → l2_h2 - (-1) < (nF : Int) → X 0 0 2 [] [(0, (2, (Ad E 1))), (1, (0, v)), (2, (0, l2_h2))] S (hv [76] [61] G Gh2) := by
    intro nF
    induction nF with
    | zero => intro l2_h2 taped_h2 Gh2 taped_h2_e yh2_0 yh2_1 yh2_2 yh2_3 yh2_4 yh2_5 ym2; exfalso; omega
    | succ nF ih2 =>
      intro l2_h2 taped_h2 Gh2 taped_h2_e yh2_0 yh2_1 yh2_2 yh2_3 yh2_4 yh2_5 ym2
      refine r_ex hX hP 1 (pc' := 3) (st' := [(0, l2_h2)]) (lo' := [(0, (2, (Ad E 1))), (1, (0, v)), (2, (0, l2_h2))]) rfl ?_
      refine r_if_lt hX hP rfl (tgt := 38) rfl (by first | decide | omega) (by first | decide | omega) (fun c1 => ?_) (fun c1 => ?_)
      · skip
        exact r_retV hX hP rfl rfl (by first | decide | omega) (by first | decide | omega) ⟨rfl, ⟨_, (hq_loop (hq_refl _ _ _) rfl).symm⟩, rfl, taped_h2, taped_h2_e, (by first | decide | omega), (fun i => by have q := yh2_5 i; rw [show 3 - l2_h2 = 4 from by omega] at q; exact q.trans (layM_4 _ _ _ _))⟩
      · skip
        refine r_ex hX hP 1 (pc' := 7) (st' := [(2, (Ad E 1))]) (lo' := [(0, (2, (Ad E 1))), (1, (0, v)), (2, (0, l2_h2))]) rfl ?_
        refine r_getC hX hP rfl fl_12_200 hS (fun s2 => ?_)
        refine r_ex hX hP 1 (pc' := 11) (st' := [(2, (Ad E 1)), (2, (Ad E 61))]) (lo' := [(0, (2, (Ad E 1))), (1, (0, v)), (2, (0, l2_h2))]) rfl ?_
        refine r_getKI hX hP rfl fl_12_484 hS (x := taped_h2) taped_h2_e ?_
        refine r_ex hX hP 4 (pc' := 19) (st' := [(0, (8 * l2_h2)), (0, v), (0, taped_h2), (2, (Ad E 61))]) (lo' := [(0, (2, (Ad E 1))), (1, (0, v)), (2, (0, l2_h2))]) rfl ?_
        refine r_ishr hX hP rfl (fun b3 b3a b3b b3e => ?_)
        refine r_i2b hX hP rfl (fun b4 b4a b4b b4e => ?_)
        have y5 := lay_byt (v := v) (k := l2_h2) (q := b3) (b := b4) (by first | decide | omega) (by first | decide | omega) (by first | decide | omega) (by first | decide | omega) b3a b3b b4a b4b b3e b4e
        refine r_bastK hX hP rfl al_61 s2 (by first | decide | omega) (by first | decide | omega) (by first | decide | omega) (by first | decide | omega) (by first | decide | omega) (by first | decide | omega) (fun h6 => ?_)
        refine r_ex hX hP 2 (pc' := 24) (st' := [(2, (Ad E 1)), (2, (Ad E 1))]) (lo' := [(0, (2, (Ad E 1))), (1, (0, v)), (2, (0, l2_h2))]) rfl ?_
        refine r_getKI hX hP rfl fl_12_484 hS (x := taped_h2) taped_h2_e ?_
        refine r_ex hX hP 2 (pc' := 29) (st' := [(0, (taped_h2 + 1)), (2, (Ad E 1))]) (lo' := [(0, (2, (Ad E 1))), (1, (0, v)), (2, (0, l2_h2))]) rfl ?_
        refine r_putIK hX hP rfl fp_12_484 hS (by first | decide | omega) (by first | decide | omega) (fun h7 => ?_)
        refine r_ex hX hP 2 (pc' := 2) (st' := []) (lo' := [(0, (2, (Ad E 1))), (1, (0, v)), (2, (0, (l2_h2 + (-1))))]) rfl ?_
        refine r_eqG (X := X) (hq_up (hq_up (hq_base _ _ _ _) rfl) rfl) ?_
        exact ih2 (l2_h2 + (-1)) (taped_h2 + 1) _ h7 (by first | decide | omega) (by first | decide | omega) (by first | decide | omega) (by first | decide | omega) (by first | decide | omega) (fun i => by have q := layM_step (p := taped_h2) (m := 3 - l2_h2) yh2_5 (by first | decide | omega) (by first | decide | omega) y5 i; rw [show 3 - (l2_h2 + (-1)) = 3 - l2_h2 + 1 from by omega]; exact q) (by first | decide | omega)
  refine r_eqG (X := X) (hq_refl [76] [61] _) ?_
  exact loop2 ((3 - (-1)) + 1 : Int).toNat 3 taped _ taped_e (by first | decide | omega) (by first | decide | omega) (by first | decide | omega) (by first | decide | omega) (by first | decide | omega) (fun i => layM_0 (fun j => G 61 (Ad E 61) j % 256) taped v i) (by first | decide | omega)
set_option maxRecDepth 100000 in
set_option maxHeartbeats 4000000 in
theorem c_X12_feedT (E : En) (S : Sg) (G : Gh) (a b c d e : Int) (hS : S (Ad E 1) = 1) (taped : Int) (taped_e : taped = G 1 (Ad E 1) 76) (a_a : (-2147483648) ≤ a) (a_b : a ≤ 2147483647) (b_a : (-2147483648) ≤ b) (b_b : b ≤ 2147483647) (c_a : (-2147483648) ≤ c) (c_b : c ≤ 2147483647) (d_a : (-2147483648) ≤ d) (d_b : d ≤ 2147483647) (e_a : (-2147483648) ≤ e) (e_b : e ≤ 2147483647) : Calls E mX12_feed [(2, (Ad E 1)), (0, a), (0, b), (0, c), (0, d), (0, e)] S G 1 0 0 (fun r S' G' => S = S' ∧ (∃ G1, hv [1, 76] [61] G G1 = G') ∧ ∃ z : Int, r = some (0, z) ∧ ∃ n2 : Int, n2 = G' 1 (Ad E 1) 76 ∧ (-2147483648) ≤ z ∧ z ≤ 2147483647 ∧ ((taped + 20 ≤ 400 ∧ z = taped + 20 ∧ n2 = taped + 20) ∨ (z = -1 ∧ n2 = taped ∧ ¬ (taped + 20 ≤ 400))) ∧ ((z = -1 ∧ ∀ i : Int, G' 61 (Ad E 61) i = G 61 (Ad E 61) i) ∨ (z = taped + 20 ∧ ∀ i : Int, G' 61 (Ad E 61) i % 256 = layB (layB (layB (layB (layB (fun j => G 61 (Ad E 61) j % 256) taped a) (taped + 4) b) (taped + 8) c) (taped + 12) d) (taped + 16) e i))) := by
  refine calls_by [(0, (2, (Ad E 1))), (1, (0, a)), (2, (0, b)), (3, (0, c)), (4, (0, d)), (5, (0, e))] rfl rfl (Nat.le_of_ble_eq_true rfl) (fun X hX => ?_)
  have hP := hPX12_feed
  refine r_peekI hX (tl1 76 rfl (by decide)) hS (fun taped_o taped_oe taped_oa taped_ob => ?_)
  obtain rfl : taped = taped_o := taped_e.trans taped_oe.symm
  refine r_ex hX hP 2 (pc' := 2) (st' := [(0, 0), (2, (Ad E 1))]) (lo' := [(0, (2, (Ad E 1))), (1, (0, a)), (2, (0, b)), (3, (0, c)), (4, (0, d)), (5, (0, e))]) rfl ?_
  refine r_putIK hX hP rfl fp_12_304 hS (by first | decide | omega) (by first | decide | omega) (fun h1 => ?_)
  refine r_ex hX hP 1 (pc' := 6) (st' := [(2, (Ad E 1))]) (lo' := [(0, (2, (Ad E 1))), (1, (0, a)), (2, (0, b)), (3, (0, c)), (4, (0, d)), (5, (0, e))]) rfl ?_
  refine r_getKI hX hP rfl fl_12_484 hS (x := taped) taped_e ?_
  refine r_ex hX hP 3 (pc' := 15) (st' := [(0, 400), (0, (taped + 20))]) (lo' := [(0, (2, (Ad E 1))), (1, (0, a)), (2, (0, b)), (3, (0, c)), (4, (0, d)), (5, (0, e))]) rfl ?_
  refine r_ic_le hX hP rfl (tgt := 20) rfl (by first | decide | omega) (by first | decide | omega) (by first | decide | omega) (by first | decide | omega) (fun c2 => ?_) (fun c2 => ?_)
  · skip
    refine r_ex hX hP 2 (pc' := 22) (st' := [(0, a), (2, (Ad E 1))]) (lo' := [(0, (2, (Ad E 1))), (1, (0, a)), (2, (0, b)), (3, (0, c)), (4, (0, d)), (5, (0, e))]) rfl ?_
    refine r_callV gd hX hP rfl cv_12_487 hS (d' := 0) (mc' := 0) (ms' := 0) (as' := [(0, a)]) (st := []) (by first | decide | omega) (by first | decide | omega) (by first | decide | omega) rfl rfl (Nat.le_of_ble_eq_true rfl) (c_X12_layT E S (up G 1 (Ad E 1) 1 0) a hS taped taped_e (by first | decide | omega) (by first | decide | omega) (by first | decide | omega)) ?_
    rintro _ _ _ ⟨rfl, ⟨G3, rfl⟩, rfl, tah4, tah4e, f6, q5⟩
    refine r_peekI hX (tl1 76 rfl (by decide)) hS (fun o7 o7e o7a o7b => ?_)
    obtain rfl : tah4 = o7 := tah4e.trans o7e.symm
    refine r_ex hX hP 2 (pc' := 27) (st' := [(0, b), (2, (Ad E 1))]) (lo' := [(0, (2, (Ad E 1))), (1, (0, a)), (2, (0, b)), (3, (0, c)), (4, (0, d)), (5, (0, e))]) rfl ?_
    refine r_callV gd hX hP rfl cv_12_487 hS (d' := 0) (mc' := 0) (ms' := 0) (as' := [(0, b)]) (st := []) (by first | decide | omega) (by first | decide | omega) (by first | decide | omega) rfl rfl (Nat.le_of_ble_eq_true rfl) (c_X12_layT E S (hv [76] [61] (up G 1 (Ad E 1) 1 0) G3) b hS tah4 tah4e (by first | decide | omega) (by first | decide | omega) (by first | decide | omega)) ?_
    rintro _ _ _ ⟨rfl, ⟨G8, rfl⟩, rfl, tah9, tah9e, f11, q10⟩
    refine r_peekI hX (tl1 76 rfl (by decide)) hS (fun o12 o12e o12a o12b => ?_)
    obtain rfl : tah9 = o12 := tah9e.trans o12e.symm
    refine r_ex hX hP 2 (pc' := 32) (st' := [(0, c), (2, (Ad E 1))]) (lo' := [(0, (2, (Ad E 1))), (1, (0, a)), (2, (0, b)), (3, (0, c)), (4, (0, d)), (5, (0, e))]) rfl ?_
    refine r_callV gd hX hP rfl cv_12_487 hS (d' := 0) (mc' := 0) (ms' := 0) (as' := [(0, c)]) (st := []) (by first | decide | omega) (by first | decide | omega) (by first | decide | omega) rfl rfl (Nat.le_of_ble_eq_true rfl) (c_X12_layT E S (hv [76] [61] (hv [76] [61] (up G 1 (Ad E 1) 1 0) G3) G8) c hS tah9 tah9e (by first | decide | omega) (by first | decide | omega) (by first | decide | omega)) ?_
    rintro _ _ _ ⟨rfl, ⟨G13, rfl⟩, rfl, tah14, tah14e, f16, q15⟩
    refine r_peekI hX (tl1 76 rfl (by decide)) hS (fun o17 o17e o17a o17b => ?_)
    obtain rfl : tah14 = o17 := tah14e.trans o17e.symm
    refine r_ex hX hP 2 (pc' := 38) (st' := [(0, d), (2, (Ad E 1))]) (lo' := [(0, (2, (Ad E 1))), (1, (0, a)), (2, (0, b)), (3, (0, c)), (4, (0, d)), (5, (0, e))]) rfl ?_
    refine r_callV gd hX hP rfl cv_12_487 hS (d' := 0) (mc' := 0) (ms' := 0) (as' := [(0, d)]) (st := []) (by first | decide | omega) (by first | decide | omega) (by first | decide | omega) rfl rfl (Nat.le_of_ble_eq_true rfl) (c_X12_layT E S (hv [76] [61] (hv [76] [61] (hv [76] [61] (up G 1 (Ad E 1) 1 0) G3) G8) G13) d hS tah14 tah14e (by first | decide | omega) (by first | decide | omega) (by first | decide | omega)) ?_
    rintro _ _ _ ⟨rfl, ⟨G18, rfl⟩, rfl, tah19, tah19e, f21, q20⟩
    refine r_peekI hX (tl1 76 rfl (by decide)) hS (fun o22 o22e o22a o22b => ?_)
    obtain rfl : tah19 = o22 := tah19e.trans o22e.symm
    refine r_ex hX hP 2 (pc' := 44) (st' := [(0, e), (2, (Ad E 1))]) (lo' := [(0, (2, (Ad E 1))), (1, (0, a)), (2, (0, b)), (3, (0, c)), (4, (0, d)), (5, (0, e))]) rfl ?_
    refine r_callV gd hX hP rfl cv_12_487 hS (d' := 0) (mc' := 0) (ms' := 0) (as' := [(0, e)]) (st := []) (by first | decide | omega) (by first | decide | omega) (by first | decide | omega) rfl rfl (Nat.le_of_ble_eq_true rfl) (c_X12_layT E S (hv [76] [61] (hv [76] [61] (hv [76] [61] (hv [76] [61] (up G 1 (Ad E 1) 1 0) G3) G8) G13) G18) e hS tah19 tah19e (by first | decide | omega) (by first | decide | omega) (by first | decide | omega)) ?_
    rintro _ _ _ ⟨rfl, ⟨G23, rfl⟩, rfl, tah24, tah24e, f26, q25⟩
    refine r_peekI hX (tl1 76 rfl (by decide)) hS (fun o27 o27e o27a o27b => ?_)
    obtain rfl : tah24 = o27 := tah24e.trans o27e.symm
    refine r_ex hX hP 1 (pc' := 48) (st' := [(2, (Ad E 1))]) (lo' := [(0, (2, (Ad E 1))), (1, (0, a)), (2, (0, b)), (3, (0, c)), (4, (0, d)), (5, (0, e))]) rfl ?_
    refine r_getKI hX hP rfl fl_12_484 hS (x := tah24) tah24e ?_
    have tz : ∀ i : Int, (hv [76] [61] (hv [76] [61] (hv [76] [61] (hv [76] [61] (hv [76] [61] (up G 1 (Ad E 1) 1 0) G3) G8) G13) G18) G23) 61 (Ad E 61) i % 256 = layB (layB (layB (layB (layB (fun j => G 61 (Ad E 61) j % 256) taped a) (taped + 4) b) (taped + 8) c) (taped + 12) d) (taped + 16) e i := by
      intro i
      rw [q25 i]
      rw [show tah19 = taped + 16 from by omega]
      refine layB_cong (fun i => ?_) _ _ i
      rw [q20 i]
      rw [show tah14 = taped + 12 from by omega]
      refine layB_cong (fun i => ?_) _ _ i
      rw [q15 i]
      rw [show tah9 = taped + 8 from by omega]
      refine layB_cong (fun i => ?_) _ _ i
      rw [q10 i]
      rw [show tah4 = taped + 4 from by omega]
      refine layB_cong (fun i => ?_) _ _ i
      exact q5 i
    exact r_retI hX hP rfl rfl (by first | decide | omega) (by first | decide | omega) ⟨rfl, ⟨_, (hq_call (hq_call (hq_call (hq_call (hq_call (hq_up (hq_refl _ _ _) rfl) rfl) rfl) rfl) rfl) rfl).symm⟩, tah24, rfl, tah24, tah24e, (by first | decide | omega), (by first | decide | omega), (by first | decide | omega), (Or.inr ⟨by omega, tz⟩)⟩
  · skip
    refine r_ex hX hP 1 (pc' := 19) (st' := [(0, (-1))]) (lo' := [(0, (2, (Ad E 1))), (1, (0, a)), (2, (0, b)), (3, (0, c)), (4, (0, d)), (5, (0, e))]) rfl ?_
    exact r_retI hX hP rfl rfl (by first | decide | omega) (by first | decide | omega) ⟨rfl, ⟨_, (hq_up (hq_refl _ _ _) rfl).symm⟩, (-1), rfl, taped, taped_e, (by first | decide | omega), (by first | decide | omega), (by first | decide | omega), (Or.inl ⟨rfl, fun i => rfl⟩)⟩
