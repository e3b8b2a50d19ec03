set_option maxRecDepth 100000 in
set_option maxHeartbeats 4000000 in
theorem c_X12_daysUpS (E : En) (S : Sg) (G : Gh) (a : Int) (hS : S (Ad E 1) = 1) (accounts : Int) (accounts_e : accounts = G 1 (Ad E 1) 6) (a_a : 0 ≤ a) (a_b : a ≤ 19) (pre0 : a < accounts) (mi : MI E G) : Calls E mX12_daysUp [(2, (Ad E 1)), (0, a)] S G 0 0 0 (fun r S' G' => S = S' ∧ G = G' ∧ ∃ z : Int, r = some (0, z) ∧ 0 ≤ z ∧ z ≤ 600 ∧ SmS E G' 4 a z) := by
  refine calls_by [(0, (2, (Ad E 1))), (1, (0, a))] rfl rfl (Nat.le_of_ble_eq_true rfl) (fun X hX => ?_)
  have hP := hPX12_daysUp
  refine r_peekI hX (tl1 6 rfl (by decide)) hS (fun accounts_o accounts_oe accounts_oa accounts_ob => ?_)
  obtain rfl : accounts = accounts_o := accounts_e.trans accounts_oe.symm
  refine r_ex hX hP 1 (pc' := 1) (st' := [(2, (Ad E 1))]) (lo' := [(0, (2, (Ad E 1))), (1, (0, a))]) rfl ?_
  refine r_getC hX hP rfl fl_12_18 hS (fun s1 => ?_)
  refine r_ex hX hP 1 (pc' := 5) (st' := [(0, a), (2, (Ad E 2))]) (lo' := [(0, (2, (Ad E 1))), (1, (0, a))]) rfl ?_
  refine r_iald hX hP rfl al_2 s1 (by first | decide | omega) (by first | decide | omega) (fun x2 x2e x2a x2b => ?_)
  have x2m := mi_hand mi accounts_e x2e (by first | decide | omega) (by first | decide | omega)
  refine r_if_ge hX hP rfl (tgt := 18) rfl (by first | decide | omega) (by first | decide | omega) (fun c3 => ?_) (fun c3 => ?_)
  · skip
    refine r_ex hX hP 3 (pc' := 21) (st' := [(2, (Ad E 1))]) (lo' := [(0, (2, (Ad E 1))), (1, (0, a)), (2, (0, 0))]) rfl ?_
    refine r_getC hX hP rfl fl_12_18 hS (fun _ => ?_)
    refine r_ex hX hP 1 (pc' := 25) (st' := [(0, a), (2, (Ad E 2))]) (lo' := [(0, (2, (Ad E 1))), (1, (0, a)), (2, (0, 0))]) rfl ?_
    refine r_ialdK hX hP rfl al_2 s1 (by first | decide | omega) (by first | decide | omega) (x := x2) x2e ?_
    refine r_ex hX hP 1 (pc' := 27) (st' := []) (lo' := [(0, (2, (Ad E 1))), (1, (0, a)), (2, (0, 0)), (3, (0, x2))]) rfl ?_
    have loop27 : ∀ (nF : Nat) (l2_h27 l3_h27 : Int), 0 ≤ l2_h27 → l2_h27 ≤ 600 → (-1) ≤ l3_h27 → l3_h27 ≤ 19 → l3_h27 < accounts → l2_h27 + 30 * (l3_h27 + 1) ≤ 600 → SmA E G 4 a l2_h27 l3_h27 → l3_h27 + 1 < (nF : Int) → X 0 0 27 [] [(0, (2, (Ad E 1))), (1, (0, a)), (2, (0, l2_h27)), (3, (0, l3_h27))] S G := by
      intro nF
      induction nF with
      | zero => intro l2_h27 l3_h27 yh27_0 yh27_1 yh27_2 yh27_3 yh27_4 yh27_5 yh27_6 ym27; exfalso; omega
      | succ nF ih27 =>
        intro l2_h27 l3_h27 yh27_0 yh27_1 yh27_2 yh27_3 yh27_4 yh27_5 yh27_6 ym27
        refine r_ex hX hP 1 (pc' := 28) (st' := [(0, l3_h27)]) (lo' := [(0, (2, (Ad E 1))), (1, (0, a)), (2, (0, l2_h27)), (3, (0, l3_h27))]) rfl ?_
        refine r_if_lt hX hP rfl (tgt := 50) rfl (by first | decide | omega) (by first | decide | omega) (fun c4 => ?_) (fun c4 => ?_)
        · skip
          refine r_ex hX hP 1 (pc' := 51) (st' := [(0, l2_h27)]) (lo' := [(0, (2, (Ad E 1))), (1, (0, a)), (2, (0, l2_h27)), (3, (0, l3_h27))]) rfl ?_
          exact r_retI hX hP rfl rfl (by first | decide | omega) (by first | decide | omega) ⟨rfl, rfl, l2_h27, rfl, (by first | decide | omega), (by first | decide | omega), (sm_end yh27_6 (by first | decide | omega))⟩
        · skip
          refine r_ex hX hP 2 (pc' := 33) (st' := [(2, (Ad E 1)), (0, l2_h27)]) (lo' := [(0, (2, (Ad E 1))), (1, (0, a)), (2, (0, l2_h27)), (3, (0, l3_h27))]) rfl ?_
          refine r_getC hX hP rfl fl_12_25 hS (fun s5 => ?_)
          refine r_ex hX hP 1 (pc' := 37) (st' := [(0, l3_h27), (2, (Ad E 4)), (0, l2_h27)]) (lo' := [(0, (2, (Ad E 1))), (1, (0, a)), (2, (0, l2_h27)), (3, (0, l3_h27))]) rfl ?_
          refine r_iald hX hP rfl al_4 s5 (by first | decide | omega) (by first | decide | omega) (fun x6 x6e x6a x6b => ?_)
          refine r_ex hX hP 3 (pc' := 41) (st' := [(2, (Ad E 1))]) (lo' := [(0, (2, (Ad E 1))), (1, (0, a)), (2, (0, (l2_h27 + x6))), (3, (0, l3_h27))]) rfl ?_
          refine r_getC hX hP rfl fl_12_18 hS (fun _ => ?_)
          refine r_ex hX hP 1 (pc' := 45) (st' := [(0, l3_h27), (2, (Ad E 2))]) (lo' := [(0, (2, (Ad E 1))), (1, (0, a)), (2, (0, (l2_h27 + x6))), (3, (0, l3_h27))]) rfl ?_
          refine r_iald hX hP rfl al_2 s1 (by first | decide | omega) (by first | decide | omega) (fun x7 x7e x7a x7b => ?_)
          have x7m := mi_hand mi accounts_e x7e (by first | decide | omega) (by first | decide | omega)
          refine r_ex hX hP 2 (pc' := 27) (st' := []) (lo' := [(0, (2, (Ad E 1))), (1, (0, a)), (2, (0, (l2_h27 + x6))), (3, (0, x7))]) rfl ?_
          exact ih27 (l2_h27 + x6) x7 (by first | decide | omega) (by first | decide | omega) (by first | decide | omega) (by first | decide | omega) (by first | decide | omega) (by first | decide | omega) (sm_step yh27_6 (by first | decide | omega) x7e (by first | decide | omega)) (by first | decide | omega)
    exact loop27 ((x2 + 1) + 1 : Int).toNat 0 x2 (by first | decide | omega) (by first | decide | omega) (by first | decide | omega) (by first | decide | omega) (by first | decide | omega) (by first | decide | omega) (by refine sm_enter (by first | decide | omega) (by assumption) ?_; omega) (by first | decide | omega)
  · skip
    refine r_ex hX hP 1 (pc' := 10) (st' := [(2, (Ad E 1))]) (lo' := [(0, (2, (Ad E 1))), (1, (0, a))]) rfl ?_
    refine r_getC hX hP rfl fl_12_25 hS (fun s8 => ?_)
    refine r_ex hX hP 1 (pc' := 14) (st' := [(0, a), (2, (Ad E 4))]) (lo' := [(0, (2, (Ad E 1))), (1, (0, a))]) rfl ?_
    refine r_iald hX hP rfl al_4 s8 (by first | decide | omega) (by first | decide | omega) (fun x9 x9e x9a x9b => ?_)
    refine r_ex hX hP 3 (pc' := 21) (st' := [(2, (Ad E 1))]) (lo' := [(0, (2, (Ad E 1))), (1, (0, a)), (2, (0, x9))]) rfl ?_
    refine r_getC hX hP rfl fl_12_18 hS (fun _ => ?_)
    refine r_ex hX hP 1 (pc' := 25) (st' := [(0, a), (2, (Ad E 2))]) (lo' := [(0, (2, (Ad E 1))), (1, (0, a)), (2, (0, x9))]) rfl ?_
    refine r_ialdK hX hP rfl al_2 s1 (by first | decide | omega) (by first | decide | omega) (x := x2) x2e ?_
    refine r_ex hX hP 1 (pc' := 27) (st' := []) (lo' := [(0, (2, (Ad E 1))), (1, (0, a)), (2, (0, x9)), (3, (0, x2))]) rfl ?_
    have loop27 : ∀ (nF : Nat) (l2_h27 l3_h27 : Int), 0 ≤ l2_h27 → l2_h27 ≤ 600 → (-1) ≤ l3_h27 → l3_h27 ≤ 19 → l3_h27 < accounts → l2_h27 + 30 * (l3_h27 + 1) ≤ 600 → SmA E G 4 a l2_h27 l3_h27 → l3_h27 + 1 < (nF : Int) → X 0 0 27 [] [(0, (2, (Ad E 1))), (1, (0, a)), (2, (0, l2_h27)), (3, (0, l3_h27))] S G := by
      intro nF
      induction nF with
      | zero => intro l2_h27 l3_h27 yh27_0 yh27_1 yh27_2 yh27_3 yh27_4 yh27_5 yh27_6 ym27; exfalso; omega
      | succ nF ih27 =>
        intro l2_h27 l3_h27 yh27_0 yh27_1 yh27_2 yh27_3 yh27_4 yh27_5 yh27_6 ym27
        refine r_ex hX hP 1 (pc' := 28) (st' := [(0, l3_h27)]) (lo' := [(0, (2, (Ad E 1))), (1, (0, a)), (2, (0, l2_h27)), (3, (0, l3_h27))]) rfl ?_
        refine r_if_lt hX hP rfl (tgt := 50) rfl (by first | decide | omega) (by first | decide | omega) (fun c10 => ?_) (fun c10 => ?_)
        · skip
          refine r_ex hX hP 1 (pc' := 51) (st' := [(0, l2_h27)]) (lo' := [(0, (2, (Ad E 1))), (1, (0, a)), (2, (0, l2_h27)), (3, (0, l3_h27))]) rfl ?_
          exact r_retI hX hP rfl rfl (by first | decide | omega) (by first | decide | omega) ⟨rfl, rfl, l2_h27, rfl, (by first | decide | omega), (by first | decide | omega), (sm_end yh27_6 (by first | decide | omega))⟩
        · skip
          refine r_ex hX hP 2 (pc' := 33) (st' := [(2, (Ad E 1)), (0, l2_h27)]) (lo' := [(0, (2, (Ad E 1))), (1, (0, a)), (2, (0, l2_h27)), (3, (0, l3_h27))]) rfl ?_
          refine r_getC hX hP rfl fl_12_25 hS (fun _ => ?_)
          refine r_ex hX hP 1 (pc' := 37) (st' := [(0, l3_h27), (2, (Ad E 4)), (0, l2_h27)]) (lo' := [(0, (2, (Ad E 1))), (1, (0, a)), (2, (0, l2_h27)), (3, (0, l3_h27))]) rfl ?_
          refine r_iald hX hP rfl al_4 s8 (by first | decide | omega) (by first | decide | omega) (fun x11 x11e x11a x11b => ?_)
          refine r_ex hX hP 3 (pc' := 41) (st' := [(2, (Ad E 1))]) (lo' := [(0, (2, (Ad E 1))), (1, (0, a)), (2, (0, (l2_h27 + x11))), (3, (0, l3_h27))]) rfl ?_
          refine r_getC hX hP rfl fl_12_18 hS (fun _ => ?_)
          refine r_ex hX hP 1 (pc' := 45) (st' := [(0, l3_h27), (2, (Ad E 2))]) (lo' := [(0, (2, (Ad E 1))), (1, (0, a)), (2, (0, (l2_h27 + x11))), (3, (0, l3_h27))]) rfl ?_
          refine r_iald hX hP rfl al_2 s1 (by first | decide | omega) (by first | decide | omega) (fun x12 x12e x12a x12b => ?_)
          have x12m := mi_hand mi accounts_e x12e (by first | decide | omega) (by first | decide | omega)
          refine r_ex hX hP 2 (pc' := 27) (st' := []) (lo' := [(0, (2, (Ad E 1))), (1, (0, a)), (2, (0, (l2_h27 + x11))), (3, (0, x12))]) rfl ?_
          exact ih27 (l2_h27 + x11) x12 (by first | decide | omega) (by first | decide | omega) (by first | decide | omega) (by first | decide | omega) (by first | decide | omega) (by first | decide | omega) (sm_step yh27_6 (by first | decide | omega) x12e (by first | decide | omega)) (by first | decide | omega)
    exact loop27 ((x2 + 1) + 1 : Int).toNat x9 x2 (by first | decide | omega) (by first | decide | omega) (by first | decide | omega) (by first | decide | omega) (by first | decide | omega) (by first | decide | omega) (by refine sm_enter (by first | decide | omega) (by assumption) ?_; omega) (by first | decide | omega)
set_option maxRecDepth 100000 in
set_option maxHeartbeats 4000000 in
theorem c_X12_leadsUpS (E : En) (S : Sg) (G : Gh) (a : Int) (hS : S (Ad E 1) = 1) (accounts : Int) (accounts_e : accounts = G 1 (Ad E 1) 6) (a_a : 0 ≤ a) (a_b : a ≤ 19) (pre0 : a < accounts) (mi : MI E G) : Calls E mX12_leadsUp [(2, (Ad E 1)), (0, a)] S G 0 0 0 (fun r S' G' => S = S' ∧ G = G' ∧ ∃ z : Int, r = some (0, z) ∧ 0 ≤ z ∧ z ≤ 600 ∧ SmS E G' 3 a z) := by
  refine calls_by [(0, (2, (Ad E 1))), (1, (0, a))] rfl rfl (Nat.le_of_ble_eq_true rfl) (fun X hX => ?_)
  have hP := hPX12_leadsUp
  refine r_peekI hX (tl1 6 rfl (by decide)) hS (fun accounts_o accounts_oe accounts_oa accounts_ob => ?_)
  obtain rfl : accounts = accounts_o := accounts_e.trans accounts_oe.symm
  refine r_ex hX hP 1 (pc' := 1) (st' := [(2, (Ad E 1))]) (lo' := [(0, (2, (Ad E 1))), (1, (0, a))]) rfl ?_
  refine r_getC hX hP rfl fl_12_18 hS (fun s1 => ?_)
  refine r_ex hX hP 1 (pc' := 5) (st' := [(0, a), (2, (Ad E 2))]) (lo' := [(0, (2, (Ad E 1))), (1, (0, a))]) rfl ?_
  refine r_iald hX hP rfl al_2 s1 (by first | decide | omega) (by first | decide | omega) (fun x2 x2e x2a x2b => ?_)
  have x2m := mi_hand mi accounts_e x2e (by first | decide | omega) (by first | decide | omega)
  refine r_if_ge hX hP rfl (tgt := 18) rfl (by first | decide | omega) (by first | decide | omega) (fun c3 => ?_) (fun c3 => ?_)
  · skip
    refine r_ex hX hP 3 (pc' := 21) (st' := [(2, (Ad E 1))]) (lo' := [(0, (2, (Ad E 1))), (1, (0, a)), (2, (0, 0))]) rfl ?_
    refine r_getC hX hP rfl fl_12_18 hS (fun _ => ?_)
    refine r_ex hX hP 1 (pc' := 25) (st' := [(0, a), (2, (Ad E 2))]) (lo' := [(0, (2, (Ad E 1))), (1, (0, a)), (2, (0, 0))]) rfl ?_
    refine r_ialdK hX hP rfl al_2 s1 (by first | decide | omega) (by first | decide | omega) (x := x2) x2e ?_
    refine r_ex hX hP 1 (pc' := 27) (st' := []) (lo' := [(0, (2, (Ad E 1))), (1, (0, a)), (2, (0, 0)), (3, (0, x2))]) rfl ?_
    have loop27 : ∀ (nF : Nat) (l2_h27 l3_h27 : Int), 0 ≤ l2_h27 → l2_h27 ≤ 600 → (-1) ≤ l3_h27 → l3_h27 ≤ 19 → l3_h27 < accounts → l2_h27 + 30 * (l3_h27 + 1) ≤ 600 → SmA E G 3 a l2_h27 l3_h27 → l3_h27 + 1 < (nF : Int) → X 0 0 27 [] [(0, (2, (Ad E 1))), (1, (0, a)), (2, (0, l2_h27)), (3, (0, l3_h27))] S G := by
      intro nF
      induction nF with
      | zero => intro l2_h27 l3_h27 yh27_0 yh27_1 yh27_2 yh27_3 yh27_4 yh27_5 yh27_6 ym27; exfalso; omega
      | succ nF ih27 =>
        intro l2_h27 l3_h27 yh27_0 yh27_1 yh27_2 yh27_3 yh27_4 yh27_5 yh27_6 ym27
        refine r_ex hX hP 1 (pc' := 28) (st' := [(0, l3_h27)]) (lo' := [(0, (2, (Ad E 1))), (1, (0, a)), (2, (0, l2_h27)), (3, (0, l3_h27))]) rfl ?_
        refine r_if_lt hX hP rfl (tgt := 50) rfl (by first | decide | omega) (by first | decide | omega) (fun c4 => ?_) (fun c4 => ?_)
        · skip
          refine r_ex hX hP 1 (pc' := 51) (st' := [(0, l2_h27)]) (lo' := [(0, (2, (Ad E 1))), (1, (0, a)), (2, (0, l2_h27)), (3, (0, l3_h27))]) rfl ?_
          exact r_retI hX hP rfl rfl (by first | decide | omega) (by first | decide | omega) ⟨rfl, rfl, l2_h27, rfl, (by first | decide | omega), (by first | decide | omega), (sm_end yh27_6 (by first | decide | omega))⟩
        · skip
          refine r_ex hX hP 2 (pc' := 33) (st' := [(2, (Ad E 1)), (0, l2_h27)]) (lo' := [(0, (2, (Ad E 1))), (1, (0, a)), (2, (0, l2_h27)), (3, (0, l3_h27))]) rfl ?_
          refine r_getC hX hP rfl fl_12_22 hS (fun s5 => ?_)
          refine r_ex hX hP 1 (pc' := 37) (st' := [(0, l3_h27), (2, (Ad E 3)), (0, l2_h27)]) (lo' := [(0, (2, (Ad E 1))), (1, (0, a)), (2, (0, l2_h27)), (3, (0, l3_h27))]) rfl ?_
          refine r_iald hX hP rfl al_3 s5 (by first | decide | omega) (by first | decide | omega) (fun x6 x6e x6a x6b => ?_)
          refine r_ex hX hP 3 (pc' := 41) (st' := [(2, (Ad E 1))]) (lo' := [(0, (2, (Ad E 1))), (1, (0, a)), (2, (0, (l2_h27 + x6))), (3, (0, l3_h27))]) rfl ?_
          refine r_getC hX hP rfl fl_12_18 hS (fun _ => ?_)
          refine r_ex hX hP 1 (pc' := 45) (st' := [(0, l3_h27), (2, (Ad E 2))]) (lo' := [(0, (2, (Ad E 1))), (1, (0, a)), (2, (0, (l2_h27 + x6))), (3, (0, l3_h27))]) rfl ?_
          refine r_iald hX hP rfl al_2 s1 (by first | decide | omega) (by first | decide | omega) (fun x7 x7e x7a x7b => ?_)
          have x7m := mi_hand mi accounts_e x7e (by first | decide | omega) (by first | decide | omega)
          refine r_ex hX hP 2 (pc' := 27) (st' := []) (lo' := [(0, (2, (Ad E 1))), (1, (0, a)), (2, (0, (l2_h27 + x6))), (3, (0, x7))]) rfl ?_
          exact ih27 (l2_h27 + x6) x7 (by first | decide | omega) (by first | decide | omega) (by first | decide | omega) (by first | decide | omega) (by first | decide | omega) (by first | decide | omega) (sm_step yh27_6 (by first | decide | omega) x7e (by first | decide | omega)) (by first | decide | omega)
    exact loop27 ((x2 + 1) + 1 : Int).toNat 0 x2 (by first | decide | omega) (by first | decide | omega) (by first | decide | omega) (by first | decide | omega) (by first | decide | omega) (by first | decide | omega) (by refine sm_enter (by first | decide | omega) (by assumption) ?_; omega) (by first | decide | omega)
  · skip
    refine r_ex hX hP 1 (pc' := 10) (st' := [(2, (Ad E 1))]) (lo' := [(0, (2, (Ad E 1))), (1, (0, a))]) rfl ?_
    refine r_getC hX hP rfl fl_12_22 hS (fun s8 => ?_)
    refine r_ex hX hP 1 (pc' := 14) (st' := [(0, a), (2, (Ad E 3))]) (lo' := [(0, (2, (Ad E 1))), (1, (0, a))]) rfl ?_
    refine r_iald hX hP rfl al_3 s8 (by first | decide | omega) (by first | decide | omega) (fun x9 x9e x9a x9b => ?_)
    refine r_ex hX hP 3 (pc' := 21) (st' := [(2, (Ad E 1))]) (lo' := [(0, (2, (Ad E 1))), (1, (0, a)), (2, (0, x9))]) rfl ?_
    refine r_getC hX hP rfl fl_12_18 hS (fun _ => ?_)
    refine r_ex hX hP 1 (pc' := 25) (st' := [(0, a), (2, (Ad E 2))]) (lo' := [(0, (2, (Ad E 1))), (1, (0, a)), (2, (0, x9))]) rfl ?_
    refine r_ialdK hX hP rfl al_2 s1 (by first | decide | omega) (by first | decide | omega) (x := x2) x2e ?_
    refine r_ex hX hP 1 (pc' := 27) (st' := []) (lo' := [(0, (2, (Ad E 1))), (1, (0, a)), (2, (0, x9)), (3, (0, x2))]) rfl ?_
    have loop27 : ∀ (nF : Nat) (l2_h27 l3_h27 : Int), 0 ≤ l2_h27 → l2_h27 ≤ 600 → (-1) ≤ l3_h27 → l3_h27 ≤ 19 → l3_h27 < accounts → l2_h27 + 30 * (l3_h27 + 1) ≤ 600 → SmA E G 3 a l2_h27 l3_h27 → l3_h27 + 1 < (nF : Int) → X 0 0 27 [] [(0, (2, (Ad E 1))), (1, (0, a)), (2, (0, l2_h27)), (3, (0, l3_h27))] S G := by
      intro nF
      induction nF with
      | zero => intro l2_h27 l3_h27 yh27_0 yh27_1 yh27_2 yh27_3 yh27_4 yh27_5 yh27_6 ym27; exfalso; omega
      | succ nF ih27 =>
        intro l2_h27 l3_h27 yh27_0 yh27_1 yh27_2 yh27_3 yh27_4 yh27_5 yh27_6 ym27
        refine r_ex hX hP 1 (pc' := 28) (st' := [(0, l3_h27)]) (lo' := [(0, (2, (Ad E 1))), (1, (0, a)), (2, (0, l2_h27)), (3, (0, l3_h27))]) rfl ?_
        refine r_if_lt hX hP rfl (tgt := 50) rfl (by first | decide | omega) (by first | decide | omega) (fun c10 => ?_) (fun c10 => ?_)
        · skip
          refine r_ex hX hP 1 (pc' := 51) (st' := [(0, l2_h27)]) (lo' := [(0, (2, (Ad E 1))), (1, (0, a)), (2, (0, l2_h27)), (3, (0, l3_h27))]) rfl ?_
          exact r_retI hX hP rfl rfl (by first | decide | omega) (by first | decide | omega) ⟨rfl, rfl, l2_h27, rfl, (by first | decide | omega), (by first | decide | omega), (sm_end yh27_6 (by first | decide | omega))⟩
        · skip
          refine r_ex hX hP 2 (pc' := 33) (st' := [(2, (Ad E 1)), (0, l2_h27)]) (lo' := [(0, (2, (Ad E 1))), (1, (0, a)), (2, (0, l2_h27)), (3, (0, l3_h27))]) rfl ?_
          refine r_getC hX hP rfl fl_12_22 hS (fun _ => ?_)
          refine r_ex hX hP 1 (pc' := 37) (st' := [(0, l3_h27), (2, (Ad E 3)), (0, l2_h27)]) (lo' := [(0, (2, (Ad E 1))), (1, (0, a)), (2, (0, l2_h27)), (3, (0, l3_h27))]) rfl ?_
          refine r_iald hX hP rfl al_3 s8 (by first | decide | omega) (by first | decide | omega) (fun x11 x11e x11a x11b => ?_)
          refine r_ex hX hP 3 (pc' := 41) (st' := [(2, (Ad E 1))]) (lo' := [(0, (2, (Ad E 1))), (1, (0, a)), (2, (0, (l2_h27 + x11))), (3, (0, l3_h27))]) rfl ?_
          refine r_getC hX hP rfl fl_12_18 hS (fun _ => ?_)
          refine r_ex hX hP 1 (pc' := 45) (st' := [(0, l3_h27), (2, (Ad E 2))]) (lo' := [(0, (2, (Ad E 1))), (1, (0, a)), (2, (0, (l2_h27 + x11))), (3, (0, l3_h27))]) rfl ?_
          refine r_iald hX hP rfl al_2 s1 (by first | decide | omega) (by first | decide | omega) (fun x12 x12e x12a x12b => ?_)
          have x12m := mi_hand mi accounts_e x12e (by first | decide | omega) (by first | decide | omega)
          refine r_ex hX hP 2 (pc' := 27) (st' := []) (lo' := [(0, (2, (Ad E 1))), (1, (0, a)), (2, (0, (l2_h27 + x11))), (3, (0, x12))]) rfl ?_
          exact ih27 (l2_h27 + x11) x12 (by first | decide | omega) (by first | decide | omega) (by first | decide | omega) (by first | decide | omega) (by first | decide | omega) (by first | decide | omega) (sm_step yh27_6 (by first | decide | omega) x12e (by first | decide | omega)) (by first | decide | omega)
    exact loop27 ((x2 + 1) + 1 : Int).toNat x9 x2 (by first | decide | omega) (by first | decide | omega) (by first | decide | omega) (by first | decide | omega) (by first | decide | omega) (by first | decide | omega) (by refine sm_enter (by first | decide | omega) (by assumption) ?_; omega) (by first | decide | omega)
