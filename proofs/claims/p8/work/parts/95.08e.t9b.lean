set_option maxRecDepth 100000 in
set_option maxHeartbeats 4000000 in
theorem c_X12_readAllR (E : En) (S : Sg) (G : Gh) (w ch : Int) (hS : S (Ad E 1) = 1) (newMany : Int) (newMany_e : newMany = G 1 (Ad E 1) 88) (w_a : 0 ≤ w) (w_b : w ≤ 3) (ch_a : (-1) ≤ ch) (ch_b : ch ≤ 2) (dA : Nat) (hA : w ≤ 2 → RAR E S dA (w + 1)) (TT : Tp) (nn : Int) (sr : Rg) (rd : RdM E TT nn sr G) (pre0 : (sr 1 ≠ 0 ∨ (sr 8 = w ∧ 0 ≤ sr 9 ∧ ((ch = -1 ∧ pRw sr = 3) ∨ (0 ≤ ch ∧ pRw sr = ch))))) : Calls E mX12_readAll [(2, (Ad E 1)), (0, w), (0, ch)] S G (dA + 9) 0 0 (fun r S' G' => S = S' ∧ (∃ G1, hv [80, 81, 82, 83, 84, 85, 86, 87, 88, 89, 90, 91, 92] [62, 63, 64, 65, 66, 67, 68, 69, 70, 71] G G1 = G') ∧ r = none ∧ ∃ bad' : Int, bad' = G' 1 (Ad E 1) 80 ∧ ∃ n' : Int, n' = G' 1 (Ad E 1) 88 ∧ newMany ≤ n' ∧ FRZ E G G' newMany (-1) ∧ (1 ≤ bad' ∨ NI E G' newMany n' n') ∧ (∃ kq : Nat, RdM E TT nn (pIt TT nn kq sr) G' ∧ ((pIt TT nn kq sr) 1 ≠ 0 ∨ (sr 1 = 0 ∧ KP sr (pIt TT nn kq sr) ∧ ((w = 0 ∧ tkK TT nn ((pIt TT nn kq sr) 0) = 0) ∨ (w ≠ 0 ∧ tkK TT nn ((pIt TT nn kq sr) 0) = 125)))))) := by
  refine calls_by [(0, (2, (Ad E 1))), (1, (0, w)), (2, (0, ch))] rfl rfl (Nat.le_of_ble_eq_true rfl) (fun X hX => ?_)
  have hP := hPX12_readAll
  refine r_peekI hX (tl1 88 rfl (by decide)) hS (fun newMany_o newMany_oe newMany_oa newMany_ob => ?_)
  obtain rfl : newMany = newMany_o := newMany_e.trans newMany_oe.symm
  have k1 := rm_nm rd
  have k1 := k1.imp id (fun w => newMany_e.trans w)
  have loop0 : ∀ (nF : Nat) (bad_h0 newMany_h0 : Int) (Gh0 : Gh), bad_h0 = (hv [80, 81, 82, 83, 84, 85, 86, 87, 88, 89, 90, 91, 92] [62, 63, 64, 65, 66, 67, 68, 69, 70, 71] G Gh0) 1 (Ad E 1) 80 → newMany_h0 = (hv [80, 81, 82, 83, 84, 85, 86, 87, 88, 89, 90, 91, 92] [62, 63, 64, 65, 66, 67, 68, 69, 70, 71] G Gh0) 1 (Ad E 1) 88 → 0 ≤ bad_h0 → bad_h0 ≤ 6 → 0 ≤ newMany_h0 → newMany_h0 ≤ 30 → newMany ≤ newMany_h0 → FRZ E G (hv [80, 81, 82, 83, 84, 85, 86, 87, 88, 89, 90, 91, 92] [62, 63, 64, 65, 66, 67, 68, 69, 70, 71] G Gh0) newMany (-1) → (1 ≤ bad_h0 ∨ NI E (hv [80, 81, 82, 83, 84, 85, 86, 87, 88, 89, 90, 91, 92] [62, 63, 64, 65, 66, 67, 68, 69, 70, 71] G Gh0) newMany newMany_h0 newMany_h0) → (∃ kq : Nat, RdM E TT nn (pIt TT nn kq sr) (hv [80, 81, 82, 83, 84, 85, 86, 87, 88, 89, 90, 91, 92] [62, 63, 64, 65, 66, 67, 68, 69, 70, 71] G Gh0) ∧ ((pIt TT nn kq sr) 1 ≠ 0 ∨ (sr 1 = 0 ∧ KP sr (pIt TT nn kq sr)))) → 7 * (30 - newMany_h0) + 7 - bad_h0 < (nF : Int) → X 0 0 0 [] [(0, (2, (Ad E 1))), (1, (0, w)), (2, (0, ch))] S (hv [80, 81, 82, 83, 84, 85, 86, 87, 88, 89, 90, 91, 92] [62, 63, 64, 65, 66, 67, 68, 69, 70, 71] G Gh0) := by
    intro nF
    induction nF with
    | zero => intro bad_h0 newMany_h0 Gh0 bad_h0_e newMany_h0_e yh0_0 yh0_1 yh0_2 yh0_3 yh0_4 yh0_5 yh0_6 yh0_7 ym0; exfalso; omega
    | succ nF ih0 =>
      intro bad_h0 newMany_h0 Gh0 bad_h0_e newMany_h0_e yh0_0 yh0_1 yh0_2 yh0_3 yh0_4 yh0_5 yh0_6 yh0_7 ym0
      obtain ⟨q2, rd3, c4⟩ := yh0_7
      have k5 := rm_bad rd3
      have k5 := bad_h0_e.trans k5
      have k6 := rm_nm rd3
      have k6 := k6.imp id (fun w => newMany_h0_e.trans w)
      have k7 := srt_or (tkK TT nn ((pIt TT nn q2 sr) 0))
      refine r_ex hX hP 1 (pc' := 1) (st' := [(2, (Ad E 1))]) (lo' := [(0, (2, (Ad E 1))), (1, (0, w)), (2, (0, ch))]) rfl ?_
      refine r_getKI hX hP rfl fl_12_382 hS (x := bad_h0) bad_h0_e ?_
      refine r_if_ne hX hP rfl (tgt := 39) rfl (by first | decide | omega) (by first | decide | omega) (fun c8 => ?_) (fun c8 => ?_)
      · skip
        have f9 : ((pIt TT nn q2 sr) 1 ≠ 0 ∨ (sr 1 = 0 ∧ KP sr (pIt TT nn q2 sr) ∧ ((w = 0 ∧ tkK TT nn ((pIt TT nn q2 sr) 0) = 0) ∨ (w ≠ 0 ∧ tkK TT nn ((pIt TT nn q2 sr) 0) = 125)))) := by
          by_cases q : (pIt TT nn q2 sr) 1 = 0
          · have qz := c4.resolve_left (fun w => w q)
            exact Or.inr ⟨qz.1, qz.2, by omega⟩
          · exact Or.inl q
        exact r_retV hX hP rfl rfl (by first | decide | omega) (by first | decide | omega) ⟨rfl, ⟨_, (hq_loop (hq_refl _ _ _) rfl).symm⟩, rfl, bad_h0, bad_h0_e, newMany_h0, newMany_h0_e, (by first | decide | omega), yh0_5, yh0_6, ⟨q2, rd3, f9⟩⟩
      · skip
        refine r_ex hX hP 1 (pc' := 8) (st' := [(0, w)]) (lo' := [(0, (2, (Ad E 1))), (1, (0, w)), (2, (0, ch))]) rfl ?_
        refine r_if_ne hX hP rfl (tgt := 21) rfl (by first | decide | omega) (by first | decide | omega) (fun c10 => ?_) (fun c10 => ?_)
        · skip
          refine r_ex hX hP 2 (pc' := 24) (st' := [(0, 125), (2, (Ad E 1))]) (lo' := [(0, (2, (Ad E 1))), (1, (0, w)), (2, (0, ch))]) rfl ?_
          refine r_callV gd hX hP rfl cv_12_392 hS (d' := 0) (mc' := 0) (ms' := 0) (as' := [(0, 125)]) (st := []) (by first | decide | omega) (by first | decide | omega) (by first | decide | omega) rfl rfl (Nat.le_of_ble_eq_true rfl) (c_X12_isSignR E S (hv [80, 81, 82, 83, 84, 85, 86, 87, 88, 89, 90, 91, 92] [62, 63, 64, 65, 66, 67, 68, 69, 70, 71] G Gh0) 125 hS (by first | decide | omega) (by first | decide | omega) (by first | decide | omega) TT nn (pIt TT nn q2 sr) rd3) ?_
          rintro _ _ _ ⟨rfl, rfl, z11, rfl, z11a, z11b, f12, r13⟩
          refine r_if_ne hX hP rfl (tgt := 39) rfl (by first | decide | omega) (by first | decide | omega) (fun c14 => ?_) (fun c14 => ?_)
          · skip
            have f15 : ((pIt TT nn q2 sr) 1 ≠ 0 ∨ (sr 1 = 0 ∧ KP sr (pIt TT nn q2 sr) ∧ ((w = 0 ∧ tkK TT nn ((pIt TT nn q2 sr) 0) = 0) ∨ (w ≠ 0 ∧ tkK TT nn ((pIt TT nn q2 sr) 0) = 125)))) := by
              by_cases q : (pIt TT nn q2 sr) 1 = 0
              · have qz := c4.resolve_left (fun w => w q)
                exact Or.inr ⟨qz.1, qz.2, by omega⟩
              · exact Or.inl q
            exact r_retV hX hP rfl rfl (by first | decide | omega) (by first | decide | omega) ⟨rfl, ⟨_, (hq_loop (hq_refl _ _ _) rfl).symm⟩, rfl, bad_h0, bad_h0_e, newMany_h0, newMany_h0_e, (by first | decide | omega), yh0_5, yh0_6, ⟨q2, r13, f15⟩⟩
          · skip
            refine r_ex hX hP 3 (pc' := 33) (st' := [(0, ch), (0, w), (2, (Ad E 1))]) (lo' := [(0, (2, (Ad E 1))), (1, (0, w)), (2, (0, ch))]) rfl ?_
            have h16 : (pIt TT nn q2 sr) 1 = 0 := by omega
            obtain ⟨h17, h18⟩ := c4.resolve_left (fun w => w h16)
            obtain ⟨p19a, p19b, p19c⟩ := pre0.resolve_left (fun w => w h17)
            refine r_callV gd hX hP rfl cv_12_424 hS (d' := dA + 8) (mc' := 0) (ms' := 0) (as' := [(0, w), (0, ch)]) (st := []) (by first | decide | omega) (by first | decide | omega) (by first | decide | omega) rfl rfl (Nat.le_of_ble_eq_true rfl) (c_X12_readClauseR E S (hv [80, 81, 82, 83, 84, 85, 86, 87, 88, 89, 90, 91, 92] [62, 63, 64, 65, 66, 67, 68, 69, 70, 71] G Gh0) w ch hS newMany_h0 newMany_h0_e bad_h0 bad_h0_e (by first | decide | omega) (by first | decide | omega) (by first | decide | omega) (by first | decide | omega) (by first | decide | omega) dA hA TT nn (pIt TT nn q2 sr) r13 h16 ((kp_8 h18).trans p19a) (Int.le_trans p19b (kp_9 h18)) (chc_kp h18 p19c) (by first | decide | omega) (by first | decide | omega)) ?_
            rintro _ _ _ ⟨rfl, ⟨G20, rfl⟩, rfl, bah21, bah21e, neh22, neh22e, f25, f26, q23, q24, r27⟩
            obtain ⟨q28, rd29, c30⟩ := r27
            have k31 := rm_bad rd29
            have k31 := bah21e.trans k31
            have k32 := rm_nm rd29
            have k32 := k32.imp id (fun w => neh22e.trans w)
            refine r_peekI hX (tl1 80 rfl (by decide)) hS (fun o33 o33e o33a o33b => ?_)
            obtain rfl : bah21 = o33 := bah21e.trans o33e.symm
            refine r_peekI hX (tl1 88 rfl (by decide)) hS (fun o34 o34e o34a o34b => ?_)
            obtain rfl : neh22 = o34 := neh22e.trans o34e.symm
            refine r_ex hX hP 1 (pc' := 0) (st' := []) (lo' := [(0, (2, (Ad E 1))), (1, (0, w)), (2, (0, ch))]) rfl ?_
            refine r_eqG (X := X) (hq_call (hq_base _ _ _ _) rfl) ?_
            have rd35 := rm_cast rd29 (pIt_add TT nn q2 q28 sr).symm
            have k36 : ((pIt TT nn (q2 + q28) sr) 1 ≠ 0 ∨ (sr 1 = 0 ∧ KP sr (pIt TT nn (q2 + q28) sr))) := by rw [pIt_add]; exact c30.imp id (fun h => ⟨h17, kp_tr h18 h⟩)
            exact ih0 bah21 neh22 _ bah21e neh22e (by first | decide | omega) (by first | decide | omega) (by first | decide | omega) (by first | decide | omega) (by first | decide | omega) (frz_trans yh0_5 q23 (by first | decide | omega) (fun _ _ _ h => h)) (q24.elim Or.inl (fun h => Or.inr (ni_app (ni_frz (yh0_6.resolve_left (by first | decide | omega)) q23 (by first | decide | omega) (by first | decide | omega) (fun i _ _ => by omega) (by first | decide | omega)) h))) (⟨q2 + q28, rd35, k36⟩) (by first | decide | omega)
        · skip
          refine r_ex hX hP 1 (pc' := 12) (st' := [(2, (Ad E 1))]) (lo' := [(0, (2, (Ad E 1))), (1, (0, w)), (2, (0, ch))]) rfl ?_
          refine r_getI hX hP rfl fl_12_358 hS (fun sf37 sf37e sf37a sf37b => ?_)
          have k38 := rm_sort rd3
          have k38 := sf37e.trans k38
          refine r_if_eq hX hP rfl (tgt := 39) rfl (by first | decide | omega) (by first | decide | omega) (fun c39 => ?_) (fun c39 => ?_)
          · skip
            have f40 : ((pIt TT nn q2 sr) 1 ≠ 0 ∨ (sr 1 = 0 ∧ KP sr (pIt TT nn q2 sr) ∧ ((w = 0 ∧ tkK TT nn ((pIt TT nn q2 sr) 0) = 0) ∨ (w ≠ 0 ∧ tkK TT nn ((pIt TT nn q2 sr) 0) = 125)))) := by
              by_cases q : (pIt TT nn q2 sr) 1 = 0
              · have qz := c4.resolve_left (fun w => w q)
                exact Or.inr ⟨qz.1, qz.2, by omega⟩
              · exact Or.inl q
            exact r_retV hX hP rfl rfl (by first | decide | omega) (by first | decide | omega) ⟨rfl, ⟨_, (hq_loop (hq_refl _ _ _) rfl).symm⟩, rfl, bad_h0, bad_h0_e, newMany_h0, newMany_h0_e, (by first | decide | omega), yh0_5, yh0_6, ⟨q2, rd3, f40⟩⟩
          · skip
            refine r_ex hX hP 4 (pc' := 33) (st' := [(0, ch), (0, w), (2, (Ad E 1))]) (lo' := [(0, (2, (Ad E 1))), (1, (0, w)), (2, (0, ch))]) rfl ?_
            have h41 : (pIt TT nn q2 sr) 1 = 0 := by omega
            obtain ⟨h42, h43⟩ := c4.resolve_left (fun w => w h41)
            obtain ⟨p44a, p44b, p44c⟩ := pre0.resolve_left (fun w => w h42)
            refine r_callV gd hX hP rfl cv_12_424 hS (d' := dA + 8) (mc' := 0) (ms' := 0) (as' := [(0, w), (0, ch)]) (st := []) (by first | decide | omega) (by first | decide | omega) (by first | decide | omega) rfl rfl (Nat.le_of_ble_eq_true rfl) (c_X12_readClauseR E S (hv [80, 81, 82, 83, 84, 85, 86, 87, 88, 89, 90, 91, 92] [62, 63, 64, 65, 66, 67, 68, 69, 70, 71] G Gh0) w ch hS newMany_h0 newMany_h0_e bad_h0 bad_h0_e (by first | decide | omega) (by first | decide | omega) (by first | decide | omega) (by first | decide | omega) (by first | decide | omega) dA hA TT nn (pIt TT nn q2 sr) rd3 h41 ((kp_8 h43).trans p44a) (Int.le_trans p44b (kp_9 h43)) (chc_kp h43 p44c) (by first | decide | omega) (by first | decide | omega)) ?_
            rintro _ _ _ ⟨rfl, ⟨G45, rfl⟩, rfl, bah46, bah46e, neh47, neh47e, f50, f51, q48, q49, r52⟩
            obtain ⟨q53, rd54, c55⟩ := r52
            have k56 := rm_bad rd54
            have k56 := bah46e.trans k56
            have k57 := rm_nm rd54
            have k57 := k57.imp id (fun w => neh47e.trans w)
            refine r_peekI hX (tl1 80 rfl (by decide)) hS (fun o58 o58e o58a o58b => ?_)
            obtain rfl : bah46 = o58 := bah46e.trans o58e.symm
            refine r_peekI hX (tl1 88 rfl (by decide)) hS (fun o59 o59e o59a o59b => ?_)
            obtain rfl : neh47 = o59 := neh47e.trans o59e.symm
            refine r_ex hX hP 1 (pc' := 0) (st' := []) (lo' := [(0, (2, (Ad E 1))), (1, (0, w)), (2, (0, ch))]) rfl ?_
            refine r_eqG (X := X) (hq_call (hq_base _ _ _ _) rfl) ?_
            have rd60 := rm_cast rd54 (pIt_add TT nn q2 q53 sr).symm
            have k61 : ((pIt TT nn (q2 + q53) sr) 1 ≠ 0 ∨ (sr 1 = 0 ∧ KP sr (pIt TT nn (q2 + q53) sr))) := by rw [pIt_add]; exact c55.imp id (fun h => ⟨h42, kp_tr h43 h⟩)
            exact ih0 bah46 neh47 _ bah46e neh47e (by first | decide | omega) (by first | decide | omega) (by first | decide | omega) (by first | decide | omega) (by first | decide | omega) (frz_trans yh0_5 q48 (by first | decide | omega) (fun _ _ _ h => h)) (q49.elim Or.inl (fun h => Or.inr (ni_app (ni_frz (yh0_6.resolve_left (by first | decide | omega)) q48 (by first | decide | omega) (by first | decide | omega) (fun i _ _ => by omega) (by first | decide | omega)) h))) (⟨q2 + q53, rd60, k61⟩) (by first | decide | omega)
  refine r_peekI hX (tl1 80 rfl (by decide)) hS (fun bap62 bap62e bap62a bap62b => ?_)
  have k63 := rm_bad rd
  have k63 := bap62e.trans k63
  refine r_eqG (X := X) (hq_refl [80, 81, 82, 83, 84, 85, 86, 87, 88, 89, 90, 91, 92] [62, 63, 64, 65, 66, 67, 68, 69, 70, 71] _) ?_
  exact loop0 ((7 * (30 - newMany) + 7 - bap62) + 1 : Int).toNat bap62 newMany _ bap62e newMany_e (by first | decide | omega) (by first | decide | omega) (by first | decide | omega) (by first | decide | omega) (by first | decide | omega) ((fun _ _ _ _ => ⟨rfl, rfl, rfl, rfl, rfl, rfl⟩)) (Or.inr (ni_nil (Int.le_refl _))) (⟨0, rd, raf_0 sr⟩) (by first | decide | omega)
theorem rar3 (E : En) (S : Sg) : RAR E S 9 3 := fun G ch hS nm nme a b TT nn sr rd p => c_X12_readAllR E S G 3 ch hS nm nme (by first | decide | omega) (by first | decide | omega) a b 0 (fun h => absurd h (by first | decide | omega)) TT nn sr rd p
theorem rar2 (E : En) (S : Sg) : RAR E S 18 2 := fun G ch hS nm nme a b TT nn sr rd p => c_X12_readAllR E S G 2 ch hS nm nme (by first | decide | omega) (by first | decide | omega) a b 9 (fun _ => rar3 E S) TT nn sr rd p
theorem rar1 (E : En) (S : Sg) : RAR E S 27 1 := fun G ch hS nm nme a b TT nn sr rd p => c_X12_readAllR E S G 1 ch hS nm nme (by first | decide | omega) (by first | decide | omega) a b 18 (fun _ => rar2 E S) TT nn sr rd p
theorem rar0 (E : En) (S : Sg) : RAR E S 36 0 := fun G ch hS nm nme a b TT nn sr rd p => c_X12_readAllR E S G 0 ch hS nm nme (by first | decide | omega) (by first | decide | omega) a b 27 (fun _ => rar1 E S) TT nn sr rd p

