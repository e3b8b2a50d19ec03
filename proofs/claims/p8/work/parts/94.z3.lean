def Dv (t : List (Int × Int)) (L m : Int) (G : Gh) : Prop := ∀ q ∈ t, G L m q.1 = q.2
theorem dv_gr {t : List (Int × Int)} {L m : Int} {S S' : Sg} {G G' : Gh} {nl : List Int} {ws : List (Int × Int)} (d : Dv t L m G) (g : Gr nl ws S G S' G') (hS : S m = L) (hL : L ≠ 0) (hw : ws = []) : Dv t L m G' := by
  intro q hq
  subst hw
  rw [gr_at g hS hL rfl]
  exact d q hq
theorem dv_up {t : List (Int × Int)} {L m j x : Int} {G : Gh} (d : Dv t L m G) (c : t.all (fun q => q.1 != j) = true) : Dv t L m (up G L m j x) := by
  intro q w
  have h := List.all_eq_true.mp c q w
  simp only [bne_iff_ne, ne_eq] at h
  rw [up_ne (fun r => h r.2.2)]
  exact d q w
theorem dv_new {t : List (Int × Int)} {L m j x : Int} {G : Gh} (d : Dv t L m G) (c : t.all (fun q => q.1 != j) = true) : Dv ((j, x) :: t) L m (up G L m j x) := by
  intro q hq
  rcases List.mem_cons.mp hq with w | w
  · rw [w, up_self]
  · exact dv_up d c q w
set_option maxRecDepth 100000 in
set_option maxHeartbeats 8000000 in
theorem c_X12_initZ (E : En) (S : Sg) (G : Gh) (this : Int) (hS : S this = 186) : Calls E mX12_init [(2, this)] S G 3 91 6896 (fun r S' G' => Gr mNL mWS S G S' G' ∧ r = none ∧ Dn mTB 186 this S' G' ∧ Dv [(79, (-1)), (78, (-1)), (2, 40000)] 186 this G') := by
  refine calls_by [(0, (2, this))] rfl rfl (Nat.le_of_ble_eq_true rfl) (fun X hX => ?_)
  have hP := hPX12_init
  refine r_ex hX hP 1 (pc' := 1) (st' := [(2, this)]) (lo' := [(0, (2, this))]) rfl ?_
  refine r_nn hX hS (by decide) (fun p1 => ?_)
  refine r_objI hX hP rfl (tbg sg7 129 rfl rfl) (tbg sg1 33 rfl rfl) (tbg sg1 34 rfl rfl) p1 (by decide) (Nat.le_of_ble_eq_true rfl) ?_
  have g0 := gr_refl mNL mWS S G
  have d0 : Dn [] 186 this S G := fun q h => absurd h List.not_mem_nil
  have v0 : Dv [] 186 this G := fun q h => absurd h List.not_mem_nil
  refine r_ex hX hP 1 (pc' := 5) (st' := [(2, this)]) (lo' := [(0, (2, this))]) rfl ?_
  refine r_ldc hX hP rfl (v := 40000) (tbg sg7 130 rfl rfl) ?_
  refine r_putIK hX hP rfl fp_X12_10_186 hS (by decide) (by decide) (fun _ => ?_)
  have d1 := dn_upI (j := 2) (x := 40000) d0 rfl
  have v1 := dv_new (j := 2) (x := 40000) v0 rfl
  have g1 := gr_up (a := this) (v := 40000) (L := 186) (j := 2) g0 rfl
  refine r_ex hX hP 2 (pc' := 12) (st' := [(1, 1), (2, this)]) (lo' := [(0, (2, this))]) rfl ?_
  refine r_putLK hX hP rfl fp_X12_14_186 hS (by decide) (by decide) (fun _ => ?_)
  have d2 := dn_upI (j := 5) (x := 1) d1 rfl
  have v2 := dv_up (j := 5) (x := 1) v1 rfl
  have g2 := gr_up (a := this) (v := 1) (L := 186) (j := 5) g1 rfl
  refine r_ex hX hP 2 (pc' := 18) (st' := [(0, 20), (2, this)]) (lo' := [(0, (2, this))]) rfl ?_
  refine r_newarrA hX hP rfl (L := 2) (n := 20) al_2 (by decide) rfl rfl rfl (tbg sg1 124 rfl rfl) (by decide) (Nat.le_of_ble_eq_true rfl) (Nat.le_of_ble_eq_true rfl) (fun n3 S3 G3 _ _ l3 q3 _ => ?_)
  have s3 := gr_lab q3 hS (by decide)
  have e3 := dn_gr d2 q3 hS (by decide) rfl rfl
  have h3 := gr_call g2 q3 rfl rfl
  refine r_putFN hX hP rfl rfl fq_X12_18_186 s3 (by decide) (Or.inr l3) (fun _ => ?_)
  have d3 := dn_up (j := 14) e3 l3 rfl
  have v3 := dv_up (j := 14) (x := n3) (dv_gr v2 q3 hS (by decide) rfl) rfl
  clear v2
  have g3 := gr_up (a := this) (v := n3) (L := 186) (j := 14) h3 rfl
  clear e3 h3 d2 g2 q3 l3
  refine r_ex hX hP 2 (pc' := 26) (st' := [(0, 20), (2, this)]) (lo' := [(0, (2, this))]) rfl ?_
  refine r_newarrA hX hP rfl (L := 3) (n := 20) al_3 (by decide) rfl rfl rfl (tbg sg1 124 rfl rfl) (by decide) (Nat.le_of_ble_eq_true rfl) (Nat.le_of_ble_eq_true rfl) (fun n4 S4 G4 _ _ l4 q4 _ => ?_)
  have s4 := gr_lab q4 s3 (by decide)
  have e4 := dn_gr d3 q4 s3 (by decide) rfl rfl
  have h4 := gr_call g3 q4 rfl rfl
  refine r_putFN hX hP rfl rfl fq_X12_22_186 s4 (by decide) (Or.inr l4) (fun _ => ?_)
  have d4 := dn_up (j := 15) e4 l4 rfl
  have v4 := dv_up (j := 15) (x := n4) (dv_gr v3 q4 s3 (by decide) rfl) rfl
  clear v3
  have g4 := gr_up (a := this) (v := n4) (L := 186) (j := 15) h4 rfl
  clear e4 h4 d3 g3 q4 l4
  refine r_ex hX hP 2 (pc' := 34) (st' := [(0, 20), (2, this)]) (lo' := [(0, (2, this))]) rfl ?_
  refine r_newarrA hX hP rfl (L := 4) (n := 20) al_4 (by decide) rfl rfl rfl (tbg sg1 124 rfl rfl) (by decide) (Nat.le_of_ble_eq_true rfl) (Nat.le_of_ble_eq_true rfl) (fun n5 S5 G5 _ _ l5 q5 _ => ?_)
  have s5 := gr_lab q5 s4 (by decide)
  have e5 := dn_gr d4 q5 s4 (by decide) rfl rfl
  have h5 := gr_call g4 q5 rfl rfl
  refine r_putFN hX hP rfl rfl fq_X12_25_186 s5 (by decide) (Or.inr l5) (fun _ => ?_)
  have d5 := dn_up (j := 16) e5 l5 rfl
  have v5 := dv_up (j := 16) (x := n5) (dv_gr v4 q5 s4 (by decide) rfl) rfl
  clear v4
  have g5 := gr_up (a := this) (v := n5) (L := 186) (j := 16) h5 rfl
  clear e5 h5 d4 g4 q5 l5
  refine r_ex hX hP 2 (pc' := 42) (st' := [(0, 40), (2, this)]) (lo' := [(0, (2, this))]) rfl ?_
  refine r_newarrA hX hP rfl (L := 5) (n := 40) al_5 (by decide) rfl rfl rfl (tbg sg1 124 rfl rfl) (by decide) (Nat.le_of_ble_eq_true rfl) (Nat.le_of_ble_eq_true rfl) (fun n6 S6 G6 _ _ l6 q6 _ => ?_)
  have s6 := gr_lab q6 s5 (by decide)
  have e6 := dn_gr d5 q6 s5 (by decide) rfl rfl
  have h6 := gr_call g5 q6 rfl rfl
  refine r_putFN hX hP rfl rfl fq_X12_28_186 s6 (by decide) (Or.inr l6) (fun _ => ?_)
  have d6 := dn_up (j := 17) e6 l6 rfl
  have v6 := dv_up (j := 17) (x := n6) (dv_gr v5 q6 s5 (by decide) rfl) rfl
  clear v5
  have g6 := gr_up (a := this) (v := n6) (L := 186) (j := 17) h6 rfl
  clear e6 h6 d5 g5 q6 l6
  refine r_ex hX hP 2 (pc' := 50) (st' := [(0, 40), (2, this)]) (lo' := [(0, (2, this))]) rfl ?_
  refine r_newarrA hX hP rfl (L := 6) (n := 40) al_6 (by decide) rfl rfl rfl (tbg sg1 124 rfl rfl) (by decide) (Nat.le_of_ble_eq_true rfl) (Nat.le_of_ble_eq_true rfl) (fun n7 S7 G7 _ _ l7 q7 _ => ?_)
  have s7 := gr_lab q7 s6 (by decide)
  have e7 := dn_gr d6 q7 s6 (by decide) rfl rfl
  have h7 := gr_call g6 q7 rfl rfl
  refine r_putFN hX hP rfl rfl fq_X12_31_186 s7 (by decide) (Or.inr l7) (fun _ => ?_)
  have d7 := dn_up (j := 18) e7 l7 rfl
  have v7 := dv_up (j := 18) (x := n7) (dv_gr v6 q7 s6 (by decide) rfl) rfl
  clear v6
  have g7 := gr_up (a := this) (v := n7) (L := 186) (j := 18) h7 rfl
  clear e7 h7 d6 g6 q7 l7
  refine r_ex hX hP 2 (pc' := 58) (st' := [(0, 40), (2, this)]) (lo' := [(0, (2, this))]) rfl ?_
  refine r_newarrA hX hP rfl (L := 7) (n := 40) al_7 (by decide) rfl rfl rfl (tbg sg1 124 rfl rfl) (by decide) (Nat.le_of_ble_eq_true rfl) (Nat.le_of_ble_eq_true rfl) (fun n8 S8 G8 _ _ l8 q8 _ => ?_)
  have s8 := gr_lab q8 s7 (by decide)
  have e8 := dn_gr d7 q8 s7 (by decide) rfl rfl
  have h8 := gr_call g7 q8 rfl rfl
  refine r_putFN hX hP rfl rfl fq_X12_34_186 s8 (by decide) (Or.inr l8) (fun _ => ?_)
  have d8 := dn_up (j := 19) e8 l8 rfl
  have v8 := dv_up (j := 19) (x := n8) (dv_gr v7 q8 s7 (by decide) rfl) rfl
  clear v7
  have g8 := gr_up (a := this) (v := n8) (L := 186) (j := 19) h8 rfl
  clear e8 h8 d7 g7 q8 l8
  refine r_ex hX hP 2 (pc' := 66) (st' := [(0, 40), (2, this)]) (lo' := [(0, (2, this))]) rfl ?_
  refine r_newarrA hX hP rfl (L := 8) (n := 40) al_8 (by decide) rfl rfl rfl (tbg sg1 124 rfl rfl) (by decide) (Nat.le_of_ble_eq_true rfl) (Nat.le_of_ble_eq_true rfl) (fun n9 S9 G9 _ _ l9 q9 _ => ?_)
  have s9 := gr_lab q9 s8 (by decide)
  have e9 := dn_gr d8 q9 s8 (by decide) rfl rfl
  have h9 := gr_call g8 q9 rfl rfl
  refine r_putFN hX hP rfl rfl fq_X12_37_186 s9 (by decide) (Or.inr l9) (fun _ => ?_)
  have d9 := dn_up (j := 20) e9 l9 rfl
  have v9 := dv_up (j := 20) (x := n9) (dv_gr v8 q9 s8 (by decide) rfl) rfl
  clear v8
  have g9 := gr_up (a := this) (v := n9) (L := 186) (j := 20) h9 rfl
  clear e9 h9 d8 g8 q9 l9
  refine r_ex hX hP 2 (pc' := 74) (st' := [(0, 40), (2, this)]) (lo' := [(0, (2, this))]) rfl ?_
  refine r_newarrA hX hP rfl (L := 9) (n := 40) al_9 (by decide) rfl rfl rfl (tbg sg1 124 rfl rfl) (by decide) (Nat.le_of_ble_eq_true rfl) (Nat.le_of_ble_eq_true rfl) (fun n10 S10 G10 _ _ l10 q10 _ => ?_)
  have s10 := gr_lab q10 s9 (by decide)
  have e10 := dn_gr d9 q10 s9 (by decide) rfl rfl
  have h10 := gr_call g9 q10 rfl rfl
  refine r_putFN hX hP rfl rfl fq_X12_40_186 s10 (by decide) (Or.inr l10) (fun _ => ?_)
  have d10 := dn_up (j := 21) e10 l10 rfl
  have v10 := dv_up (j := 21) (x := n10) (dv_gr v9 q10 s9 (by decide) rfl) rfl
  clear v9
  have g10 := gr_up (a := this) (v := n10) (L := 186) (j := 21) h10 rfl
  clear e10 h10 d9 g9 q10 l10
  refine r_ex hX hP 2 (pc' := 82) (st' := [(0, 40), (2, this)]) (lo' := [(0, (2, this))]) rfl ?_
  refine r_newarrA hX hP rfl (L := 10) (n := 40) al_10 (by decide) rfl rfl rfl (tbg sg1 124 rfl rfl) (by decide) (Nat.le_of_ble_eq_true rfl) (Nat.le_of_ble_eq_true rfl) (fun n11 S11 G11 _ _ l11 q11 _ => ?_)
  have s11 := gr_lab q11 s10 (by decide)
  have e11 := dn_gr d10 q11 s10 (by decide) rfl rfl
  have h11 := gr_call g10 q11 rfl rfl
  refine r_putFN hX hP rfl rfl fq_X12_43_186 s11 (by decide) (Or.inr l11) (fun _ => ?_)
  have d11 := dn_up (j := 22) e11 l11 rfl
  have v11 := dv_up (j := 22) (x := n11) (dv_gr v10 q11 s10 (by decide) rfl) rfl
  clear v10
  have g11 := gr_up (a := this) (v := n11) (L := 186) (j := 22) h11 rfl
  clear e11 h11 d10 g10 q11 l11
  refine r_ex hX hP 2 (pc' := 90) (st' := [(0, 40), (2, this)]) (lo' := [(0, (2, this))]) rfl ?_
  refine r_newarrA hX hP rfl (L := 11) (n := 40) al_11 (by decide) rfl rfl rfl (tbg sg1 124 rfl rfl) (by decide) (Nat.le_of_ble_eq_true rfl) (Nat.le_of_ble_eq_true rfl) (fun n12 S12 G12 _ _ l12 q12 _ => ?_)
  have s12 := gr_lab q12 s11 (by decide)
  have e12 := dn_gr d11 q12 s11 (by decide) rfl rfl
  have h12 := gr_call g11 q12 rfl rfl
  refine r_putFN hX hP rfl rfl fq_X12_46_186 s12 (by decide) (Or.inr l12) (fun _ => ?_)
  have d12 := dn_up (j := 23) e12 l12 rfl
  have v12 := dv_up (j := 23) (x := n12) (dv_gr v11 q12 s11 (by decide) rfl) rfl
  clear v11
  have g12 := gr_up (a := this) (v := n12) (L := 186) (j := 23) h12 rfl
  clear e12 h12 d11 g11 q12 l12
  refine r_ex hX hP 2 (pc' := 98) (st' := [(0, 40), (2, this)]) (lo' := [(0, (2, this))]) rfl ?_
  refine r_newarrA hX hP rfl (L := 12) (n := 40) al_12 (by decide) rfl rfl rfl (tbg sg1 124 rfl rfl) (by decide) (Nat.le_of_ble_eq_true rfl) (Nat.le_of_ble_eq_true rfl) (fun n13 S13 G13 _ _ l13 q13 _ => ?_)
  have s13 := gr_lab q13 s12 (by decide)
  have e13 := dn_gr d12 q13 s12 (by decide) rfl rfl
  have h13 := gr_call g12 q13 rfl rfl
  refine r_putFN hX hP rfl rfl fq_X12_49_186 s13 (by decide) (Or.inr l13) (fun _ => ?_)
  have d13 := dn_up (j := 24) e13 l13 rfl
  have v13 := dv_up (j := 24) (x := n13) (dv_gr v12 q13 s12 (by decide) rfl) rfl
  clear v12
  have g13 := gr_up (a := this) (v := n13) (L := 186) (j := 24) h13 rfl
  clear e13 h13 d12 g12 q13 l13
  refine r_ex hX hP 2 (pc' := 106) (st' := [(0, 40), (2, this)]) (lo' := [(0, (2, this))]) rfl ?_
  refine r_newarrA hX hP rfl (L := 13) (n := 40) al_13 (by decide) rfl rfl rfl (tbg sg1 124 rfl rfl) (by decide) (Nat.le_of_ble_eq_true rfl) (Nat.le_of_ble_eq_true rfl) (fun n14 S14 G14 _ _ l14 q14 _ => ?_)
  have s14 := gr_lab q14 s13 (by decide)
  have e14 := dn_gr d13 q14 s13 (by decide) rfl rfl
  have h14 := gr_call g13 q14 rfl rfl
  refine r_putFN hX hP rfl rfl fq_X12_52_186 s14 (by decide) (Or.inr l14) (fun _ => ?_)
  have d14 := dn_up (j := 25) e14 l14 rfl
  have v14 := dv_up (j := 25) (x := n14) (dv_gr v13 q14 s13 (by decide) rfl) rfl
  clear v13
  have g14 := gr_up (a := this) (v := n14) (L := 186) (j := 25) h14 rfl
  clear e14 h14 d13 g13 q14 l14
  refine r_ex hX hP 2 (pc' := 114) (st' := [(0, 40), (2, this)]) (lo' := [(0, (2, this))]) rfl ?_
  refine r_newarrA hX hP rfl (L := 14) (n := 40) al_14 (by decide) rfl rfl rfl (tbg sg1 124 rfl rfl) (by decide) (Nat.le_of_ble_eq_true rfl) (Nat.le_of_ble_eq_true rfl) (fun n15 S15 G15 _ _ l15 q15 _ => ?_)
  have s15 := gr_lab q15 s14 (by decide)
  have e15 := dn_gr d14 q15 s14 (by decide) rfl rfl
  have h15 := gr_call g14 q15 rfl rfl
  refine r_putFN hX hP rfl rfl fq_X12_55_186 s15 (by decide) (Or.inr l15) (fun _ => ?_)
  have d15 := dn_up (j := 26) e15 l15 rfl
  have v15 := dv_up (j := 26) (x := n15) (dv_gr v14 q15 s14 (by decide) rfl) rfl
  clear v14
  have g15 := gr_up (a := this) (v := n15) (L := 186) (j := 26) h15 rfl
  clear e15 h15 d14 g14 q15 l15
  refine r_ex hX hP 2 (pc' := 122) (st' := [(0, 40), (2, this)]) (lo' := [(0, (2, this))]) rfl ?_
  refine r_newarrA hX hP rfl (L := 15) (n := 40) al_15 (by decide) rfl rfl rfl (tbg sg1 124 rfl rfl) (by decide) (Nat.le_of_ble_eq_true rfl) (Nat.le_of_ble_eq_true rfl) (fun n16 S16 G16 _ _ l16 q16 _ => ?_)
  have s16 := gr_lab q16 s15 (by decide)
  have e16 := dn_gr d15 q16 s15 (by decide) rfl rfl
  have h16 := gr_call g15 q16 rfl rfl
  refine r_putFN hX hP rfl rfl fq_X12_58_186 s16 (by decide) (Or.inr l16) (fun _ => ?_)
  have d16 := dn_up (j := 27) e16 l16 rfl
  have v16 := dv_up (j := 27) (x := n16) (dv_gr v15 q16 s15 (by decide) rfl) rfl
  clear v15
  have g16 := gr_up (a := this) (v := n16) (L := 186) (j := 27) h16 rfl
  clear e16 h16 d15 g15 q16 l16
  refine r_ex hX hP 2 (pc' := 130) (st' := [(0, 40), (2, this)]) (lo' := [(0, (2, this))]) rfl ?_
  refine r_newarrA hX hP rfl (L := 16) (n := 40) al_16 (by decide) rfl rfl rfl (tbg sg1 124 rfl rfl) (by decide) (Nat.le_of_ble_eq_true rfl) (Nat.le_of_ble_eq_true rfl) (fun n17 S17 G17 _ _ l17 q17 _ => ?_)
  have s17 := gr_lab q17 s16 (by decide)
  have e17 := dn_gr d16 q17 s16 (by decide) rfl rfl
  have h17 := gr_call g16 q17 rfl rfl
  refine r_putFN hX hP rfl rfl fq_X12_61_186 s17 (by decide) (Or.inr l17) (fun _ => ?_)
  have d17 := dn_up (j := 28) e17 l17 rfl
  have v17 := dv_up (j := 28) (x := n17) (dv_gr v16 q17 s16 (by decide) rfl) rfl
  clear v16
  have g17 := gr_up (a := this) (v := n17) (L := 186) (j := 28) h17 rfl
  clear e17 h17 d16 g16 q17 l17
  refine r_ex hX hP 2 (pc' := 138) (st' := [(0, 40), (2, this)]) (lo' := [(0, (2, this))]) rfl ?_
  refine r_newarrA hX hP rfl (L := 17) (n := 40) al_17 (by decide) rfl rfl rfl (tbg sg1 124 rfl rfl) (by decide) (Nat.le_of_ble_eq_true rfl) (Nat.le_of_ble_eq_true rfl) (fun n18 S18 G18 _ _ l18 q18 _ => ?_)
  have s18 := gr_lab q18 s17 (by decide)
  have e18 := dn_gr d17 q18 s17 (by decide) rfl rfl
  have h18 := gr_call g17 q18 rfl rfl
  refine r_putFN hX hP rfl rfl fq_X12_64_186 s18 (by decide) (Or.inr l18) (fun _ => ?_)
  have d18 := dn_up (j := 29) e18 l18 rfl
  have v18 := dv_up (j := 29) (x := n18) (dv_gr v17 q18 s17 (by decide) rfl) rfl
  clear v17
  have g18 := gr_up (a := this) (v := n18) (L := 186) (j := 29) h18 rfl
  clear e18 h18 d17 g17 q18 l18
  refine r_ex hX hP 2 (pc' := 146) (st' := [(0, 40), (2, this)]) (lo' := [(0, (2, this))]) rfl ?_
  refine r_newarrA hX hP rfl (L := 18) (n := 40) al_18 (by decide) rfl rfl rfl (tbg sg1 124 rfl rfl) (by decide) (Nat.le_of_ble_eq_true rfl) (Nat.le_of_ble_eq_true rfl) (fun n19 S19 G19 _ _ l19 q19 _ => ?_)
  have s19 := gr_lab q19 s18 (by decide)
  have e19 := dn_gr d18 q19 s18 (by decide) rfl rfl
  have h19 := gr_call g18 q19 rfl rfl
  refine r_putFN hX hP rfl rfl fq_X12_67_186 s19 (by decide) (Or.inr l19) (fun _ => ?_)
  have d19 := dn_up (j := 30) e19 l19 rfl
  have v19 := dv_up (j := 30) (x := n19) (dv_gr v18 q19 s18 (by decide) rfl) rfl
  clear v18
  have g19 := gr_up (a := this) (v := n19) (L := 186) (j := 30) h19 rfl
  clear e19 h19 d18 g18 q19 l19
  refine r_ex hX hP 2 (pc' := 154) (st' := [(0, 40), (2, this)]) (lo' := [(0, (2, this))]) rfl ?_
  refine r_newarrA hX hP rfl (L := 19) (n := 40) al_19 (by decide) rfl rfl rfl (tbg sg2 147 rfl rfl) (by decide) (Nat.le_of_ble_eq_true rfl) (Nat.le_of_ble_eq_true rfl) (fun n20 S20 G20 _ _ l20 q20 _ => ?_)
  have s20 := gr_lab q20 s19 (by decide)
  have e20 := dn_gr d19 q20 s19 (by decide) rfl rfl
  have h20 := gr_call g19 q20 rfl rfl
  refine r_putFN hX hP rfl rfl fq_X12_70_186 s20 (by decide) (Or.inr l20) (fun _ => ?_)
  have d20 := dn_up (j := 31) e20 l20 rfl
  have v20 := dv_up (j := 31) (x := n20) (dv_gr v19 q20 s19 (by decide) rfl) rfl
  clear v19
  have g20 := gr_up (a := this) (v := n20) (L := 186) (j := 31) h20 rfl
  clear e20 h20 d19 g19 q20 l20
  refine r_ex hX hP 2 (pc' := 162) (st' := [(0, 16), (2, this)]) (lo' := [(0, (2, this))]) rfl ?_
  refine r_newarrA hX hP rfl (L := 20) (n := 16) al_20 (by decide) rfl rfl rfl (tbg sg1 124 rfl rfl) (by decide) (Nat.le_of_ble_eq_true rfl) (Nat.le_of_ble_eq_true rfl) (fun n21 S21 G21 _ _ l21 q21 _ => ?_)
  have s21 := gr_lab q21 s20 (by decide)
  have e21 := dn_gr d20 q21 s20 (by decide) rfl rfl
  have h21 := gr_call g20 q21 rfl rfl
  refine r_putFN hX hP rfl rfl fq_X12_74_186 s21 (by decide) (Or.inr l21) (fun _ => ?_)
  have d21 := dn_up (j := 32) e21 l21 rfl
  have v21 := dv_up (j := 32) (x := n21) (dv_gr v20 q21 s20 (by decide) rfl) rfl
  clear v20
  have g21 := gr_up (a := this) (v := n21) (L := 186) (j := 32) h21 rfl
  clear e21 h21 d20 g20 q21 l21
  refine r_ex hX hP 2 (pc' := 170) (st' := [(0, 16), (2, this)]) (lo' := [(0, (2, this))]) rfl ?_
  refine r_newarrA hX hP rfl (L := 21) (n := 16) al_21 (by decide) rfl rfl rfl (tbg sg1 124 rfl rfl) (by decide) (Nat.le_of_ble_eq_true rfl) (Nat.le_of_ble_eq_true rfl) (fun n22 S22 G22 _ _ l22 q22 _ => ?_)
  have s22 := gr_lab q22 s21 (by decide)
  have e22 := dn_gr d21 q22 s21 (by decide) rfl rfl
  have h22 := gr_call g21 q22 rfl rfl
  refine r_putFN hX hP rfl rfl fq_X12_77_186 s22 (by decide) (Or.inr l22) (fun _ => ?_)
  have d22 := dn_up (j := 33) e22 l22 rfl
  have v22 := dv_up (j := 33) (x := n22) (dv_gr v21 q22 s21 (by decide) rfl) rfl
  clear v21
  have g22 := gr_up (a := this) (v := n22) (L := 186) (j := 33) h22 rfl
  clear e22 h22 d21 g21 q22 l22
  refine r_ex hX hP 2 (pc' := 178) (st' := [(0, 16), (2, this)]) (lo' := [(0, (2, this))]) rfl ?_
  refine r_newarrA hX hP rfl (L := 22) (n := 16) al_22 (by decide) rfl rfl rfl (tbg sg1 124 rfl rfl) (by decide) (Nat.le_of_ble_eq_true rfl) (Nat.le_of_ble_eq_true rfl) (fun n23 S23 G23 _ _ l23 q23 _ => ?_)
  have s23 := gr_lab q23 s22 (by decide)
  have e23 := dn_gr d22 q23 s22 (by decide) rfl rfl
  have h23 := gr_call g22 q23 rfl rfl
  refine r_putFN hX hP rfl rfl fq_X12_80_186 s23 (by decide) (Or.inr l23) (fun _ => ?_)
  have d23 := dn_up (j := 34) e23 l23 rfl
  have v23 := dv_up (j := 34) (x := n23) (dv_gr v22 q23 s22 (by decide) rfl) rfl
  clear v22
  have g23 := gr_up (a := this) (v := n23) (L := 186) (j := 34) h23 rfl
  clear e23 h23 d22 g22 q23 l23
  refine r_ex hX hP 2 (pc' := 186) (st' := [(0, 16), (2, this)]) (lo' := [(0, (2, this))]) rfl ?_
  refine r_newarrA hX hP rfl (L := 23) (n := 16) al_23 (by decide) rfl rfl rfl (tbg sg1 124 rfl rfl) (by decide) (Nat.le_of_ble_eq_true rfl) (Nat.le_of_ble_eq_true rfl) (fun n24 S24 G24 _ _ l24 q24 _ => ?_)
  have s24 := gr_lab q24 s23 (by decide)
  have e24 := dn_gr d23 q24 s23 (by decide) rfl rfl
  have h24 := gr_call g23 q24 rfl rfl
  refine r_putFN hX hP rfl rfl fq_X12_83_186 s24 (by decide) (Or.inr l24) (fun _ => ?_)
  have d24 := dn_up (j := 35) e24 l24 rfl
  have v24 := dv_up (j := 35) (x := n24) (dv_gr v23 q24 s23 (by decide) rfl) rfl
  clear v23
  have g24 := gr_up (a := this) (v := n24) (L := 186) (j := 35) h24 rfl
  clear e24 h24 d23 g23 q24 l24
  refine r_ex hX hP 2 (pc' := 194) (st' := [(0, 16), (2, this)]) (lo' := [(0, (2, this))]) rfl ?_
  refine r_newarrA hX hP rfl (L := 24) (n := 16) al_24 (by decide) rfl rfl rfl (tbg sg1 124 rfl rfl) (by decide) (Nat.le_of_ble_eq_true rfl) (Nat.le_of_ble_eq_true rfl) (fun n25 S25 G25 _ _ l25 q25 _ => ?_)
  have s25 := gr_lab q25 s24 (by decide)
  have e25 := dn_gr d24 q25 s24 (by decide) rfl rfl
  have h25 := gr_call g24 q25 rfl rfl
  refine r_putFN hX hP rfl rfl fq_X12_86_186 s25 (by decide) (Or.inr l25) (fun _ => ?_)
  have d25 := dn_up (j := 36) e25 l25 rfl
  have v25 := dv_up (j := 36) (x := n25) (dv_gr v24 q25 s24 (by decide) rfl) rfl
  clear v24
  have g25 := gr_up (a := this) (v := n25) (L := 186) (j := 36) h25 rfl
  clear e25 h25 d24 g24 q25 l25
  refine r_ex hX hP 2 (pc' := 202) (st' := [(0, 16), (2, this)]) (lo' := [(0, (2, this))]) rfl ?_
  refine r_newarrA hX hP rfl (L := 25) (n := 16) al_25 (by decide) rfl rfl rfl (tbg sg1 124 rfl rfl) (by decide) (Nat.le_of_ble_eq_true rfl) (Nat.le_of_ble_eq_true rfl) (fun n26 S26 G26 _ _ l26 q26 _ => ?_)
  have s26 := gr_lab q26 s25 (by decide)
  have e26 := dn_gr d25 q26 s25 (by decide) rfl rfl
  have h26 := gr_call g25 q26 rfl rfl
  refine r_putFN hX hP rfl rfl fq_X12_89_186 s26 (by decide) (Or.inr l26) (fun _ => ?_)
  have d26 := dn_up (j := 37) e26 l26 rfl
  have v26 := dv_up (j := 37) (x := n26) (dv_gr v25 q26 s25 (by decide) rfl) rfl
  clear v25
  have g26 := gr_up (a := this) (v := n26) (L := 186) (j := 37) h26 rfl
  clear e26 h26 d25 g25 q26 l26
  refine r_ex hX hP 2 (pc' := 210) (st' := [(0, 16), (2, this)]) (lo' := [(0, (2, this))]) rfl ?_
  refine r_newarrA hX hP rfl (L := 26) (n := 16) al_26 (by decide) rfl rfl rfl (tbg sg1 124 rfl rfl) (by decide) (Nat.le_of_ble_eq_true rfl) (Nat.le_of_ble_eq_true rfl) (fun n27 S27 G27 _ _ l27 q27 _ => ?_)
  have s27 := gr_lab q27 s26 (by decide)
  have e27 := dn_gr d26 q27 s26 (by decide) rfl rfl
  have h27 := gr_call g26 q27 rfl rfl
  refine r_putFN hX hP rfl rfl fq_X12_92_186 s27 (by decide) (Or.inr l27) (fun _ => ?_)
  have d27 := dn_up (j := 38) e27 l27 rfl
  have v27 := dv_up (j := 38) (x := n27) (dv_gr v26 q27 s26 (by decide) rfl) rfl
  clear v26
  have g27 := gr_up (a := this) (v := n27) (L := 186) (j := 38) h27 rfl
  clear e27 h27 d26 g26 q27 l27
  refine r_ex hX hP 2 (pc' := 218) (st' := [(0, 16), (2, this)]) (lo' := [(0, (2, this))]) rfl ?_
  refine r_newarrA hX hP rfl (L := 27) (n := 16) al_27 (by decide) rfl rfl rfl (tbg sg1 124 rfl rfl) (by decide) (Nat.le_of_ble_eq_true rfl) (Nat.le_of_ble_eq_true rfl) (fun n28 S28 G28 _ _ l28 q28 _ => ?_)
  have s28 := gr_lab q28 s27 (by decide)
  have e28 := dn_gr d27 q28 s27 (by decide) rfl rfl
  have h28 := gr_call g27 q28 rfl rfl
  refine r_putFN hX hP rfl rfl fq_X12_95_186 s28 (by decide) (Or.inr l28) (fun _ => ?_)
  have d28 := dn_up (j := 39) e28 l28 rfl
  have v28 := dv_up (j := 39) (x := n28) (dv_gr v27 q28 s27 (by decide) rfl) rfl
  clear v27
  have g28 := gr_up (a := this) (v := n28) (L := 186) (j := 39) h28 rfl
  clear e28 h28 d27 g27 q28 l28
  refine r_ex hX hP 2 (pc' := 226) (st' := [(0, 16), (2, this)]) (lo' := [(0, (2, this))]) rfl ?_
  refine r_newarrA hX hP rfl (L := 28) (n := 16) al_28 (by decide) rfl rfl rfl (tbg sg1 124 rfl rfl) (by decide) (Nat.le_of_ble_eq_true rfl) (Nat.le_of_ble_eq_true rfl) (fun n29 S29 G29 _ _ l29 q29 _ => ?_)
  have s29 := gr_lab q29 s28 (by decide)
  have e29 := dn_gr d28 q29 s28 (by decide) rfl rfl
  have h29 := gr_call g28 q29 rfl rfl
  refine r_putFN hX hP rfl rfl fq_X12_98_186 s29 (by decide) (Or.inr l29) (fun _ => ?_)
  have d29 := dn_up (j := 40) e29 l29 rfl
  have v29 := dv_up (j := 40) (x := n29) (dv_gr v28 q29 s28 (by decide) rfl) rfl
  clear v28
  have g29 := gr_up (a := this) (v := n29) (L := 186) (j := 40) h29 rfl
  clear e29 h29 d28 g28 q29 l29
  refine r_ex hX hP 2 (pc' := 235) (st' := [(0, 480), (2, this)]) (lo' := [(0, (2, this))]) rfl ?_
  refine r_newarrA hX hP rfl (L := 29) (n := 480) al_29 (by decide) rfl rfl rfl (tbg sg1 124 rfl rfl) (by decide) (Nat.le_of_ble_eq_true rfl) (Nat.le_of_ble_eq_true rfl) (fun n30 S30 G30 _ _ l30 q30 _ => ?_)
  have s30 := gr_lab q30 s29 (by decide)
  have e30 := dn_gr d29 q30 s29 (by decide) rfl rfl
  have h30 := gr_call g29 q30 rfl rfl
  refine r_putFN hX hP rfl rfl fq_X12_101_186 s30 (by decide) (Or.inr l30) (fun _ => ?_)
  have d30 := dn_up (j := 41) e30 l30 rfl
  have v30 := dv_up (j := 41) (x := n30) (dv_gr v29 q30 s29 (by decide) rfl) rfl
  clear v29
  have g30 := gr_up (a := this) (v := n30) (L := 186) (j := 41) h30 rfl
  clear e30 h30 d29 g29 q30 l30
  refine r_ex hX hP 2 (pc' := 244) (st' := [(0, 480), (2, this)]) (lo' := [(0, (2, this))]) rfl ?_
  refine r_newarrA hX hP rfl (L := 30) (n := 480) al_30 (by decide) rfl rfl rfl (tbg sg1 124 rfl rfl) (by decide) (Nat.le_of_ble_eq_true rfl) (Nat.le_of_ble_eq_true rfl) (fun n31 S31 G31 _ _ l31 q31 _ => ?_)
  have s31 := gr_lab q31 s30 (by decide)
  have e31 := dn_gr d30 q31 s30 (by decide) rfl rfl
  have h31 := gr_call g30 q31 rfl rfl
  refine r_putFN hX hP rfl rfl fq_X12_104_186 s31 (by decide) (Or.inr l31) (fun _ => ?_)
  have d31 := dn_up (j := 42) e31 l31 rfl
  have v31 := dv_up (j := 42) (x := n31) (dv_gr v30 q31 s30 (by decide) rfl) rfl
  clear v30
  have g31 := gr_up (a := this) (v := n31) (L := 186) (j := 42) h31 rfl
  clear e31 h31 d30 g30 q31 l31
  refine r_ex hX hP 2 (pc' := 253) (st' := [(0, 480), (2, this)]) (lo' := [(0, (2, this))]) rfl ?_
  refine r_newarrA hX hP rfl (L := 31) (n := 480) al_31 (by decide) rfl rfl rfl (tbg sg1 124 rfl rfl) (by decide) (Nat.le_of_ble_eq_true rfl) (Nat.le_of_ble_eq_true rfl) (fun n32 S32 G32 _ _ l32 q32 _ => ?_)
  have s32 := gr_lab q32 s31 (by decide)
  have e32 := dn_gr d31 q32 s31 (by decide) rfl rfl
  have h32 := gr_call g31 q32 rfl rfl
  refine r_putFN hX hP rfl rfl fq_X12_107_186 s32 (by decide) (Or.inr l32) (fun _ => ?_)
  have d32 := dn_up (j := 43) e32 l32 rfl
  have v32 := dv_up (j := 43) (x := n32) (dv_gr v31 q32 s31 (by decide) rfl) rfl
  clear v31
  have g32 := gr_up (a := this) (v := n32) (L := 186) (j := 43) h32 rfl
  clear e32 h32 d31 g31 q32 l32
  refine r_ex hX hP 2 (pc' := 262) (st' := [(0, 480), (2, this)]) (lo' := [(0, (2, this))]) rfl ?_
  refine r_newarrA hX hP rfl (L := 32) (n := 480) al_32 (by decide) rfl rfl rfl (tbg sg1 124 rfl rfl) (by decide) (Nat.le_of_ble_eq_true rfl) (Nat.le_of_ble_eq_true rfl) (fun n33 S33 G33 _ _ l33 q33 _ => ?_)
  have s33 := gr_lab q33 s32 (by decide)
  have e33 := dn_gr d32 q33 s32 (by decide) rfl rfl
  have h33 := gr_call g32 q33 rfl rfl
  refine r_putFN hX hP rfl rfl fq_X12_110_186 s33 (by decide) (Or.inr l33) (fun _ => ?_)
  have d33 := dn_up (j := 44) e33 l33 rfl
  have v33 := dv_up (j := 44) (x := n33) (dv_gr v32 q33 s32 (by decide) rfl) rfl
  clear v32
  have g33 := gr_up (a := this) (v := n33) (L := 186) (j := 44) h33 rfl
  clear e33 h33 d32 g32 q33 l33
  refine r_ex hX hP 2 (pc' := 271) (st' := [(0, 480), (2, this)]) (lo' := [(0, (2, this))]) rfl ?_
  refine r_newarrA hX hP rfl (L := 33) (n := 480) al_33 (by decide) rfl rfl rfl (tbg sg1 124 rfl rfl) (by decide) (Nat.le_of_ble_eq_true rfl) (Nat.le_of_ble_eq_true rfl) (fun n34 S34 G34 _ _ l34 q34 _ => ?_)
  have s34 := gr_lab q34 s33 (by decide)
  have e34 := dn_gr d33 q34 s33 (by decide) rfl rfl
  have h34 := gr_call g33 q34 rfl rfl
  refine r_putFN hX hP rfl rfl fq_X12_113_186 s34 (by decide) (Or.inr l34) (fun _ => ?_)
  have d34 := dn_up (j := 45) e34 l34 rfl
  have v34 := dv_up (j := 45) (x := n34) (dv_gr v33 q34 s33 (by decide) rfl) rfl
  clear v33
  have g34 := gr_up (a := this) (v := n34) (L := 186) (j := 45) h34 rfl
  clear e34 h34 d33 g33 q34 l34
  refine r_ex hX hP 2 (pc' := 280) (st' := [(0, 480), (2, this)]) (lo' := [(0, (2, this))]) rfl ?_
  refine r_newarrA hX hP rfl (L := 34) (n := 480) al_34 (by decide) rfl rfl rfl (tbg sg1 124 rfl rfl) (by decide) (Nat.le_of_ble_eq_true rfl) (Nat.le_of_ble_eq_true rfl) (fun n35 S35 G35 _ _ l35 q35 _ => ?_)
  have s35 := gr_lab q35 s34 (by decide)
  have e35 := dn_gr d34 q35 s34 (by decide) rfl rfl
  have h35 := gr_call g34 q35 rfl rfl
  refine r_putFN hX hP rfl rfl fq_X12_116_186 s35 (by decide) (Or.inr l35) (fun _ => ?_)
  have d35 := dn_up (j := 46) e35 l35 rfl
  have v35 := dv_up (j := 46) (x := n35) (dv_gr v34 q35 s34 (by decide) rfl) rfl
  clear v34
  have g35 := gr_up (a := this) (v := n35) (L := 186) (j := 46) h35 rfl
  clear e35 h35 d34 g34 q35 l35
  refine r_ex hX hP 2 (pc' := 288) (st' := [(0, 48), (2, this)]) (lo' := [(0, (2, this))]) rfl ?_
  refine r_newarrA hX hP rfl (L := 35) (n := 48) al_35 (by decide) rfl rfl rfl (tbg sg1 124 rfl rfl) (by decide) (Nat.le_of_ble_eq_true rfl) (Nat.le_of_ble_eq_true rfl) (fun n36 S36 G36 _ _ l36 q36 _ => ?_)
  have s36 := gr_lab q36 s35 (by decide)
  have e36 := dn_gr d35 q36 s35 (by decide) rfl rfl
  have h36 := gr_call g35 q36 rfl rfl
  refine r_putFN hX hP rfl rfl fq_X12_119_186 s36 (by decide) (Or.inr l36) (fun _ => ?_)
  have d36 := dn_up (j := 47) e36 l36 rfl
  have v36 := dv_up (j := 47) (x := n36) (dv_gr v35 q36 s35 (by decide) rfl) rfl
  clear v35
  have g36 := gr_up (a := this) (v := n36) (L := 186) (j := 47) h36 rfl
  clear e36 h36 d35 g35 q36 l36
  refine r_ex hX hP 2 (pc' := 296) (st' := [(0, 48), (2, this)]) (lo' := [(0, (2, this))]) rfl ?_
  refine r_newarrA hX hP rfl (L := 36) (n := 48) al_36 (by decide) rfl rfl rfl (tbg sg1 124 rfl rfl) (by decide) (Nat.le_of_ble_eq_true rfl) (Nat.le_of_ble_eq_true rfl) (fun n37 S37 G37 _ _ l37 q37 _ => ?_)
  have s37 := gr_lab q37 s36 (by decide)
  have e37 := dn_gr d36 q37 s36 (by decide) rfl rfl
  have h37 := gr_call g36 q37 rfl rfl
  refine r_putFN hX hP rfl rfl fq_X12_122_186 s37 (by decide) (Or.inr l37) (fun _ => ?_)
  have d37 := dn_up (j := 48) e37 l37 rfl
  have v37 := dv_up (j := 48) (x := n37) (dv_gr v36 q37 s36 (by decide) rfl) rfl
  clear v36
  have g37 := gr_up (a := this) (v := n37) (L := 186) (j := 48) h37 rfl
  clear e37 h37 d36 g36 q37 l37
  refine r_ex hX hP 2 (pc' := 304) (st' := [(0, 48), (2, this)]) (lo' := [(0, (2, this))]) rfl ?_
  refine r_newarrA hX hP rfl (L := 37) (n := 48) al_37 (by decide) rfl rfl rfl (tbg sg1 124 rfl rfl) (by decide) (Nat.le_of_ble_eq_true rfl) (Nat.le_of_ble_eq_true rfl) (fun n38 S38 G38 _ _ l38 q38 _ => ?_)
  have s38 := gr_lab q38 s37 (by decide)
  have e38 := dn_gr d37 q38 s37 (by decide) rfl rfl
  have h38 := gr_call g37 q38 rfl rfl
  refine r_putFN hX hP rfl rfl fq_X12_125_186 s38 (by decide) (Or.inr l38) (fun _ => ?_)
  have d38 := dn_up (j := 49) e38 l38 rfl
  have v38 := dv_up (j := 49) (x := n38) (dv_gr v37 q38 s37 (by decide) rfl) rfl
  clear v37
  have g38 := gr_up (a := this) (v := n38) (L := 186) (j := 49) h38 rfl
  clear e38 h38 d37 g37 q38 l38
  refine r_ex hX hP 2 (pc' := 312) (st' := [(0, 60), (2, this)]) (lo' := [(0, (2, this))]) rfl ?_
  refine r_newarrA hX hP rfl (L := 38) (n := 60) al_38 (by decide) rfl rfl rfl (tbg sg1 124 rfl rfl) (by decide) (Nat.le_of_ble_eq_true rfl) (Nat.le_of_ble_eq_true rfl) (fun n39 S39 G39 _ _ l39 q39 _ => ?_)
  have s39 := gr_lab q39 s38 (by decide)
  have e39 := dn_gr d38 q39 s38 (by decide) rfl rfl
  have h39 := gr_call g38 q39 rfl rfl
  refine r_putFN hX hP rfl rfl fq_X12_128_186 s39 (by decide) (Or.inr l39) (fun _ => ?_)
  have d39 := dn_up (j := 50) e39 l39 rfl
  have v39 := dv_up (j := 50) (x := n39) (dv_gr v38 q39 s38 (by decide) rfl) rfl
  clear v38
  have g39 := gr_up (a := this) (v := n39) (L := 186) (j := 50) h39 rfl
  clear e39 h39 d38 g38 q39 l39
  refine r_ex hX hP 2 (pc' := 320) (st' := [(0, 60), (2, this)]) (lo' := [(0, (2, this))]) rfl ?_
  refine r_newarrA hX hP rfl (L := 39) (n := 60) al_39 (by decide) rfl rfl rfl (tbg sg1 124 rfl rfl) (by decide) (Nat.le_of_ble_eq_true rfl) (Nat.le_of_ble_eq_true rfl) (fun n40 S40 G40 _ _ l40 q40 _ => ?_)
  have s40 := gr_lab q40 s39 (by decide)
  have e40 := dn_gr d39 q40 s39 (by decide) rfl rfl
  have h40 := gr_call g39 q40 rfl rfl
  refine r_putFN hX hP rfl rfl fq_X12_131_186 s40 (by decide) (Or.inr l40) (fun _ => ?_)
  have d40 := dn_up (j := 51) e40 l40 rfl
  have v40 := dv_up (j := 51) (x := n40) (dv_gr v39 q40 s39 (by decide) rfl) rfl
  clear v39
  have g40 := gr_up (a := this) (v := n40) (L := 186) (j := 51) h40 rfl
  clear e40 h40 d39 g39 q40 l40
  refine r_ex hX hP 2 (pc' := 328) (st' := [(0, 60), (2, this)]) (lo' := [(0, (2, this))]) rfl ?_
  refine r_newarrA hX hP rfl (L := 40) (n := 60) al_40 (by decide) rfl rfl rfl (tbg sg1 124 rfl rfl) (by decide) (Nat.le_of_ble_eq_true rfl) (Nat.le_of_ble_eq_true rfl) (fun n41 S41 G41 _ _ l41 q41 _ => ?_)
  have s41 := gr_lab q41 s40 (by decide)
  have e41 := dn_gr d40 q41 s40 (by decide) rfl rfl
  have h41 := gr_call g40 q41 rfl rfl
  refine r_putFN hX hP rfl rfl fq_X12_134_186 s41 (by decide) (Or.inr l41) (fun _ => ?_)
  have d41 := dn_up (j := 52) e41 l41 rfl
  have v41 := dv_up (j := 52) (x := n41) (dv_gr v40 q41 s40 (by decide) rfl) rfl
  clear v40
  have g41 := gr_up (a := this) (v := n41) (L := 186) (j := 52) h41 rfl
  clear e41 h41 d40 g40 q41 l41
  refine r_ex hX hP 2 (pc' := 336) (st' := [(0, 60), (2, this)]) (lo' := [(0, (2, this))]) rfl ?_
  refine r_newarrA hX hP rfl (L := 41) (n := 60) al_41 (by decide) rfl rfl rfl (tbg sg1 124 rfl rfl) (by decide) (Nat.le_of_ble_eq_true rfl) (Nat.le_of_ble_eq_true rfl) (fun n42 S42 G42 _ _ l42 q42 _ => ?_)
  have s42 := gr_lab q42 s41 (by decide)
  have e42 := dn_gr d41 q42 s41 (by decide) rfl rfl
  have h42 := gr_call g41 q42 rfl rfl
  refine r_putFN hX hP rfl rfl fq_X12_137_186 s42 (by decide) (Or.inr l42) (fun _ => ?_)
  have d42 := dn_up (j := 53) e42 l42 rfl
  have v42 := dv_up (j := 53) (x := n42) (dv_gr v41 q42 s41 (by decide) rfl) rfl
  clear v41
  have g42 := gr_up (a := this) (v := n42) (L := 186) (j := 53) h42 rfl
  clear e42 h42 d41 g41 q42 l42
  refine r_ex hX hP 2 (pc' := 344) (st' := [(0, 60), (2, this)]) (lo' := [(0, (2, this))]) rfl ?_
  refine r_newarrA hX hP rfl (L := 42) (n := 60) al_42 (by decide) rfl rfl rfl (tbg sg1 124 rfl rfl) (by decide) (Nat.le_of_ble_eq_true rfl) (Nat.le_of_ble_eq_true rfl) (fun n43 S43 G43 _ _ l43 q43 _ => ?_)
  have s43 := gr_lab q43 s42 (by decide)
  have e43 := dn_gr d42 q43 s42 (by decide) rfl rfl
  have h43 := gr_call g42 q43 rfl rfl
  refine r_putFN hX hP rfl rfl fq_X12_140_186 s43 (by decide) (Or.inr l43) (fun _ => ?_)
  have d43 := dn_up (j := 54) e43 l43 rfl
  have v43 := dv_up (j := 54) (x := n43) (dv_gr v42 q43 s42 (by decide) rfl) rfl
  clear v42
  have g43 := gr_up (a := this) (v := n43) (L := 186) (j := 54) h43 rfl
  clear e43 h43 d42 g42 q43 l43
  refine r_ex hX hP 2 (pc' := 352) (st' := [(0, 60), (2, this)]) (lo' := [(0, (2, this))]) rfl ?_
  refine r_newarrA hX hP rfl (L := 43) (n := 60) al_43 (by decide) rfl rfl rfl (tbg sg1 124 rfl rfl) (by decide) (Nat.le_of_ble_eq_true rfl) (Nat.le_of_ble_eq_true rfl) (fun n44 S44 G44 _ _ l44 q44 _ => ?_)
  have s44 := gr_lab q44 s43 (by decide)
  have e44 := dn_gr d43 q44 s43 (by decide) rfl rfl
  have h44 := gr_call g43 q44 rfl rfl
  refine r_putFN hX hP rfl rfl fq_X12_143_186 s44 (by decide) (Or.inr l44) (fun _ => ?_)
  have d44 := dn_up (j := 55) e44 l44 rfl
  have v44 := dv_up (j := 55) (x := n44) (dv_gr v43 q44 s43 (by decide) rfl) rfl
  clear v43
  have g44 := gr_up (a := this) (v := n44) (L := 186) (j := 55) h44 rfl
  clear e44 h44 d43 g43 q44 l44
  refine r_ex hX hP 2 (pc' := 360) (st' := [(0, 10), (2, this)]) (lo' := [(0, (2, this))]) rfl ?_
  refine r_newarrA hX hP rfl (L := 44) (n := 10) al_44 (by decide) rfl rfl rfl (tbg sg1 124 rfl rfl) (by decide) (Nat.le_of_ble_eq_true rfl) (Nat.le_of_ble_eq_true rfl) (fun n45 S45 G45 _ _ l45 q45 _ => ?_)
  have s45 := gr_lab q45 s44 (by decide)
  have e45 := dn_gr d44 q45 s44 (by decide) rfl rfl
  have h45 := gr_call g44 q45 rfl rfl
  refine r_putFN hX hP rfl rfl fq_X12_146_186 s45 (by decide) (Or.inr l45) (fun _ => ?_)
  have d45 := dn_up (j := 56) e45 l45 rfl
  have v45 := dv_up (j := 56) (x := n45) (dv_gr v44 q45 s44 (by decide) rfl) rfl
  clear v44
  have g45 := gr_up (a := this) (v := n45) (L := 186) (j := 56) h45 rfl
  clear e45 h45 d44 g44 q45 l45
  refine r_ex hX hP 2 (pc' := 368) (st' := [(0, 10), (2, this)]) (lo' := [(0, (2, this))]) rfl ?_
  refine r_newarrA hX hP rfl (L := 45) (n := 10) al_45 (by decide) rfl rfl rfl (tbg sg1 124 rfl rfl) (by decide) (Nat.le_of_ble_eq_true rfl) (Nat.le_of_ble_eq_true rfl) (fun n46 S46 G46 _ _ l46 q46 _ => ?_)
  have s46 := gr_lab q46 s45 (by decide)
  have e46 := dn_gr d45 q46 s45 (by decide) rfl rfl
  have h46 := gr_call g45 q46 rfl rfl
  refine r_putFN hX hP rfl rfl fq_X12_149_186 s46 (by decide) (Or.inr l46) (fun _ => ?_)
  have d46 := dn_up (j := 57) e46 l46 rfl
  have v46 := dv_up (j := 57) (x := n46) (dv_gr v45 q46 s45 (by decide) rfl) rfl
  clear v45
  have g46 := gr_up (a := this) (v := n46) (L := 186) (j := 57) h46 rfl
  clear e46 h46 d45 g45 q46 l46
  refine r_ex hX hP 2 (pc' := 376) (st' := [(0, 10), (2, this)]) (lo' := [(0, (2, this))]) rfl ?_
  refine r_newarrA hX hP rfl (L := 46) (n := 10) al_46 (by decide) rfl rfl rfl (tbg sg1 124 rfl rfl) (by decide) (Nat.le_of_ble_eq_true rfl) (Nat.le_of_ble_eq_true rfl) (fun n47 S47 G47 _ _ l47 q47 _ => ?_)
  have s47 := gr_lab q47 s46 (by decide)
  have e47 := dn_gr d46 q47 s46 (by decide) rfl rfl
  have h47 := gr_call g46 q47 rfl rfl
  refine r_putFN hX hP rfl rfl fq_X12_152_186 s47 (by decide) (Or.inr l47) (fun _ => ?_)
  have d47 := dn_up (j := 58) e47 l47 rfl
  have v47 := dv_up (j := 58) (x := n47) (dv_gr v46 q47 s46 (by decide) rfl) rfl
  clear v46
  have g47 := gr_up (a := this) (v := n47) (L := 186) (j := 58) h47 rfl
  clear e47 h47 d46 g46 q47 l47
  refine r_ex hX hP 2 (pc' := 384) (st' := [(0, 10), (2, this)]) (lo' := [(0, (2, this))]) rfl ?_
  refine r_newarrA hX hP rfl (L := 47) (n := 10) al_47 (by decide) rfl rfl rfl (tbg sg1 124 rfl rfl) (by decide) (Nat.le_of_ble_eq_true rfl) (Nat.le_of_ble_eq_true rfl) (fun n48 S48 G48 _ _ l48 q48 _ => ?_)
  have s48 := gr_lab q48 s47 (by decide)
  have e48 := dn_gr d47 q48 s47 (by decide) rfl rfl
  have h48 := gr_call g47 q48 rfl rfl
  refine r_putFN hX hP rfl rfl fq_X12_155_186 s48 (by decide) (Or.inr l48) (fun _ => ?_)
  have d48 := dn_up (j := 59) e48 l48 rfl
  have v48 := dv_up (j := 59) (x := n48) (dv_gr v47 q48 s47 (by decide) rfl) rfl
  clear v47
  have g48 := gr_up (a := this) (v := n48) (L := 186) (j := 59) h48 rfl
  clear e48 h48 d47 g47 q48 l48
  refine r_ex hX hP 2 (pc' := 392) (st' := [(0, 10), (2, this)]) (lo' := [(0, (2, this))]) rfl ?_
  refine r_newarrA hX hP rfl (L := 48) (n := 10) al_48 (by decide) rfl rfl rfl (tbg sg1 124 rfl rfl) (by decide) (Nat.le_of_ble_eq_true rfl) (Nat.le_of_ble_eq_true rfl) (fun n49 S49 G49 _ _ l49 q49 _ => ?_)
  have s49 := gr_lab q49 s48 (by decide)
  have e49 := dn_gr d48 q49 s48 (by decide) rfl rfl
  have h49 := gr_call g48 q49 rfl rfl
  refine r_putFN hX hP rfl rfl fq_X12_158_186 s49 (by decide) (Or.inr l49) (fun _ => ?_)
  have d49 := dn_up (j := 60) e49 l49 rfl
  have v49 := dv_up (j := 60) (x := n49) (dv_gr v48 q49 s48 (by decide) rfl) rfl
  clear v48
  have g49 := gr_up (a := this) (v := n49) (L := 186) (j := 60) h49 rfl
  clear e49 h49 d48 g48 q49 l49
  refine r_ex hX hP 2 (pc' := 400) (st' := [(0, 20), (2, this)]) (lo' := [(0, (2, this))]) rfl ?_
  refine r_newarrA hX hP rfl (L := 49) (n := 20) al_49 (by decide) rfl rfl rfl (tbg sg1 124 rfl rfl) (by decide) (Nat.le_of_ble_eq_true rfl) (Nat.le_of_ble_eq_true rfl) (fun n50 S50 G50 _ _ l50 q50 _ => ?_)
  have s50 := gr_lab q50 s49 (by decide)
  have e50 := dn_gr d49 q50 s49 (by decide) rfl rfl
  have h50 := gr_call g49 q50 rfl rfl
  refine r_putFN hX hP rfl rfl fq_X12_161_186 s50 (by decide) (Or.inr l50) (fun _ => ?_)
  have d50 := dn_up (j := 61) e50 l50 rfl
  have v50 := dv_up (j := 61) (x := n50) (dv_gr v49 q50 s49 (by decide) rfl) rfl
  clear v49
  have g50 := gr_up (a := this) (v := n50) (L := 186) (j := 61) h50 rfl
  clear e50 h50 d49 g49 q50 l50
  refine r_ex hX hP 2 (pc' := 408) (st' := [(0, 60), (2, this)]) (lo' := [(0, (2, this))]) rfl ?_
  refine r_newarrA hX hP rfl (L := 50) (n := 60) al_50 (by decide) rfl rfl rfl (tbg sg1 124 rfl rfl) (by decide) (Nat.le_of_ble_eq_true rfl) (Nat.le_of_ble_eq_true rfl) (fun n51 S51 G51 _ _ l51 q51 _ => ?_)
  have s51 := gr_lab q51 s50 (by decide)
  have e51 := dn_gr d50 q51 s50 (by decide) rfl rfl
  have h51 := gr_call g50 q51 rfl rfl
  refine r_putFN hX hP rfl rfl fq_X12_164_186 s51 (by decide) (Or.inr l51) (fun _ => ?_)
  have d51 := dn_up (j := 62) e51 l51 rfl
  have v51 := dv_up (j := 62) (x := n51) (dv_gr v50 q51 s50 (by decide) rfl) rfl
  clear v50
  have g51 := gr_up (a := this) (v := n51) (L := 186) (j := 62) h51 rfl
  clear e51 h51 d50 g50 q51 l51
  refine r_ex hX hP 2 (pc' := 416) (st' := [(0, 60), (2, this)]) (lo' := [(0, (2, this))]) rfl ?_
  refine r_newarrA hX hP rfl (L := 51) (n := 60) al_51 (by decide) rfl rfl rfl (tbg sg1 124 rfl rfl) (by decide) (Nat.le_of_ble_eq_true rfl) (Nat.le_of_ble_eq_true rfl) (fun n52 S52 G52 _ _ l52 q52 _ => ?_)
  have s52 := gr_lab q52 s51 (by decide)
  have e52 := dn_gr d51 q52 s51 (by decide) rfl rfl
  have h52 := gr_call g51 q52 rfl rfl
  refine r_putFN hX hP rfl rfl fq_X12_167_186 s52 (by decide) (Or.inr l52) (fun _ => ?_)
  have d52 := dn_up (j := 63) e52 l52 rfl
  have v52 := dv_up (j := 63) (x := n52) (dv_gr v51 q52 s51 (by decide) rfl) rfl
  clear v51
  have g52 := gr_up (a := this) (v := n52) (L := 186) (j := 63) h52 rfl
  clear e52 h52 d51 g51 q52 l52
  refine r_ex hX hP 2 (pc' := 424) (st' := [(0, 60), (2, this)]) (lo' := [(0, (2, this))]) rfl ?_
  refine r_newarrA hX hP rfl (L := 52) (n := 60) al_52 (by decide) rfl rfl rfl (tbg sg1 124 rfl rfl) (by decide) (Nat.le_of_ble_eq_true rfl) (Nat.le_of_ble_eq_true rfl) (fun n53 S53 G53 _ _ l53 q53 _ => ?_)
  have s53 := gr_lab q53 s52 (by decide)
  have e53 := dn_gr d52 q53 s52 (by decide) rfl rfl
  have h53 := gr_call g52 q53 rfl rfl
  refine r_putFN hX hP rfl rfl fq_X12_170_186 s53 (by decide) (Or.inr l53) (fun _ => ?_)
  have d53 := dn_up (j := 64) e53 l53 rfl
  have v53 := dv_up (j := 64) (x := n53) (dv_gr v52 q53 s52 (by decide) rfl) rfl
  clear v52
  have g53 := gr_up (a := this) (v := n53) (L := 186) (j := 64) h53 rfl
  clear e53 h53 d52 g52 q53 l53
  refine r_ex hX hP 2 (pc' := 432) (st' := [(0, 60), (2, this)]) (lo' := [(0, (2, this))]) rfl ?_
  refine r_newarrA hX hP rfl (L := 53) (n := 60) al_53 (by decide) rfl rfl rfl (tbg sg1 124 rfl rfl) (by decide) (Nat.le_of_ble_eq_true rfl) (Nat.le_of_ble_eq_true rfl) (fun n54 S54 G54 _ _ l54 q54 _ => ?_)
  have s54 := gr_lab q54 s53 (by decide)
  have e54 := dn_gr d53 q54 s53 (by decide) rfl rfl
  have h54 := gr_call g53 q54 rfl rfl
  refine r_putFN hX hP rfl rfl fq_X12_173_186 s54 (by decide) (Or.inr l54) (fun _ => ?_)
  have d54 := dn_up (j := 65) e54 l54 rfl
  have v54 := dv_up (j := 65) (x := n54) (dv_gr v53 q54 s53 (by decide) rfl) rfl
  clear v53
  have g54 := gr_up (a := this) (v := n54) (L := 186) (j := 65) h54 rfl
  clear e54 h54 d53 g53 q54 l54
  refine r_ex hX hP 2 (pc' := 440) (st' := [(0, 12), (2, this)]) (lo' := [(0, (2, this))]) rfl ?_
  refine r_newarrA hX hP rfl (L := 54) (n := 12) al_54 (by decide) rfl rfl rfl (tbg sg1 124 rfl rfl) (by decide) (Nat.le_of_ble_eq_true rfl) (Nat.le_of_ble_eq_true rfl) (fun n55 S55 G55 _ _ l55 q55 _ => ?_)
  have s55 := gr_lab q55 s54 (by decide)
  have e55 := dn_gr d54 q55 s54 (by decide) rfl rfl
  have h55 := gr_call g54 q55 rfl rfl
  refine r_putFN hX hP rfl rfl fq_X12_176_186 s55 (by decide) (Or.inr l55) (fun _ => ?_)
  have d55 := dn_up (j := 66) e55 l55 rfl
  have v55 := dv_up (j := 66) (x := n55) (dv_gr v54 q55 s54 (by decide) rfl) rfl
  clear v54
  have g55 := gr_up (a := this) (v := n55) (L := 186) (j := 66) h55 rfl
  clear e55 h55 d54 g54 q55 l55
  refine r_ex hX hP 2 (pc' := 448) (st' := [(0, 12), (2, this)]) (lo' := [(0, (2, this))]) rfl ?_
  refine r_newarrA hX hP rfl (L := 55) (n := 12) al_55 (by decide) rfl rfl rfl (tbg sg1 124 rfl rfl) (by decide) (Nat.le_of_ble_eq_true rfl) (Nat.le_of_ble_eq_true rfl) (fun n56 S56 G56 _ _ l56 q56 _ => ?_)
  have s56 := gr_lab q56 s55 (by decide)
  have e56 := dn_gr d55 q56 s55 (by decide) rfl rfl
  have h56 := gr_call g55 q56 rfl rfl
  refine r_putFN hX hP rfl rfl fq_X12_179_186 s56 (by decide) (Or.inr l56) (fun _ => ?_)
  have d56 := dn_up (j := 67) e56 l56 rfl
  have v56 := dv_up (j := 67) (x := n56) (dv_gr v55 q56 s55 (by decide) rfl) rfl
  clear v55
  have g56 := gr_up (a := this) (v := n56) (L := 186) (j := 67) h56 rfl
  clear e56 h56 d55 g55 q56 l56
  refine r_ex hX hP 2 (pc' := 456) (st' := [(0, 12), (2, this)]) (lo' := [(0, (2, this))]) rfl ?_
  refine r_newarrA hX hP rfl (L := 56) (n := 12) al_56 (by decide) rfl rfl rfl (tbg sg1 124 rfl rfl) (by decide) (Nat.le_of_ble_eq_true rfl) (Nat.le_of_ble_eq_true rfl) (fun n57 S57 G57 _ _ l57 q57 _ => ?_)
  have s57 := gr_lab q57 s56 (by decide)
  have e57 := dn_gr d56 q57 s56 (by decide) rfl rfl
  have h57 := gr_call g56 q57 rfl rfl
  refine r_putFN hX hP rfl rfl fq_X12_182_186 s57 (by decide) (Or.inr l57) (fun _ => ?_)
  have d57 := dn_up (j := 68) e57 l57 rfl
  have v57 := dv_up (j := 68) (x := n57) (dv_gr v56 q57 s56 (by decide) rfl) rfl
  clear v56
  have g57 := gr_up (a := this) (v := n57) (L := 186) (j := 68) h57 rfl
  clear e57 h57 d56 g56 q57 l57
  refine r_ex hX hP 2 (pc' := 464) (st' := [(0, 12), (2, this)]) (lo' := [(0, (2, this))]) rfl ?_
  refine r_newarrA hX hP rfl (L := 57) (n := 12) al_57 (by decide) rfl rfl rfl (tbg sg1 124 rfl rfl) (by decide) (Nat.le_of_ble_eq_true rfl) (Nat.le_of_ble_eq_true rfl) (fun n58 S58 G58 _ _ l58 q58 _ => ?_)
  have s58 := gr_lab q58 s57 (by decide)
  have e58 := dn_gr d57 q58 s57 (by decide) rfl rfl
  have h58 := gr_call g57 q58 rfl rfl
  refine r_putFN hX hP rfl rfl fq_X12_185_186 s58 (by decide) (Or.inr l58) (fun _ => ?_)
  have d58 := dn_up (j := 69) e58 l58 rfl
  have v58 := dv_up (j := 69) (x := n58) (dv_gr v57 q58 s57 (by decide) rfl) rfl
  clear v57
  have g58 := gr_up (a := this) (v := n58) (L := 186) (j := 69) h58 rfl
  clear e58 h58 d57 g57 q58 l58
  refine r_ex hX hP 2 (pc' := 472) (st' := [(0, 12), (2, this)]) (lo' := [(0, (2, this))]) rfl ?_
  refine r_newarrA hX hP rfl (L := 58) (n := 12) al_58 (by decide) rfl rfl rfl (tbg sg1 124 rfl rfl) (by decide) (Nat.le_of_ble_eq_true rfl) (Nat.le_of_ble_eq_true rfl) (fun n59 S59 G59 _ _ l59 q59 _ => ?_)
  have s59 := gr_lab q59 s58 (by decide)
  have e59 := dn_gr d58 q59 s58 (by decide) rfl rfl
  have h59 := gr_call g58 q59 rfl rfl
  refine r_putFN hX hP rfl rfl fq_X12_188_186 s59 (by decide) (Or.inr l59) (fun _ => ?_)
  have d59 := dn_up (j := 70) e59 l59 rfl
  have v59 := dv_up (j := 70) (x := n59) (dv_gr v58 q59 s58 (by decide) rfl) rfl
  clear v58
  have g59 := gr_up (a := this) (v := n59) (L := 186) (j := 70) h59 rfl
  clear e59 h59 d58 g58 q59 l59
  refine r_ex hX hP 2 (pc' := 480) (st' := [(0, 12), (2, this)]) (lo' := [(0, (2, this))]) rfl ?_
  refine r_newarrA hX hP rfl (L := 59) (n := 12) al_59 (by decide) rfl rfl rfl (tbg sg1 124 rfl rfl) (by decide) (Nat.le_of_ble_eq_true rfl) (Nat.le_of_ble_eq_true rfl) (fun n60 S60 G60 _ _ l60 q60 _ => ?_)
  have s60 := gr_lab q60 s59 (by decide)
  have e60 := dn_gr d59 q60 s59 (by decide) rfl rfl
  have h60 := gr_call g59 q60 rfl rfl
  refine r_putFN hX hP rfl rfl fq_X12_191_186 s60 (by decide) (Or.inr l60) (fun _ => ?_)
  have d60 := dn_up (j := 71) e60 l60 rfl
  have v60 := dv_up (j := 71) (x := n60) (dv_gr v59 q60 s59 (by decide) rfl) rfl
  clear v59
  have g60 := gr_up (a := this) (v := n60) (L := 186) (j := 71) h60 rfl
  clear e60 h60 d59 g59 q60 l60
  refine r_ex hX hP 2 (pc' := 488) (st' := [(0, 12), (2, this)]) (lo' := [(0, (2, this))]) rfl ?_
  refine r_newarrA hX hP rfl (L := 60) (n := 12) al_60 (by decide) rfl rfl rfl (tbg sg2 147 rfl rfl) (by decide) (Nat.le_of_ble_eq_true rfl) (Nat.le_of_ble_eq_true rfl) (fun n61 S61 G61 _ _ l61 q61 _ => ?_)
  have s61 := gr_lab q61 s60 (by decide)
  have e61 := dn_gr d60 q61 s60 (by decide) rfl rfl
  have h61 := gr_call g60 q61 rfl rfl
  refine r_putFN hX hP rfl rfl fq_X12_194_186 s61 (by decide) (Or.inr l61) (fun _ => ?_)
  have d61 := dn_up (j := 72) e61 l61 rfl
  have v61 := dv_up (j := 72) (x := n61) (dv_gr v60 q61 s60 (by decide) rfl) rfl
  clear v60
  have g61 := gr_up (a := this) (v := n61) (L := 186) (j := 72) h61 rfl
  clear e61 h61 d60 g60 q61 l61
  refine r_ex hX hP 2 (pc' := 495) (st' := [(0, (-1)), (2, this)]) (lo' := [(0, (2, this))]) rfl ?_
  refine r_putIK hX hP rfl fp_X12_197_186 s61 (by decide) (by decide) (fun _ => ?_)
  have d62 := dn_upI (j := 73) (x := (-1)) d61 rfl
  have v62 := dv_up (j := 73) (x := (-1)) v61 rfl
  have g62 := gr_up (a := this) (v := (-1)) (L := 186) (j := 73) g61 rfl
  refine r_ex hX hP 2 (pc' := 502) (st' := [(0, 400), (2, this)]) (lo' := [(0, (2, this))]) rfl ?_
  refine r_newarrA hX hP rfl (L := 61) (n := 400) al_61 (by decide) rfl rfl rfl (tbg sg4 232 rfl rfl) (by decide) (Nat.le_of_ble_eq_true rfl) (Nat.le_of_ble_eq_true rfl) (fun n63 S63 G63 _ _ l63 q63 _ => ?_)
  have s63 := gr_lab q63 s61 (by decide)
  have e63 := dn_gr d62 q63 s61 (by decide) rfl rfl
  have h63 := gr_call g62 q63 rfl rfl
  refine r_putFN hX hP rfl rfl fq_X12_200_186 s63 (by decide) (Or.inr l63) (fun _ => ?_)
  have d63 := dn_up (j := 75) e63 l63 rfl
  have v63 := dv_up (j := 75) (x := n63) (dv_gr v62 q63 s61 (by decide) rfl) rfl
  clear v62
  have g63 := gr_up (a := this) (v := n63) (L := 186) (j := 75) h63 rfl
  clear e63 h63 d62 g62 q63 l63
  refine r_ex hX hP 2 (pc' := 509) (st' := [(0, (-1)), (2, this)]) (lo' := [(0, (2, this))]) rfl ?_
  refine r_putIK hX hP rfl fp_X12_204_186 s63 (by decide) (by decide) (fun _ => ?_)
  have d64 := dn_upI (j := 78) (x := (-1)) d63 rfl
  have v64 := dv_new (j := 78) (x := (-1)) v63 rfl
  have g64 := gr_up (a := this) (v := (-1)) (L := 186) (j := 78) g63 rfl
  refine r_ex hX hP 2 (pc' := 514) (st' := [(0, (-1)), (2, this)]) (lo' := [(0, (2, this))]) rfl ?_
  refine r_putIK hX hP rfl fp_X12_207_186 s63 (by decide) (by decide) (fun _ => ?_)
  have d65 := dn_upI (j := 79) (x := (-1)) d64 rfl
  have v65 := dv_new (j := 79) (x := (-1)) v64 rfl
  have g65 := gr_up (a := this) (v := (-1)) (L := 186) (j := 79) g64 rfl
  refine r_ex hX hP 2 (pc' := 519) (st' := [(0, 3), (2, this)]) (lo' := [(0, (2, this))]) rfl ?_
  refine r_newarrA hX hP rfl (L := 62) (n := 3) al_62 (by decide) rfl rfl rfl (tbg sg1 123 rfl rfl) (by decide) (Nat.le_of_ble_eq_true rfl) (Nat.le_of_ble_eq_true rfl) (fun n66 S66 G66 _ _ l66 q66 _ => ?_)
  have s66 := gr_lab q66 s63 (by decide)
  have e66 := dn_gr d65 q66 s63 (by decide) rfl rfl
  have h66 := gr_call g65 q66 rfl rfl
  refine r_putFN hX hP rfl rfl fq_X12_210_186 s66 (by decide) (Or.inr l66) (fun _ => ?_)
  have d66 := dn_up (j := 93) e66 l66 rfl
  have v66 := dv_up (j := 93) (x := n66) (dv_gr v65 q66 s63 (by decide) rfl) rfl
  clear v65
  have g66 := gr_up (a := this) (v := n66) (L := 186) (j := 93) h66 rfl
  clear e66 h66 d65 g65 q66 l66
  refine r_ex hX hP 2 (pc' := 527) (st' := [(0, 30), (2, this)]) (lo' := [(0, (2, this))]) rfl ?_
  refine r_newarrA hX hP rfl (L := 63) (n := 30) al_63 (by decide) rfl rfl rfl (tbg sg1 124 rfl rfl) (by decide) (Nat.le_of_ble_eq_true rfl) (Nat.le_of_ble_eq_true rfl) (fun n67 S67 G67 _ _ l67 q67 _ => ?_)
  have s67 := gr_lab q67 s66 (by decide)
  have e67 := dn_gr d66 q67 s66 (by decide) rfl rfl
  have h67 := gr_call g66 q67 rfl rfl
  refine r_putFN hX hP rfl rfl fq_X12_214_186 s67 (by decide) (Or.inr l67) (fun _ => ?_)
  have d67 := dn_up (j := 94) e67 l67 rfl
  have v67 := dv_up (j := 94) (x := n67) (dv_gr v66 q67 s66 (by decide) rfl) rfl
  clear v66
  have g67 := gr_up (a := this) (v := n67) (L := 186) (j := 94) h67 rfl
  clear e67 h67 d66 g66 q67 l67
  refine r_ex hX hP 2 (pc' := 535) (st' := [(0, 30), (2, this)]) (lo' := [(0, (2, this))]) rfl ?_
  refine r_newarrA hX hP rfl (L := 64) (n := 30) al_64 (by decide) rfl rfl rfl (tbg sg1 124 rfl rfl) (by decide) (Nat.le_of_ble_eq_true rfl) (Nat.le_of_ble_eq_true rfl) (fun n68 S68 G68 _ _ l68 q68 _ => ?_)
  have s68 := gr_lab q68 s67 (by decide)
  have e68 := dn_gr d67 q68 s67 (by decide) rfl rfl
  have h68 := gr_call g67 q68 rfl rfl
  refine r_putFN hX hP rfl rfl fq_X12_217_186 s68 (by decide) (Or.inr l68) (fun _ => ?_)
  have d68 := dn_up (j := 95) e68 l68 rfl
  have v68 := dv_up (j := 95) (x := n68) (dv_gr v67 q68 s67 (by decide) rfl) rfl
  clear v67
  have g68 := gr_up (a := this) (v := n68) (L := 186) (j := 95) h68 rfl
  clear e68 h68 d67 g67 q68 l68
  refine r_ex hX hP 2 (pc' := 543) (st' := [(0, 30), (2, this)]) (lo' := [(0, (2, this))]) rfl ?_
  refine r_newarrA hX hP rfl (L := 65) (n := 30) al_65 (by decide) rfl rfl rfl (tbg sg1 124 rfl rfl) (by decide) (Nat.le_of_ble_eq_true rfl) (Nat.le_of_ble_eq_true rfl) (fun n69 S69 G69 _ _ l69 q69 _ => ?_)
  have s69 := gr_lab q69 s68 (by decide)
  have e69 := dn_gr d68 q69 s68 (by decide) rfl rfl
  have h69 := gr_call g68 q69 rfl rfl
  refine r_putFN hX hP rfl rfl fq_X12_220_186 s69 (by decide) (Or.inr l69) (fun _ => ?_)
  have d69 := dn_up (j := 96) e69 l69 rfl
  have v69 := dv_up (j := 96) (x := n69) (dv_gr v68 q69 s68 (by decide) rfl) rfl
  clear v68
  have g69 := gr_up (a := this) (v := n69) (L := 186) (j := 96) h69 rfl
  clear e69 h69 d68 g68 q69 l69
  refine r_ex hX hP 2 (pc' := 551) (st' := [(0, 30), (2, this)]) (lo' := [(0, (2, this))]) rfl ?_
  refine r_newarrA hX hP rfl (L := 66) (n := 30) al_66 (by decide) rfl rfl rfl (tbg sg1 124 rfl rfl) (by decide) (Nat.le_of_ble_eq_true rfl) (Nat.le_of_ble_eq_true rfl) (fun n70 S70 G70 _ _ l70 q70 _ => ?_)
  have s70 := gr_lab q70 s69 (by decide)
  have e70 := dn_gr d69 q70 s69 (by decide) rfl rfl
  have h70 := gr_call g69 q70 rfl rfl
  refine r_putFN hX hP rfl rfl fq_X12_223_186 s70 (by decide) (Or.inr l70) (fun _ => ?_)
  have d70 := dn_up (j := 97) e70 l70 rfl
  have v70 := dv_up (j := 97) (x := n70) (dv_gr v69 q70 s69 (by decide) rfl) rfl
  clear v69
  have g70 := gr_up (a := this) (v := n70) (L := 186) (j := 97) h70 rfl
  clear e70 h70 d69 g69 q70 l70
  refine r_ex hX hP 2 (pc' := 559) (st' := [(0, 30), (2, this)]) (lo' := [(0, (2, this))]) rfl ?_
  refine r_newarrA hX hP rfl (L := 67) (n := 30) al_67 (by decide) rfl rfl rfl (tbg sg1 124 rfl rfl) (by decide) (Nat.le_of_ble_eq_true rfl) (Nat.le_of_ble_eq_true rfl) (fun n71 S71 G71 _ _ l71 q71 _ => ?_)
  have s71 := gr_lab q71 s70 (by decide)
  have e71 := dn_gr d70 q71 s70 (by decide) rfl rfl
  have h71 := gr_call g70 q71 rfl rfl
  refine r_putFN hX hP rfl rfl fq_X12_226_186 s71 (by decide) (Or.inr l71) (fun _ => ?_)
  have d71 := dn_up (j := 98) e71 l71 rfl
  have v71 := dv_up (j := 98) (x := n71) (dv_gr v70 q71 s70 (by decide) rfl) rfl
  clear v70
  have g71 := gr_up (a := this) (v := n71) (L := 186) (j := 98) h71 rfl
  clear e71 h71 d70 g70 q71 l71
  refine r_ex hX hP 2 (pc' := 567) (st' := [(0, 30), (2, this)]) (lo' := [(0, (2, this))]) rfl ?_
  refine r_newarrA hX hP rfl (L := 68) (n := 30) al_68 (by decide) rfl rfl rfl (tbg sg1 124 rfl rfl) (by decide) (Nat.le_of_ble_eq_true rfl) (Nat.le_of_ble_eq_true rfl) (fun n72 S72 G72 _ _ l72 q72 _ => ?_)
  have s72 := gr_lab q72 s71 (by decide)
  have e72 := dn_gr d71 q72 s71 (by decide) rfl rfl
  have h72 := gr_call g71 q72 rfl rfl
  refine r_putFN hX hP rfl rfl fq_X12_229_186 s72 (by decide) (Or.inr l72) (fun _ => ?_)
  have d72 := dn_up (j := 99) e72 l72 rfl
  have v72 := dv_up (j := 99) (x := n72) (dv_gr v71 q72 s71 (by decide) rfl) rfl
  clear v71
  have g72 := gr_up (a := this) (v := n72) (L := 186) (j := 99) h72 rfl
  clear e72 h72 d71 g71 q72 l72
  refine r_ex hX hP 2 (pc' := 574) (st' := [(0, 3), (2, this)]) (lo' := [(0, (2, this))]) rfl ?_
  refine r_newarrA hX hP rfl (L := 69) (n := 3) al_69 (by decide) rfl rfl rfl (tbg sg1 124 rfl rfl) (by decide) (Nat.le_of_ble_eq_true rfl) (Nat.le_of_ble_eq_true rfl) (fun n73 S73 G73 _ _ l73 q73 _ => ?_)
  have s73 := gr_lab q73 s72 (by decide)
  have e73 := dn_gr d72 q73 s72 (by decide) rfl rfl
  have h73 := gr_call g72 q73 rfl rfl
  refine r_putFN hX hP rfl rfl fq_X12_232_186 s73 (by decide) (Or.inr l73) (fun _ => ?_)
  have d73 := dn_up (j := 100) e73 l73 rfl
  have v73 := dv_up (j := 100) (x := n73) (dv_gr v72 q73 s72 (by decide) rfl) rfl
  clear v72
  have g73 := gr_up (a := this) (v := n73) (L := 186) (j := 100) h73 rfl
  clear e73 h73 d72 g72 q73 l73
  refine r_ex hX hP 2 (pc' := 581) (st' := [(0, 3), (2, this)]) (lo' := [(0, (2, this))]) rfl ?_
  refine r_newarrA hX hP rfl (L := 70) (n := 3) al_70 (by decide) rfl rfl rfl (tbg sg1 124 rfl rfl) (by decide) (Nat.le_of_ble_eq_true rfl) (Nat.le_of_ble_eq_true rfl) (fun n74 S74 G74 _ _ l74 q74 _ => ?_)
  have s74 := gr_lab q74 s73 (by decide)
  have e74 := dn_gr d73 q74 s73 (by decide) rfl rfl
  have h74 := gr_call g73 q74 rfl rfl
  refine r_putFN hX hP rfl rfl fq_X12_235_186 s74 (by decide) (Or.inr l74) (fun _ => ?_)
  have d74 := dn_up (j := 101) e74 l74 rfl
  have v74 := dv_up (j := 101) (x := n74) (dv_gr v73 q74 s73 (by decide) rfl) rfl
  clear v73
  have g74 := gr_up (a := this) (v := n74) (L := 186) (j := 101) h74 rfl
  clear e74 h74 d73 g73 q74 l74
  refine r_ex hX hP 2 (pc' := 588) (st' := [(0, 3), (2, this)]) (lo' := [(0, (2, this))]) rfl ?_
  refine r_newarrA hX hP rfl (L := 71) (n := 3) al_71 (by decide) rfl rfl rfl (tbg sg1 124 rfl rfl) (by decide) (Nat.le_of_ble_eq_true rfl) (Nat.le_of_ble_eq_true rfl) (fun n75 S75 G75 _ _ l75 q75 _ => ?_)
  have s75 := gr_lab q75 s74 (by decide)
  have e75 := dn_gr d74 q75 s74 (by decide) rfl rfl
  have h75 := gr_call g74 q75 rfl rfl
  refine r_putFN hX hP rfl rfl fq_X12_238_186 s75 (by decide) (Or.inr l75) (fun _ => ?_)
  have d75 := dn_up (j := 102) e75 l75 rfl
  have v75 := dv_up (j := 102) (x := n75) (dv_gr v74 q75 s74 (by decide) rfl) rfl
  clear v74
  have g75 := gr_up (a := this) (v := n75) (L := 186) (j := 102) h75 rfl
  clear e75 h75 d74 g74 q75 l75
  refine r_ex hX hP 2 (pc' := 597) (st' := [(0, 400), (2, this)]) (lo' := [(0, (2, this))]) rfl ?_
  refine r_newarrA hX hP rfl (L := 72) (n := 400) al_72 (by decide) rfl rfl rfl (tbg sg1 123 rfl rfl) (by decide) (Nat.le_of_ble_eq_true rfl) (Nat.le_of_ble_eq_true rfl) (fun n76 S76 G76 _ _ l76 q76 _ => ?_)
  have s76 := gr_lab q76 s75 (by decide)
  have e76 := dn_gr d75 q76 s75 (by decide) rfl rfl
  have h76 := gr_call g75 q76 rfl rfl
  refine r_putFN hX hP rfl rfl fq_X12_241_186 s76 (by decide) (Or.inr l76) (fun _ => ?_)
  have d76 := dn_up (j := 103) e76 l76 rfl
  have v76 := dv_up (j := 103) (x := n76) (dv_gr v75 q76 s75 (by decide) rfl) rfl
  clear v75
  have g76 := gr_up (a := this) (v := n76) (L := 186) (j := 103) h76 rfl
  clear e76 h76 d75 g75 q76 l76
  refine r_ex hX hP 2 (pc' := 606) (st' := [(0, 400), (2, this)]) (lo' := [(0, (2, this))]) rfl ?_
  refine r_newarrA hX hP rfl (L := 73) (n := 400) al_73 (by decide) rfl rfl rfl (tbg sg1 123 rfl rfl) (by decide) (Nat.le_of_ble_eq_true rfl) (Nat.le_of_ble_eq_true rfl) (fun n77 S77 G77 _ _ l77 q77 _ => ?_)
  have s77 := gr_lab q77 s76 (by decide)
  have e77 := dn_gr d76 q77 s76 (by decide) rfl rfl
  have h77 := gr_call g76 q77 rfl rfl
  refine r_putFN hX hP rfl rfl fq_X12_244_186 s77 (by decide) (Or.inr l77) (fun _ => ?_)
  have d77 := dn_up (j := 104) e77 l77 rfl
  have v77 := dv_up (j := 104) (x := n77) (dv_gr v76 q77 s76 (by decide) rfl) rfl
  clear v76
  have g77 := gr_up (a := this) (v := n77) (L := 186) (j := 104) h77 rfl
  clear e77 h77 d76 g76 q77 l77
  refine r_ex hX hP 2 (pc' := 614) (st' := [(0, 20), (2, this)]) (lo' := [(0, (2, this))]) rfl ?_
  refine r_newarrA hX hP rfl (L := 74) (n := 20) al_74 (by decide) rfl rfl rfl (tbg sg1 123 rfl rfl) (by decide) (Nat.le_of_ble_eq_true rfl) (Nat.le_of_ble_eq_true rfl) (fun n78 S78 G78 _ _ l78 q78 _ => ?_)
  have s78 := gr_lab q78 s77 (by decide)
  have e78 := dn_gr d77 q78 s77 (by decide) rfl rfl
  have h78 := gr_call g77 q78 rfl rfl
  refine r_putFN hX hP rfl rfl fq_X12_247_186 s78 (by decide) (Or.inr l78) (fun _ => ?_)
  have d78 := dn_up (j := 105) e78 l78 rfl
  have v78 := dv_up (j := 105) (x := n78) (dv_gr v77 q78 s77 (by decide) rfl) rfl
  clear v77
  have g78 := gr_up (a := this) (v := n78) (L := 186) (j := 105) h78 rfl
  clear e78 h78 d77 g77 q78 l78
  refine r_ex hX hP 2 (pc' := 622) (st' := [(0, 20), (2, this)]) (lo' := [(0, (2, this))]) rfl ?_
  refine r_newarrA hX hP rfl (L := 75) (n := 20) al_75 (by decide) rfl rfl rfl (tbg sg1 123 rfl rfl) (by decide) (Nat.le_of_ble_eq_true rfl) (Nat.le_of_ble_eq_true rfl) (fun n79 S79 G79 _ _ l79 q79 _ => ?_)
  have s79 := gr_lab q79 s78 (by decide)
  have e79 := dn_gr d78 q79 s78 (by decide) rfl rfl
  have h79 := gr_call g78 q79 rfl rfl
  refine r_putFN hX hP rfl rfl fq_X12_250_186 s79 (by decide) (Or.inr l79) (fun _ => ?_)
  have d79 := dn_up (j := 106) e79 l79 rfl
  have v79 := dv_up (j := 106) (x := n79) (dv_gr v78 q79 s78 (by decide) rfl) rfl
  clear v78
  have g79 := gr_up (a := this) (v := n79) (L := 186) (j := 106) h79 rfl
  clear e79 h79 d78 g78 q79 l79
  refine r_ex hX hP 2 (pc' := 630) (st' := [(0, 20), (2, this)]) (lo' := [(0, (2, this))]) rfl ?_
  refine r_newarrA hX hP rfl (L := 76) (n := 20) al_76 (by decide) rfl rfl rfl (tbg sg1 123 rfl rfl) (by decide) (Nat.le_of_ble_eq_true rfl) (Nat.le_of_ble_eq_true rfl) (fun n80 S80 G80 _ _ l80 q80 _ => ?_)
  have s80 := gr_lab q80 s79 (by decide)
  have e80 := dn_gr d79 q80 s79 (by decide) rfl rfl
  have h80 := gr_call g79 q80 rfl rfl
  refine r_putFN hX hP rfl rfl fq_X12_253_186 s80 (by decide) (Or.inr l80) (fun _ => ?_)
  have d80 := dn_up (j := 107) e80 l80 rfl
  have v80 := dv_up (j := 107) (x := n80) (dv_gr v79 q80 s79 (by decide) rfl) rfl
  clear v79
  have g80 := gr_up (a := this) (v := n80) (L := 186) (j := 107) h80 rfl
  clear e80 h80 d79 g79 q80 l80
  refine r_ex hX hP 2 (pc' := 638) (st' := [(0, 80), (2, this)]) (lo' := [(0, (2, this))]) rfl ?_
  refine r_newarrA hX hP rfl (L := 77) (n := 80) al_77 (by decide) rfl rfl rfl (tbg sg1 123 rfl rfl) (by decide) (Nat.le_of_ble_eq_true rfl) (Nat.le_of_ble_eq_true rfl) (fun n81 S81 G81 _ _ l81 q81 _ => ?_)
  have s81 := gr_lab q81 s80 (by decide)
  have e81 := dn_gr d80 q81 s80 (by decide) rfl rfl
  have h81 := gr_call g80 q81 rfl rfl
  refine r_putFN hX hP rfl rfl fq_X12_256_186 s81 (by decide) (Or.inr l81) (fun _ => ?_)
  have d81 := dn_up (j := 108) e81 l81 rfl
  have v81 := dv_up (j := 108) (x := n81) (dv_gr v80 q81 s80 (by decide) rfl) rfl
  clear v80
  have g81 := gr_up (a := this) (v := n81) (L := 186) (j := 108) h81 rfl
  clear e81 h81 d80 g80 q81 l81
  refine r_ex hX hP 2 (pc' := 646) (st' := [(0, 60), (2, this)]) (lo' := [(0, (2, this))]) rfl ?_
  refine r_newarrA hX hP rfl (L := 78) (n := 60) al_78 (by decide) rfl rfl rfl (tbg sg1 123 rfl rfl) (by decide) (Nat.le_of_ble_eq_true rfl) (Nat.le_of_ble_eq_true rfl) (fun n82 S82 G82 _ _ l82 q82 _ => ?_)
  have s82 := gr_lab q82 s81 (by decide)
  have e82 := dn_gr d81 q82 s81 (by decide) rfl rfl
  have h82 := gr_call g81 q82 rfl rfl
  refine r_putFN hX hP rfl rfl fq_X12_259_186 s82 (by decide) (Or.inr l82) (fun _ => ?_)
  have d82 := dn_up (j := 109) e82 l82 rfl
  have v82 := dv_up (j := 109) (x := n82) (dv_gr v81 q82 s81 (by decide) rfl) rfl
  clear v81
  have g82 := gr_up (a := this) (v := n82) (L := 186) (j := 109) h82 rfl
  clear e82 h82 d81 g81 q82 l82
  refine r_ex hX hP 2 (pc' := 655) (st' := [(0, 400), (2, this)]) (lo' := [(0, (2, this))]) rfl ?_
  refine r_newarrA hX hP rfl (L := 79) (n := 400) al_79 (by decide) rfl rfl rfl (tbg sg1 123 rfl rfl) (by decide) (Nat.le_of_ble_eq_true rfl) (Nat.le_of_ble_eq_true rfl) (fun n83 S83 G83 _ _ l83 q83 _ => ?_)
  have s83 := gr_lab q83 s82 (by decide)
  have e83 := dn_gr d82 q83 s82 (by decide) rfl rfl
  have h83 := gr_call g82 q83 rfl rfl
  refine r_putFN hX hP rfl rfl fq_X12_262_186 s83 (by decide) (Or.inr l83) (fun _ => ?_)
  have d83 := dn_up (j := 110) e83 l83 rfl
  have v83 := dv_up (j := 110) (x := n83) (dv_gr v82 q83 s82 (by decide) rfl) rfl
  clear v82
  have g83 := gr_up (a := this) (v := n83) (L := 186) (j := 110) h83 rfl
  clear e83 h83 d82 g82 q83 l83
  refine r_ex hX hP 2 (pc' := 663) (st' := [(0, 20), (2, this)]) (lo' := [(0, (2, this))]) rfl ?_
  refine r_newarrA hX hP rfl (L := 80) (n := 20) al_80 (by decide) rfl rfl rfl (tbg sg1 123 rfl rfl) (by decide) (Nat.le_of_ble_eq_true rfl) (Nat.le_of_ble_eq_true rfl) (fun n84 S84 G84 _ _ l84 q84 _ => ?_)
  have s84 := gr_lab q84 s83 (by decide)
  have e84 := dn_gr d83 q84 s83 (by decide) rfl rfl
  have h84 := gr_call g83 q84 rfl rfl
  refine r_putFN hX hP rfl rfl fq_X12_265_186 s84 (by decide) (Or.inr l84) (fun _ => ?_)
  have d84 := dn_up (j := 111) e84 l84 rfl
  have v84 := dv_up (j := 111) (x := n84) (dv_gr v83 q84 s83 (by decide) rfl) rfl
  clear v83
  have g84 := gr_up (a := this) (v := n84) (L := 186) (j := 111) h84 rfl
  clear e84 h84 d83 g83 q84 l84
  refine r_ex hX hP 2 (pc' := 671) (st' := [(0, 20), (2, this)]) (lo' := [(0, (2, this))]) rfl ?_
  refine r_newarrA hX hP rfl (L := 81) (n := 20) al_81 (by decide) rfl rfl rfl (tbg sg1 123 rfl rfl) (by decide) (Nat.le_of_ble_eq_true rfl) (Nat.le_of_ble_eq_true rfl) (fun n85 S85 G85 _ _ l85 q85 _ => ?_)
  have s85 := gr_lab q85 s84 (by decide)
  have e85 := dn_gr d84 q85 s84 (by decide) rfl rfl
  have h85 := gr_call g84 q85 rfl rfl
  refine r_putFN hX hP rfl rfl fq_X12_268_186 s85 (by decide) (Or.inr l85) (fun _ => ?_)
  have d85 := dn_up (j := 112) e85 l85 rfl
  have v85 := dv_up (j := 112) (x := n85) (dv_gr v84 q85 s84 (by decide) rfl) rfl
  clear v84
  have g85 := gr_up (a := this) (v := n85) (L := 186) (j := 112) h85 rfl
  clear e85 h85 d84 g84 q85 l85
  refine r_ex hX hP 2 (pc' := 679) (st' := [(0, 20), (2, this)]) (lo' := [(0, (2, this))]) rfl ?_
  refine r_newarrA hX hP rfl (L := 82) (n := 20) al_82 (by decide) rfl rfl rfl (tbg sg1 123 rfl rfl) (by decide) (Nat.le_of_ble_eq_true rfl) (Nat.le_of_ble_eq_true rfl) (fun n86 S86 G86 _ _ l86 q86 _ => ?_)
  have s86 := gr_lab q86 s85 (by decide)
  have e86 := dn_gr d85 q86 s85 (by decide) rfl rfl
  have h86 := gr_call g85 q86 rfl rfl
  refine r_putFN hX hP rfl rfl fq_X12_271_186 s86 (by decide) (Or.inr l86) (fun _ => ?_)
  have d86 := dn_up (j := 113) e86 l86 rfl
  have v86 := dv_up (j := 113) (x := n86) (dv_gr v85 q86 s85 (by decide) rfl) rfl
  clear v85
  have g86 := gr_up (a := this) (v := n86) (L := 186) (j := 113) h86 rfl
  clear e86 h86 d85 g85 q86 l86
  refine r_ex hX hP 2 (pc' := 687) (st' := [(0, 20), (2, this)]) (lo' := [(0, (2, this))]) rfl ?_
  refine r_newarrA hX hP rfl (L := 83) (n := 20) al_83 (by decide) rfl rfl rfl (tbg sg1 123 rfl rfl) (by decide) (Nat.le_of_ble_eq_true rfl) (Nat.le_of_ble_eq_true rfl) (fun n87 S87 G87 _ _ l87 q87 _ => ?_)
  have s87 := gr_lab q87 s86 (by decide)
  have e87 := dn_gr d86 q87 s86 (by decide) rfl rfl
  have h87 := gr_call g86 q87 rfl rfl
  refine r_putFN hX hP rfl rfl fq_X12_274_186 s87 (by decide) (Or.inr l87) (fun _ => ?_)
  have d87 := dn_up (j := 114) e87 l87 rfl
  have v87 := dv_up (j := 114) (x := n87) (dv_gr v86 q87 s86 (by decide) rfl) rfl
  clear v86
  have g87 := gr_up (a := this) (v := n87) (L := 186) (j := 114) h87 rfl
  clear e87 h87 d86 g86 q87 l87
  refine r_ex hX hP 2 (pc' := 695) (st' := [(0, 20), (2, this)]) (lo' := [(0, (2, this))]) rfl ?_
  refine r_newarrA hX hP rfl (L := 84) (n := 20) al_84 (by decide) rfl rfl rfl (tbg sg1 123 rfl rfl) (by decide) (Nat.le_of_ble_eq_true rfl) (Nat.le_of_ble_eq_true rfl) (fun n88 S88 G88 _ _ l88 q88 _ => ?_)
  have s88 := gr_lab q88 s87 (by decide)
  have e88 := dn_gr d87 q88 s87 (by decide) rfl rfl
  have h88 := gr_call g87 q88 rfl rfl
  refine r_putFN hX hP rfl rfl fq_X12_277_186 s88 (by decide) (Or.inr l88) (fun _ => ?_)
  have d88 := dn_up (j := 115) e88 l88 rfl
  have v88 := dv_up (j := 115) (x := n88) (dv_gr v87 q88 s87 (by decide) rfl) rfl
  clear v87
  have g88 := gr_up (a := this) (v := n88) (L := 186) (j := 115) h88 rfl
  clear e88 h88 d87 g87 q88 l88
  refine r_ex hX hP 2 (pc' := 703) (st' := [(0, 80), (2, this)]) (lo' := [(0, (2, this))]) rfl ?_
  refine r_newarrA hX hP rfl (L := 85) (n := 80) al_85 (by decide) rfl rfl rfl (tbg sg1 123 rfl rfl) (by decide) (Nat.le_of_ble_eq_true rfl) (Nat.le_of_ble_eq_true rfl) (fun n89 S89 G89 _ _ l89 q89 _ => ?_)
  have s89 := gr_lab q89 s88 (by decide)
  have e89 := dn_gr d88 q89 s88 (by decide) rfl rfl
  have h89 := gr_call g88 q89 rfl rfl
  refine r_putFN hX hP rfl rfl fq_X12_280_186 s89 (by decide) (Or.inr l89) (fun _ => ?_)
  have d89 := dn_up (j := 116) e89 l89 rfl
  have v89 := dv_up (j := 116) (x := n89) (dv_gr v88 q89 s88 (by decide) rfl) rfl
  clear v88
  have g89 := gr_up (a := this) (v := n89) (L := 186) (j := 116) h89 rfl
  clear e89 h89 d88 g88 q89 l89
  refine r_ex hX hP 2 (pc' := 711) (st' := [(0, 20), (2, this)]) (lo' := [(0, (2, this))]) rfl ?_
  refine r_newarrA hX hP rfl (L := 86) (n := 20) al_86 (by decide) rfl rfl rfl (tbg sg1 123 rfl rfl) (by decide) (Nat.le_of_ble_eq_true rfl) (Nat.le_of_ble_eq_true rfl) (fun n90 S90 G90 _ _ l90 q90 _ => ?_)
  have s90 := gr_lab q90 s89 (by decide)
  have e90 := dn_gr d89 q90 s89 (by decide) rfl rfl
  have h90 := gr_call g89 q90 rfl rfl
  refine r_putFN hX hP rfl rfl fq_X12_283_186 s90 (by decide) (Or.inr l90) (fun _ => ?_)
  have d90 := dn_up (j := 117) e90 l90 rfl
  have v90 := dv_up (j := 117) (x := n90) (dv_gr v89 q90 s89 (by decide) rfl) rfl
  clear v89
  have g90 := gr_up (a := this) (v := n90) (L := 186) (j := 117) h90 rfl
  clear e90 h90 d89 g89 q90 l90
  refine r_ex hX hP 2 (pc' := 719) (st' := [(0, 20), (2, this)]) (lo' := [(0, (2, this))]) rfl ?_
  refine r_newarrA hX hP rfl (L := 87) (n := 20) al_87 (by decide) rfl rfl rfl (tbg sg1 124 rfl rfl) (by decide) (Nat.le_of_ble_eq_true rfl) (Nat.le_of_ble_eq_true rfl) (fun n91 S91 G91 _ _ l91 q91 _ => ?_)
  have s91 := gr_lab q91 s90 (by decide)
  have e91 := dn_gr d90 q91 s90 (by decide) rfl rfl
  have h91 := gr_call g90 q91 rfl rfl
  refine r_putFN hX hP rfl rfl fq_X12_286_186 s91 (by decide) (Or.inr l91) (fun _ => ?_)
  have d91 := dn_up (j := 118) e91 l91 rfl
  have v91 := dv_up (j := 118) (x := n91) (dv_gr v90 q91 s90 (by decide) rfl) rfl
  clear v90
  have g91 := gr_up (a := this) (v := n91) (L := 186) (j := 118) h91 rfl
  clear e91 h91 d90 g90 q91 l91
  refine r_ex hX hP 2 (pc' := 727) (st' := [(0, 20), (2, this)]) (lo' := [(0, (2, this))]) rfl ?_
  refine r_newarrA hX hP rfl (L := 88) (n := 20) al_88 (by decide) rfl rfl rfl (tbg sg1 124 rfl rfl) (by decide) (Nat.le_of_ble_eq_true rfl) (Nat.le_of_ble_eq_true rfl) (fun n92 S92 G92 _ _ l92 q92 _ => ?_)
  have s92 := gr_lab q92 s91 (by decide)
  have e92 := dn_gr d91 q92 s91 (by decide) rfl rfl
  have h92 := gr_call g91 q92 rfl rfl
  refine r_putFN hX hP rfl rfl fq_X12_289_186 s92 (by decide) (Or.inr l92) (fun _ => ?_)
  have d92 := dn_up (j := 119) e92 l92 rfl
  have v92 := dv_up (j := 119) (x := n92) (dv_gr v91 q92 s91 (by decide) rfl) rfl
  clear v91
  have g92 := gr_up (a := this) (v := n92) (L := 186) (j := 119) h92 rfl
  clear e92 h92 d91 g91 q92 l92
  refine r_ex hX hP 2 (pc' := 735) (st' := [(0, 20), (2, this)]) (lo' := [(0, (2, this))]) rfl ?_
  refine r_newarrA hX hP rfl (L := 89) (n := 20) al_89 (by decide) rfl rfl rfl (tbg sg1 123 rfl rfl) (by decide) (Nat.le_of_ble_eq_true rfl) (Nat.le_of_ble_eq_true rfl) (fun n93 S93 G93 _ _ l93 q93 _ => ?_)
  have s93 := gr_lab q93 s92 (by decide)
  have e93 := dn_gr d92 q93 s92 (by decide) rfl rfl
  have h93 := gr_call g92 q93 rfl rfl
  refine r_putFN hX hP rfl rfl fq_X12_292_186 s93 (by decide) (Or.inr l93) (fun _ => ?_)
  have d93 := dn_up (j := 121) e93 l93 rfl
  have v93 := dv_up (j := 121) (x := n93) (dv_gr v92 q93 s92 (by decide) rfl) rfl
  clear v92
  have g93 := gr_up (a := this) (v := n93) (L := 186) (j := 121) h93 rfl
  clear e93 h93 d92 g92 q93 l93
  refine r_ex hX hP 2 (pc' := 743) (st' := [(0, 21), (2, this)]) (lo' := [(0, (2, this))]) rfl ?_
  refine r_newarrA hX hP rfl (L := 90) (n := 21) al_90 (by decide) rfl rfl rfl (tbg sg1 123 rfl rfl) (by decide) (Nat.le_of_ble_eq_true rfl) (Nat.le_of_ble_eq_true rfl) (fun n94 S94 G94 _ _ l94 q94 _ => ?_)
  have s94 := gr_lab q94 s93 (by decide)
  have e94 := dn_gr d93 q94 s93 (by decide) rfl rfl
  have h94 := gr_call g93 q94 rfl rfl
  refine r_putFN hX hP rfl rfl fq_X12_295_186 s94 (by decide) (Or.inr l94) (fun _ => ?_)
  have d94 := dn_up (j := 125) e94 l94 rfl
  have v94 := dv_up (j := 125) (x := n94) (dv_gr v93 q94 s93 (by decide) rfl) rfl
  clear v93
  have g94 := gr_up (a := this) (v := n94) (L := 186) (j := 125) h94 rfl
  clear e94 h94 d93 g93 q94 l94
  refine r_ex hX hP 2 (pc' := 751) (st' := [(0, 21), (2, this)]) (lo' := [(0, (2, this))]) rfl ?_
  refine r_newarrA hX hP rfl (L := 91) (n := 21) al_91 (by decide) rfl rfl rfl (tbg sg1 123 rfl rfl) (by decide) (Nat.le_of_ble_eq_true rfl) (Nat.le_of_ble_eq_true rfl) (fun n95 S95 G95 _ _ l95 q95 _ => ?_)
  have s95 := gr_lab q95 s94 (by decide)
  have e95 := dn_gr d94 q95 s94 (by decide) rfl rfl
  have h95 := gr_call g94 q95 rfl rfl
  refine r_putFN hX hP rfl rfl fq_X12_298_186 s95 (by decide) (Or.inr l95) (fun _ => ?_)
  have d95 := dn_up (j := 126) e95 l95 rfl
  have v95 := dv_up (j := 126) (x := n95) (dv_gr v94 q95 s94 (by decide) rfl) rfl
  clear v94
  have g95 := gr_up (a := this) (v := n95) (L := 186) (j := 126) h95 rfl
  clear e95 h95 d94 g94 q95 l95
  refine r_ex hX hP 2 (pc' := 759) (st' := [(0, 20), (2, this)]) (lo' := [(0, (2, this))]) rfl ?_
  refine r_newarrA hX hP rfl (L := 92) (n := 20) al_92 (by decide) rfl rfl rfl (tbg sg2 147 rfl rfl) (by decide) (Nat.le_of_ble_eq_true rfl) (Nat.le_of_ble_eq_true rfl) (fun n96 S96 G96 _ _ l96 q96 _ => ?_)
  have s96 := gr_lab q96 s95 (by decide)
  have e96 := dn_gr d95 q96 s95 (by decide) rfl rfl
  have h96 := gr_call g95 q96 rfl rfl
  refine r_putFN hX hP rfl rfl fq_X12_301_186 s96 (by decide) (Or.inr l96) (fun _ => ?_)
  have d96 := dn_up (j := 127) e96 l96 rfl
  have v96 := dv_up (j := 127) (x := n96) (dv_gr v95 q96 s95 (by decide) rfl) rfl
  clear v95
  have g96 := gr_up (a := this) (v := n96) (L := 186) (j := 127) h96 rfl
  clear e96 h96 d95 g95 q96 l96
  exact r_retV hX hP rfl rfl (Nat.le_of_ble_eq_true rfl) (Nat.le_of_ble_eq_true rfl) ⟨g96, rfl, d96, v96⟩
