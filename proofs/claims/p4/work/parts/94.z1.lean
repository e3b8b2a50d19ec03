theorem zat {G : Gh} {L K t i j A v : Int} (e : A = G K t j) (h : v = G L A i) : G L (G K t j) i = v := by rw [← e]; exact h.symm
theorem tl_145 (j : Nat) {t : Ty} (h : fs_145.getD j (0, 0, 0) = t) (hj : j < fs_145.length) : Tl 145 j t := ⟨7, fs_145, rfl, hj, h, by decide⟩
set_option maxRecDepth 100000 in
set_option maxHeartbeats 4000000 in
theorem c_X6_initZ (E : En) (S : Sg) (G : Gh) (this : Int) (hS : S this = 145) : Calls E mX6_init [(2, this)] S G 3 4 409 (fun r S' G' => Gr [105, 106, 107] [(145, 1), (145, 2), (145, 3), (145, 12), (145, 15), (145, 16)] S G S' G' ∧ r = none ∧ ∃ fw : Int, fw = G' 145 this 1 ∧ ∃ pw : Int, pw = G' 145 this 2 ∧ fw = -1 ∧ pw = -1 ∧ Fnl E fs_131 145 S' G' this) := by
  refine calls_by [(0, (2, this))] rfl rfl (Nat.le_of_ble_eq_true rfl) (fun X hX => ?_)
  have hP := hPX6_init
  refine r_ex hX hP 1 (pc' := 1) (st' := [(2, this)]) (lo' := [(0, (2, this))]) rfl ?_
  refine r_nn hX hS (by decide) (fun p1 => ?_)
  refine r_objI hX hP rfl (tbg sg2 29 rfl rfl) (tbg sg1 33 rfl rfl) (tbg sg1 34 rfl rfl) p1 (by omega) (Nat.le_of_ble_eq_true rfl) ?_
  refine r_ex hX hP 2 (pc' := 6) (st' := [(0, (-1)), (2, this)]) (lo' := [(0, (2, this))]) rfl ?_
  refine r_putIK hX hP rfl fp_X6_9_145 hS (by omega) (by omega) (fun h2 => ?_)
  refine r_ex hX hP 2 (pc' := 11) (st' := [(0, (-1)), (2, this)]) (lo' := [(0, (2, this))]) rfl ?_
  refine r_putIK hX hP rfl fp_X6_15_145 hS (by omega) (by omega) (fun h3 => ?_)
  refine r_ex hX hP 2 (pc' := 18) (st' := [(0, 400), (2, this)]) (lo' := [(0, (2, this))]) rfl ?_
  have g4 : Gr [105, 106, 107] [(145, 1), (145, 2), (145, 3), (145, 12), (145, 15), (145, 16)] S G S (up (up G 145 this 1 (-1)) 145 this 2 (-1)) := (gr_up (gr_up (gr_refl [105, 106, 107] [(145, 1), (145, 2), (145, 3), (145, 12), (145, 15), (145, 16)] S G) rfl) rfl)
  refine r_newarrA hX hP rfl (L := 105) (n := 400) al_105 (by decide) rfl rfl rfl (tbg sg1 124 rfl rfl) (by decide) (by omega) (by omega) (fun n5 S6 G7 n5z n5n n5l g8 n5v => ?_)
  have z9 : S n5 = 0 := gr_zero g4 n5z
  have s10 : S6 this = 145 := gr_lab g8 hS (by decide)
  have e11 : (-1) = G7 145 this 1 := gr_val g8 h2 hS (by decide) rfl
  have e12 : (-1) = G7 145 this 2 := gr_val g8 h3 hS (by decide) rfl
  have g13 : Gr [105, 106, 107] [(145, 1), (145, 2), (145, 3), (145, 12), (145, 15), (145, 16)] S G S6 G7 := gr_call g4 g8 rfl rfl
  refine r_putFN hX hP rfl rfl fq_X6_18_145 s10 (by decide) (Or.inr n5l) (fun h14 => ?_)
  refine r_ex hX hP 2 (pc' := 25) (st' := [(0, 3), (2, this)]) (lo' := [(0, (2, this))]) rfl ?_
  have g15 : Gr [105, 106, 107] [(145, 1), (145, 2), (145, 3), (145, 12), (145, 15), (145, 16)] S G S6 (up G7 145 this 3 n5) := (gr_up g13 rfl)
  refine r_newarrA hX hP rfl (L := 106) (n := 3) al_106 (by decide) rfl rfl rfl (tbg sg1 124 rfl rfl) (by decide) (by omega) (by omega) (fun n16 S17 G18 n16z n16n n16l g19 n16v => ?_)
  have z20 : S n16 = 0 := gr_zero g15 n16z
  have s21 : S17 this = 145 := gr_lab g19 s10 (by decide)
  have s22 : S17 n5 = 105 := gr_lab g19 n5l (by decide)
  have e23 : (-1) = G18 145 this 1 := gr_val g19 e11 s10 (by decide) rfl
  have e24 : (-1) = G18 145 this 2 := gr_val g19 e12 s10 (by decide) rfl
  have e25 : n5 = G18 145 this 3 := gr_val g19 h14 s10 (by decide) rfl
  have g26 : Gr [105, 106, 107] [(145, 1), (145, 2), (145, 3), (145, 12), (145, 15), (145, 16)] S G S17 G18 := gr_call g15 g19 rfl rfl
  refine r_putFN hX hP rfl rfl fq_X6_22_145 s21 (by decide) (Or.inr n16l) (fun h27 => ?_)
  refine r_ex hX hP 2 (pc' := 32) (st' := [(0, 3), (2, this)]) (lo' := [(0, (2, this))]) rfl ?_
  have g28 : Gr [105, 106, 107] [(145, 1), (145, 2), (145, 3), (145, 12), (145, 15), (145, 16)] S G S17 (up G18 145 this 12 n16) := (gr_up g26 rfl)
  refine r_newarrA hX hP rfl (L := 107) (n := 3) al_107 (by decide) rfl rfl rfl (tbg sg1 124 rfl rfl) (by decide) (by omega) (by omega) (fun n29 S30 G31 n29z n29n n29l g32 n29v => ?_)
  have z33 : S n29 = 0 := gr_zero g28 n29z
  have s34 : S30 this = 145 := gr_lab g32 s21 (by decide)
  have s35 : S30 n5 = 105 := gr_lab g32 s22 (by decide)
  have s36 : S30 n16 = 106 := gr_lab g32 n16l (by decide)
  have e37 : (-1) = G31 145 this 1 := gr_val g32 e23 s21 (by decide) rfl
  have e38 : (-1) = G31 145 this 2 := gr_val g32 e24 s21 (by decide) rfl
  have e39 : n5 = G31 145 this 3 := gr_val g32 e25 s21 (by decide) rfl
  have e40 : n16 = G31 145 this 12 := gr_val g32 h27 s21 (by decide) rfl
  have g41 : Gr [105, 106, 107] [(145, 1), (145, 2), (145, 3), (145, 12), (145, 15), (145, 16)] S G S30 G31 := gr_call g28 g32 rfl rfl
  refine r_putFN hX hP rfl rfl fq_X6_25_145 s34 (by decide) (Or.inr n29l) (fun h42 => ?_)
  refine r_ex hX hP 2 (pc' := 39) (st' := [(0, 3), (2, this)]) (lo' := [(0, (2, this))]) rfl ?_
  have g43 : Gr [105, 106, 107] [(145, 1), (145, 2), (145, 3), (145, 12), (145, 15), (145, 16)] S G S30 (up G31 145 this 15 n29) := (gr_up g41 rfl)
  refine r_newarrA hX hP rfl (L := 107) (n := 3) al_107 (by decide) rfl rfl rfl (tbg sg1 124 rfl rfl) (by decide) (by omega) (by omega) (fun n44 S45 G46 n44z n44n n44l g47 n44v => ?_)
  have z48 : S n44 = 0 := gr_zero g43 n44z
  have s49 : S45 this = 145 := gr_lab g47 s34 (by decide)
  have s50 : S45 n5 = 105 := gr_lab g47 s35 (by decide)
  have s51 : S45 n16 = 106 := gr_lab g47 s36 (by decide)
  have s52 : S45 n29 = 107 := gr_lab g47 n29l (by decide)
  have e53 : (-1) = G46 145 this 1 := gr_val g47 e37 s34 (by decide) rfl
  have e54 : (-1) = G46 145 this 2 := gr_val g47 e38 s34 (by decide) rfl
  have e55 : n5 = G46 145 this 3 := gr_val g47 e39 s34 (by decide) rfl
  have e56 : n16 = G46 145 this 12 := gr_val g47 e40 s34 (by decide) rfl
  have e57 : n29 = G46 145 this 15 := gr_val g47 h42 s34 (by decide) rfl
  have g58 : Gr [105, 106, 107] [(145, 1), (145, 2), (145, 3), (145, 12), (145, 15), (145, 16)] S G S45 G46 := gr_call g43 g47 rfl rfl
  refine r_putFN hX hP rfl rfl fq_X6_28_145 s49 (by decide) (Or.inr n44l) (fun h59 => ?_)
  refine r_finA hX (L := 145) (ci := 7) (fs := fs_145) rfl s49 (by decide) (fun hr60 => ?_)
  have hf61 : Fnl E fs_131 145 S45 (up G46 145 this 16 n44) this := by
    intro j hj
    rcases (by have : j < 17 := hj; omega : j = 0 ∨ j = 1 ∨ j = 2 ∨ j = 3 ∨ j = 4 ∨ j = 5 ∨ j = 6 ∨ j = 7 ∨ j = 8 ∨ j = 9 ∨ j = 10 ∨ j = 11 ∨ j = 12 ∨ j = 13 ∨ j = 14 ∨ j = 15 ∨ j = 16) with rfl | rfl | rfl | rfl | rfl | rfl | rfl | rfl | rfl | rfl | rfl | rfl | rfl | rfl | rfl | rfl | rfl
    · exact hr60 0 (by decide)
    · exact hr60 1 (by decide)
    · exact hr60 2 (by decide)
    · exact ⟨lab_of e55 s50, by decide⟩
    · exact hr60 4 (by decide)
    · exact hr60 5 (by decide)
    · exact hr60 6 (by decide)
    · exact hr60 7 (by decide)
    · exact hr60 8 (by decide)
    · exact hr60 9 (by decide)
    · exact hr60 10 (by decide)
    · exact hr60 11 (by decide)
    · exact ⟨lab_of e56 s51, by decide⟩
    · exact hr60 13 (by decide)
    · exact hr60 14 (by decide)
    · exact ⟨lab_of e57 s52, by decide⟩
    · exact ⟨lab_of h59 n44l, by decide⟩
  have g62 : Gr [105, 106, 107] [(145, 1), (145, 2), (145, 3), (145, 12), (145, 15), (145, 16)] S G S45 (up G46 145 this 16 n44) := (gr_up g58 rfl)
  exact r_retV hX hP rfl rfl (by omega) (by omega) ⟨g62, rfl, (-1), e53, (-1), e54, (by omega), (by omega), hf61⟩
set_option maxRecDepth 100000 in
set_option maxHeartbeats 4000000 in
theorem c_X8_initZ (E : En) (S : Sg) (G : Gh) (this : Int) (hS : S this = 143) (uno : No [130, 154, 155, 156, 157] S) : Calls E mX8_init [(2, this)] S G 6 96 2554 (fun r S' G' => Gr [93, 94, 95, 96, 97, 98, 114, 115, 116, 117, 118, 130, 144, 153, 154, 155, 156, 157] [(143, 0), (143, 1), (143, 3), (143, 4), (143, 5), (143, 6), (143, 7), (143, 8), (143, 9), (143, 10), (143, 11), (143, 12), (143, 13), (143, 14), (143, 17), (143, 18), (143, 19), (144, 1), (144, 2), (144, 3), (144, 4), (144, 5), (144, 6), (144, 7), (144, 8), (144, 9), (144, 10), (144, 11), (144, 12), (144, 13), (144, 14), (144, 15), (144, 16), (144, 17), (153, 0), (153, 1)] S G S' G' ∧ r = none ∧ ∃ ac : Int, ac = G' 143 this 9 ∧ UqL [157, 156, 155, 154, 130] S' ∧ EmL E [157, 156, 155, 154] S' G' ∧ S' ac = 130 ∧ G' 130 ac 0 = 0 ∧ Fnl E fs_129 143 S' G' this) := by
  refine calls_by [(0, (2, this))] rfl rfl (Nat.le_of_ble_eq_true rfl) (fun X hX => ?_)
  have hP := hPX8_init
  refine r_ex hX hP 1 (pc' := 1) (st' := [(2, this)]) (lo' := [(0, (2, this))]) rfl ?_
  refine r_nn hX hS (by decide) (fun p1 => ?_)
  refine r_objI hX hP rfl (tbg sg1 40 rfl rfl) (tbg sg1 33 rfl rfl) (tbg sg1 34 rfl rfl) p1 (by omega) (Nat.le_of_ble_eq_true rfl) ?_
  refine r_ex hX hP 1 (pc' := 5) (st' := [(2, this)]) (lo' := [(0, (2, this))]) rfl ?_
  refine r_ldc hX hP rfl (v := 40000) (tbg sg1 41 rfl rfl) ?_
  refine r_putIK hX hP rfl fp_X8_10_143 hS (by omega) (by omega) (fun h2 => ?_)
  refine r_ex hX hP 2 (pc' := 12) (st' := [(0, 1), (2, this)]) (lo' := [(0, (2, this))]) rfl ?_
  refine r_putIK hX hP rfl fp_X8_16_143 hS (by omega) (by omega) (fun h3 => ?_)
  refine r_ex hX hP 3 (pc' := 20) (st' := [(0, 20), (0, 20), (2, this)]) (lo' := [(0, (2, this))]) rfl ?_
  have u4 : EmL E [] S (up (up G 143 this 0 40000) 143 this 1 1) := (em_up (em_up (em_nil E S G) rfl) rfl)
  have g5 : Gr [93, 94, 95, 96, 97, 98, 114, 115, 116, 117, 118, 130, 144, 153, 154, 155, 156, 157] [(143, 0), (143, 1), (143, 3), (143, 4), (143, 5), (143, 6), (143, 7), (143, 8), (143, 9), (143, 10), (143, 11), (143, 12), (143, 13), (143, 14), (143, 17), (143, 18), (143, 19), (144, 1), (144, 2), (144, 3), (144, 4), (144, 5), (144, 6), (144, 7), (144, 8), (144, 9), (144, 10), (144, 11), (144, 12), (144, 13), (144, 14), (144, 15), (144, 16), (144, 17), (153, 0), (153, 1)] S G S (up (up G 143 this 0 40000) 143 this 1 1) := (gr_up (gr_up (gr_refl [93, 94, 95, 96, 97, 98, 114, 115, 116, 117, 118, 130, 144, 153, 154, 155, 156, 157] [(143, 0), (143, 1), (143, 3), (143, 4), (143, 5), (143, 6), (143, 7), (143, 8), (143, 9), (143, 10), (143, 11), (143, 12), (143, 13), (143, 14), (143, 17), (143, 18), (143, 19), (144, 1), (144, 2), (144, 3), (144, 4), (144, 5), (144, 6), (144, 7), (144, 8), (144, 9), (144, 10), (144, 11), (144, 12), (144, 13), (144, 14), (144, 15), (144, 16), (144, 17), (153, 0), (153, 1)] S G) rfl) rfl)
  refine r_multiA hX hP rfl (L := 114) (L2 := 95) (n := 20) (k := 20) al_114 al_95 (by decide) (by decide) (by decide) (tbg sg1 42 rfl rfl) (tbg sg1 123 rfl rfl) (by decide) (by decide) (by omega) (by omega) (fun n6 S7 G8 n6z n6n n6l g9 => ?_)
  have z10 : S n6 = 0 := gr_zero g5 n6z
  have s11 : S7 this = 143 := gr_lab g9 hS (by decide)
  have e12 : 40000 = G8 143 this 0 := gr_val g9 h2 hS (by decide) rfl
  have e13 : 1 = G8 143 this 1 := gr_val g9 h3 hS (by decide) rfl
  have g14 : Gr [93, 94, 95, 96, 97, 98, 114, 115, 116, 117, 118, 130, 144, 153, 154, 155, 156, 157] [(143, 0), (143, 1), (143, 3), (143, 4), (143, 5), (143, 6), (143, 7), (143, 8), (143, 9), (143, 10), (143, 11), (143, 12), (143, 13), (143, 14), (143, 17), (143, 18), (143, 19), (144, 1), (144, 2), (144, 3), (144, 4), (144, 5), (144, 6), (144, 7), (144, 8), (144, 9), (144, 10), (144, 11), (144, 12), (144, 13), (144, 14), (144, 15), (144, 16), (144, 17), (153, 0), (153, 1)] S G S7 G8 := gr_call g5 g9 rfl rfl
  have u15 : UqL [] S7 := uq_gr (uq_nil S) g9 rfl
  have u16 : No [130, 154, 155, 156, 157] S7 := no_gr (no_sub uno rfl) g9 rfl
  have u17 : EmL E [] S7 G8 := em_gr u4 g9 rfl
  refine r_putFN hX hP rfl rfl fq_X8_22_143 s11 (by decide) (Or.inr n6l) (fun h18 => ?_)
  refine r_ex hX hP 3 (pc' := 32) (st' := [(0, 20), (0, 20), (2, this)]) (lo' := [(0, (2, this))]) rfl ?_
  have u19 : EmL E [] S7 (up G8 143 this 3 n6) := (em_up u17 rfl)
  have g20 : Gr [93, 94, 95, 96, 97, 98, 114, 115, 116, 117, 118, 130, 144, 153, 154, 155, 156, 157] [(143, 0), (143, 1), (143, 3), (143, 4), (143, 5), (143, 6), (143, 7), (143, 8), (143, 9), (143, 10), (143, 11), (143, 12), (143, 13), (143, 14), (143, 17), (143, 18), (143, 19), (144, 1), (144, 2), (144, 3), (144, 4), (144, 5), (144, 6), (144, 7), (144, 8), (144, 9), (144, 10), (144, 11), (144, 12), (144, 13), (144, 14), (144, 15), (144, 16), (144, 17), (153, 0), (153, 1)] S G S7 (up G8 143 this 3 n6) := (gr_up g14 rfl)
  refine r_multiA hX hP rfl (L := 114) (L2 := 95) (n := 20) (k := 20) al_114 al_95 (by decide) (by decide) (by decide) (tbg sg1 42 rfl rfl) (tbg sg1 123 rfl rfl) (by decide) (by decide) (by omega) (by omega) (fun n21 S22 G23 n21z n21n n21l g24 => ?_)
  have z25 : S n21 = 0 := gr_zero g20 n21z
  have s26 : S22 this = 143 := gr_lab g24 s11 (by decide)
  have s27 : S22 n6 = 114 := gr_lab g24 n6l (by decide)
  have e28 : 40000 = G23 143 this 0 := gr_val g24 e12 s11 (by decide) rfl
  have e29 : 1 = G23 143 this 1 := gr_val g24 e13 s11 (by decide) rfl
  have e30 : n6 = G23 143 this 3 := gr_val g24 h18 s11 (by decide) rfl
  have g31 : Gr [93, 94, 95, 96, 97, 98, 114, 115, 116, 117, 118, 130, 144, 153, 154, 155, 156, 157] [(143, 0), (143, 1), (143, 3), (143, 4), (143, 5), (143, 6), (143, 7), (143, 8), (143, 9), (143, 10), (143, 11), (143, 12), (143, 13), (143, 14), (143, 17), (143, 18), (143, 19), (144, 1), (144, 2), (144, 3), (144, 4), (144, 5), (144, 6), (144, 7), (144, 8), (144, 9), (144, 10), (144, 11), (144, 12), (144, 13), (144, 14), (144, 15), (144, 16), (144, 17), (153, 0), (153, 1)] S G S22 G23 := gr_call g20 g24 rfl rfl
  have u32 : UqL [] S22 := uq_gr u15 g24 rfl
  have u33 : No [130, 154, 155, 156, 157] S22 := no_gr (no_sub u16 rfl) g24 rfl
  have u34 : EmL E [] S22 G23 := em_gr u19 g24 rfl
  refine r_putFN hX hP rfl rfl fq_X8_25_143 s26 (by decide) (Or.inr n21l) (fun h35 => ?_)
  refine r_ex hX hP 2 (pc' := 42) (st' := [(0, 20), (2, this)]) (lo' := [(0, (2, this))]) rfl ?_
  have u36 : EmL E [] S22 (up G23 143 this 4 n21) := (em_up u34 rfl)
  have g37 : Gr [93, 94, 95, 96, 97, 98, 114, 115, 116, 117, 118, 130, 144, 153, 154, 155, 156, 157] [(143, 0), (143, 1), (143, 3), (143, 4), (143, 5), (143, 6), (143, 7), (143, 8), (143, 9), (143, 10), (143, 11), (143, 12), (143, 13), (143, 14), (143, 17), (143, 18), (143, 19), (144, 1), (144, 2), (144, 3), (144, 4), (144, 5), (144, 6), (144, 7), (144, 8), (144, 9), (144, 10), (144, 11), (144, 12), (144, 13), (144, 14), (144, 15), (144, 16), (144, 17), (153, 0), (153, 1)] S G S22 (up G23 143 this 4 n21) := (gr_up g31 rfl)
  refine r_newarrA hX hP rfl (L := 95) (n := 20) al_95 (by decide) rfl rfl rfl (tbg sg1 123 rfl rfl) (by decide) (by omega) (by omega) (fun n38 S39 G40 n38z n38n n38l g41 n38v => ?_)
  have z42 : S n38 = 0 := gr_zero g37 n38z
  have s43 : S39 this = 143 := gr_lab g41 s26 (by decide)
  have s44 : S39 n6 = 114 := gr_lab g41 s27 (by decide)
  have s45 : S39 n21 = 114 := gr_lab g41 n21l (by decide)
  have e46 : 40000 = G40 143 this 0 := gr_val g41 e28 s26 (by decide) rfl
  have e47 : 1 = G40 143 this 1 := gr_val g41 e29 s26 (by decide) rfl
  have e48 : n6 = G40 143 this 3 := gr_val g41 e30 s26 (by decide) rfl
  have e49 : n21 = G40 143 this 4 := gr_val g41 h35 s26 (by decide) rfl
  have g50 : Gr [93, 94, 95, 96, 97, 98, 114, 115, 116, 117, 118, 130, 144, 153, 154, 155, 156, 157] [(143, 0), (143, 1), (143, 3), (143, 4), (143, 5), (143, 6), (143, 7), (143, 8), (143, 9), (143, 10), (143, 11), (143, 12), (143, 13), (143, 14), (143, 17), (143, 18), (143, 19), (144, 1), (144, 2), (144, 3), (144, 4), (144, 5), (144, 6), (144, 7), (144, 8), (144, 9), (144, 10), (144, 11), (144, 12), (144, 13), (144, 14), (144, 15), (144, 16), (144, 17), (153, 0), (153, 1)] S G S39 G40 := gr_call g37 g41 rfl rfl
  have u51 : UqL [] S39 := uq_gr u32 g41 rfl
  have u52 : No [130, 154, 155, 156, 157] S39 := no_gr (no_sub u33 rfl) g41 rfl
  have u53 : EmL E [] S39 G40 := em_gr u36 g41 rfl
  refine r_putFN hX hP rfl rfl fq_X8_28_143 s43 (by decide) (Or.inr n38l) (fun h54 => ?_)
  refine r_ex hX hP 2 (pc' := 50) (st' := [(0, 20), (2, this)]) (lo' := [(0, (2, this))]) rfl ?_
  have u55 : EmL E [] S39 (up G40 143 this 5 n38) := (em_up u53 rfl)
  have g56 : Gr [93, 94, 95, 96, 97, 98, 114, 115, 116, 117, 118, 130, 144, 153, 154, 155, 156, 157] [(143, 0), (143, 1), (143, 3), (143, 4), (143, 5), (143, 6), (143, 7), (143, 8), (143, 9), (143, 10), (143, 11), (143, 12), (143, 13), (143, 14), (143, 17), (143, 18), (143, 19), (144, 1), (144, 2), (144, 3), (144, 4), (144, 5), (144, 6), (144, 7), (144, 8), (144, 9), (144, 10), (144, 11), (144, 12), (144, 13), (144, 14), (144, 15), (144, 16), (144, 17), (153, 0), (153, 1)] S G S39 (up G40 143 this 5 n38) := (gr_up g50 rfl)
  refine r_newarrA hX hP rfl (L := 95) (n := 20) al_95 (by decide) rfl rfl rfl (tbg sg1 123 rfl rfl) (by decide) (by omega) (by omega) (fun n57 S58 G59 n57z n57n n57l g60 n57v => ?_)
  have z61 : S n57 = 0 := gr_zero g56 n57z
  have s62 : S58 this = 143 := gr_lab g60 s43 (by decide)
  have s63 : S58 n6 = 114 := gr_lab g60 s44 (by decide)
  have s64 : S58 n21 = 114 := gr_lab g60 s45 (by decide)
  have s65 : S58 n38 = 95 := gr_lab g60 n38l (by decide)
  have e66 : 40000 = G59 143 this 0 := gr_val g60 e46 s43 (by decide) rfl
  have e67 : 1 = G59 143 this 1 := gr_val g60 e47 s43 (by decide) rfl
  have e68 : n6 = G59 143 this 3 := gr_val g60 e48 s43 (by decide) rfl
  have e69 : n21 = G59 143 this 4 := gr_val g60 e49 s43 (by decide) rfl
  have e70 : n38 = G59 143 this 5 := gr_val g60 h54 s43 (by decide) rfl
  have g71 : Gr [93, 94, 95, 96, 97, 98, 114, 115, 116, 117, 118, 130, 144, 153, 154, 155, 156, 157] [(143, 0), (143, 1), (143, 3), (143, 4), (143, 5), (143, 6), (143, 7), (143, 8), (143, 9), (143, 10), (143, 11), (143, 12), (143, 13), (143, 14), (143, 17), (143, 18), (143, 19), (144, 1), (144, 2), (144, 3), (144, 4), (144, 5), (144, 6), (144, 7), (144, 8), (144, 9), (144, 10), (144, 11), (144, 12), (144, 13), (144, 14), (144, 15), (144, 16), (144, 17), (153, 0), (153, 1)] S G S58 G59 := gr_call g56 g60 rfl rfl
  have u72 : UqL [] S58 := uq_gr u51 g60 rfl
  have u73 : No [130, 154, 155, 156, 157] S58 := no_gr (no_sub u52 rfl) g60 rfl
  have u74 : EmL E [] S58 G59 := em_gr u55 g60 rfl
  refine r_putFN hX hP rfl rfl fq_X8_32_143 s62 (by decide) (Or.inr n57l) (fun h75 => ?_)
  refine r_ex hX hP 2 (pc' := 58) (st' := [(0, 40), (2, this)]) (lo' := [(0, (2, this))]) rfl ?_
  have u76 : EmL E [] S58 (up G59 143 this 6 n57) := (em_up u74 rfl)
  have g77 : Gr [93, 94, 95, 96, 97, 98, 114, 115, 116, 117, 118, 130, 144, 153, 154, 155, 156, 157] [(143, 0), (143, 1), (143, 3), (143, 4), (143, 5), (143, 6), (143, 7), (143, 8), (143, 9), (143, 10), (143, 11), (143, 12), (143, 13), (143, 14), (143, 17), (143, 18), (143, 19), (144, 1), (144, 2), (144, 3), (144, 4), (144, 5), (144, 6), (144, 7), (144, 8), (144, 9), (144, 10), (144, 11), (144, 12), (144, 13), (144, 14), (144, 15), (144, 16), (144, 17), (153, 0), (153, 1)] S G S58 (up G59 143 this 6 n57) := (gr_up g71 rfl)
  refine r_newarrA hX hP rfl (L := 115) (n := 40) al_115 (by decide) rfl rfl rfl (tbg sg1 124 rfl rfl) (by decide) (by omega) (by omega) (fun n78 S79 G80 n78z n78n n78l g81 n78v => ?_)
  have z82 : S n78 = 0 := gr_zero g77 n78z
  have s83 : S79 this = 143 := gr_lab g81 s62 (by decide)
  have s84 : S79 n6 = 114 := gr_lab g81 s63 (by decide)
  have s85 : S79 n21 = 114 := gr_lab g81 s64 (by decide)
  have s86 : S79 n38 = 95 := gr_lab g81 s65 (by decide)
  have s87 : S79 n57 = 95 := gr_lab g81 n57l (by decide)
  have e88 : 40000 = G80 143 this 0 := gr_val g81 e66 s62 (by decide) rfl
  have e89 : 1 = G80 143 this 1 := gr_val g81 e67 s62 (by decide) rfl
  have e90 : n6 = G80 143 this 3 := gr_val g81 e68 s62 (by decide) rfl
  have e91 : n21 = G80 143 this 4 := gr_val g81 e69 s62 (by decide) rfl
  have e92 : n38 = G80 143 this 5 := gr_val g81 e70 s62 (by decide) rfl
  have e93 : n57 = G80 143 this 6 := gr_val g81 h75 s62 (by decide) rfl
  have g94 : Gr [93, 94, 95, 96, 97, 98, 114, 115, 116, 117, 118, 130, 144, 153, 154, 155, 156, 157] [(143, 0), (143, 1), (143, 3), (143, 4), (143, 5), (143, 6), (143, 7), (143, 8), (143, 9), (143, 10), (143, 11), (143, 12), (143, 13), (143, 14), (143, 17), (143, 18), (143, 19), (144, 1), (144, 2), (144, 3), (144, 4), (144, 5), (144, 6), (144, 7), (144, 8), (144, 9), (144, 10), (144, 11), (144, 12), (144, 13), (144, 14), (144, 15), (144, 16), (144, 17), (153, 0), (153, 1)] S G S79 G80 := gr_call g77 g81 rfl rfl
  have u95 : UqL [] S79 := uq_gr u72 g81 rfl
  have u96 : No [130, 154, 155, 156, 157] S79 := no_gr (no_sub u73 rfl) g81 rfl
  have u97 : EmL E [] S79 G80 := em_gr u76 g81 rfl
  refine r_putFN hX hP rfl rfl fq_X8_35_143 s83 (by decide) (Or.inr n78l) (fun h98 => ?_)
  refine r_ex hX hP 3 (pc' := 68) (st' := [(0, 60), (0, 16), (2, this)]) (lo' := [(0, (2, this))]) rfl ?_
  have u99 : EmL E [] S79 (up G80 143 this 7 n78) := (em_up u97 rfl)
  have g100 : Gr [93, 94, 95, 96, 97, 98, 114, 115, 116, 117, 118, 130, 144, 153, 154, 155, 156, 157] [(143, 0), (143, 1), (143, 3), (143, 4), (143, 5), (143, 6), (143, 7), (143, 8), (143, 9), (143, 10), (143, 11), (143, 12), (143, 13), (143, 14), (143, 17), (143, 18), (143, 19), (144, 1), (144, 2), (144, 3), (144, 4), (144, 5), (144, 6), (144, 7), (144, 8), (144, 9), (144, 10), (144, 11), (144, 12), (144, 13), (144, 14), (144, 15), (144, 16), (144, 17), (153, 0), (153, 1)] S G S79 (up G80 143 this 7 n78) := (gr_up g94 rfl)
  refine r_multiA hX hP rfl (L := 117) (L2 := 116) (n := 16) (k := 60) al_117 al_116 (by decide) (by decide) (by decide) (tbg sg1 42 rfl rfl) (tbg sg1 123 rfl rfl) (by decide) (by decide) (by omega) (by omega) (fun n101 S102 G103 n101z n101n n101l g104 => ?_)
  have z105 : S n101 = 0 := gr_zero g100 n101z
  have s106 : S102 this = 143 := gr_lab g104 s83 (by decide)
  have s107 : S102 n6 = 114 := gr_lab g104 s84 (by decide)
  have s108 : S102 n21 = 114 := gr_lab g104 s85 (by decide)
  have s109 : S102 n38 = 95 := gr_lab g104 s86 (by decide)
  have s110 : S102 n57 = 95 := gr_lab g104 s87 (by decide)
  have s111 : S102 n78 = 115 := gr_lab g104 n78l (by decide)
  have e112 : 40000 = G103 143 this 0 := gr_val g104 e88 s83 (by decide) rfl
  have e113 : 1 = G103 143 this 1 := gr_val g104 e89 s83 (by decide) rfl
  have e114 : n6 = G103 143 this 3 := gr_val g104 e90 s83 (by decide) rfl
  have e115 : n21 = G103 143 this 4 := gr_val g104 e91 s83 (by decide) rfl
  have e116 : n38 = G103 143 this 5 := gr_val g104 e92 s83 (by decide) rfl
  have e117 : n57 = G103 143 this 6 := gr_val g104 e93 s83 (by decide) rfl
  have e118 : n78 = G103 143 this 7 := gr_val g104 h98 s83 (by decide) rfl
  have g119 : Gr [93, 94, 95, 96, 97, 98, 114, 115, 116, 117, 118, 130, 144, 153, 154, 155, 156, 157] [(143, 0), (143, 1), (143, 3), (143, 4), (143, 5), (143, 6), (143, 7), (143, 8), (143, 9), (143, 10), (143, 11), (143, 12), (143, 13), (143, 14), (143, 17), (143, 18), (143, 19), (144, 1), (144, 2), (144, 3), (144, 4), (144, 5), (144, 6), (144, 7), (144, 8), (144, 9), (144, 10), (144, 11), (144, 12), (144, 13), (144, 14), (144, 15), (144, 16), (144, 17), (153, 0), (153, 1)] S G S102 G103 := gr_call g100 g104 rfl rfl
  have u120 : UqL [] S102 := uq_gr u95 g104 rfl
  have u121 : No [130, 154, 155, 156, 157] S102 := no_gr (no_sub u96 rfl) g104 rfl
  have u122 : EmL E [] S102 G103 := em_gr u99 g104 rfl
  refine r_putFN hX hP rfl rfl fq_X8_39_143 s106 (by decide) (Or.inr n101l) (fun h123 => ?_)
  refine r_ex hX hP 1 (pc' := 76) (st' := [(2, this)]) (lo' := [(0, (2, this))]) rfl ?_
  have u124 : EmL E [] S102 (up G103 143 this 8 n101) := (em_up u122 rfl)
  have g125 : Gr [93, 94, 95, 96, 97, 98, 114, 115, 116, 117, 118, 130, 144, 153, 154, 155, 156, 157] [(143, 0), (143, 1), (143, 3), (143, 4), (143, 5), (143, 6), (143, 7), (143, 8), (143, 9), (143, 10), (143, 11), (143, 12), (143, 13), (143, 14), (143, 17), (143, 18), (143, 19), (144, 1), (144, 2), (144, 3), (144, 4), (144, 5), (144, 6), (144, 7), (144, 8), (144, 9), (144, 10), (144, 11), (144, 12), (144, 13), (144, 14), (144, 15), (144, 16), (144, 17), (153, 0), (153, 1)] S G S102 (up G103 143 this 8 n101) := (gr_up g119 rfl)
  refine r_newA hX hP rfl (L := 144) (N := 18) nw_X8_42_144 (by omega) (by omega) (fun n126 S127 G128 n126z n126n n126l g129 n126v => ?_)
  have z130 : S n126 = 0 := gr_zero g125 n126z
  have s131 : S127 this = 143 := gr_lab g129 s106 (by decide)
  have s132 : S127 n6 = 114 := gr_lab g129 s107 (by decide)
  have s133 : S127 n21 = 114 := gr_lab g129 s108 (by decide)
  have s134 : S127 n38 = 95 := gr_lab g129 s109 (by decide)
  have s135 : S127 n57 = 95 := gr_lab g129 s110 (by decide)
  have s136 : S127 n78 = 115 := gr_lab g129 s111 (by decide)
  have s137 : S127 n101 = 117 := gr_lab g129 n101l (by decide)
  have e138 : 40000 = G128 143 this 0 := gr_val g129 e112 s106 (by decide) rfl
  have e139 : 1 = G128 143 this 1 := gr_val g129 e113 s106 (by decide) rfl
  have e140 : n6 = G128 143 this 3 := gr_val g129 e114 s106 (by decide) rfl
  have e141 : n21 = G128 143 this 4 := gr_val g129 e115 s106 (by decide) rfl
  have e142 : n38 = G128 143 this 5 := gr_val g129 e116 s106 (by decide) rfl
  have e143 : n57 = G128 143 this 6 := gr_val g129 e117 s106 (by decide) rfl
  have e144 : n78 = G128 143 this 7 := gr_val g129 e118 s106 (by decide) rfl
  have e145 : n101 = G128 143 this 8 := gr_val g129 h123 s106 (by decide) rfl
  have g146 : Gr [93, 94, 95, 96, 97, 98, 114, 115, 116, 117, 118, 130, 144, 153, 154, 155, 156, 157] [(143, 0), (143, 1), (143, 3), (143, 4), (143, 5), (143, 6), (143, 7), (143, 8), (143, 9), (143, 10), (143, 11), (143, 12), (143, 13), (143, 14), (143, 17), (143, 18), (143, 19), (144, 1), (144, 2), (144, 3), (144, 4), (144, 5), (144, 6), (144, 7), (144, 8), (144, 9), (144, 10), (144, 11), (144, 12), (144, 13), (144, 14), (144, 15), (144, 16), (144, 17), (153, 0), (153, 1)] S G S127 G128 := gr_call g125 g129 rfl rfl
  have u147 : UqL [] S127 := uq_gr u120 g129 rfl
  have u148 : No [130, 154, 155, 156, 157] S127 := no_gr (no_sub u121 rfl) g129 rfl
  have u149 : EmL E [] S127 G128 := em_gr u124 g129 rfl
  have e150 : 0 = G128 144 n126 0 := (n126v 0).symm
  refine r_ex hX hP 1 (pc' := 80) (st' := [(2, n126), (2, n126), (2, this)]) (lo' := [(0, (2, this))]) rfl ?_
  refine r_callIN gd hX hP rfl cn_X8_44 n126n (d' := 3) (mc' := 25) (ms' := 472) (as' := []) (st := [(2, n126), (2, this)]) (by omega) (by omega) (by omega) rfl rfl (Nat.le_of_ble_eq_true rfl) (c_X0_init E S127 G128 n126  n126l) ?_
  rintro _ S151 G152 ⟨g153, rfl, hf154⟩
  have s155 : S151 this = 143 := gr_lab g153 s131 (by decide)
  have s156 : S151 n6 = 114 := gr_lab g153 s132 (by decide)
  have s157 : S151 n21 = 114 := gr_lab g153 s133 (by decide)
  have s158 : S151 n38 = 95 := gr_lab g153 s134 (by decide)
  have s159 : S151 n57 = 95 := gr_lab g153 s135 (by decide)
  have s160 : S151 n78 = 115 := gr_lab g153 s136 (by decide)
  have s161 : S151 n101 = 117 := gr_lab g153 s137 (by decide)
  have s162 : S151 n126 = 144 := gr_lab g153 n126l (by decide)
  have e163 : 40000 = G152 143 this 0 := gr_val g153 e138 s131 (by decide) rfl
  have e164 : 1 = G152 143 this 1 := gr_val g153 e139 s131 (by decide) rfl
  have e165 : n6 = G152 143 this 3 := gr_val g153 e140 s131 (by decide) rfl
  have e166 : n21 = G152 143 this 4 := gr_val g153 e141 s131 (by decide) rfl
  have e167 : n38 = G152 143 this 5 := gr_val g153 e142 s131 (by decide) rfl
  have e168 : n57 = G152 143 this 6 := gr_val g153 e143 s131 (by decide) rfl
  have e169 : n78 = G152 143 this 7 := gr_val g153 e144 s131 (by decide) rfl
  have e170 : n101 = G152 143 this 8 := gr_val g153 e145 s131 (by decide) rfl
  have e171 : 0 = G152 144 n126 0 := gr_val g153 e150 n126l (by decide) rfl
  have g172 : Gr [93, 94, 95, 96, 97, 98, 114, 115, 116, 117, 118, 130, 144, 153, 154, 155, 156, 157] [(143, 0), (143, 1), (143, 3), (143, 4), (143, 5), (143, 6), (143, 7), (143, 8), (143, 9), (143, 10), (143, 11), (143, 12), (143, 13), (143, 14), (143, 17), (143, 18), (143, 19), (144, 1), (144, 2), (144, 3), (144, 4), (144, 5), (144, 6), (144, 7), (144, 8), (144, 9), (144, 10), (144, 11), (144, 12), (144, 13), (144, 14), (144, 15), (144, 16), (144, 17), (153, 0), (153, 1)] S G S151 G152 := gr_call g146 g153 rfl rfl
  have u173 : UqL [] S151 := uq_gr u147 g153 rfl
  have u174 : No [130, 154, 155, 156, 157] S151 := no_gr (no_sub u148 rfl) g153 rfl
  have u175 : EmL E [] S151 G152 := em_gr u149 g153 rfl
  refine r_finA hX (L := 144) (ci := 1) (fs := fs_144) rfl s162 (by decide) (fun hr176 => ?_)
  refine r_relabF hX (L := 144) (L' := 130) (ci := 1) (fs := fs_144) (fs' := fs_130) rfl rfl rfl (by decide) (by decide) nf_144 (by decide) s162 hf154 (fun S179 G180 r178 => ?_)
  have s182 : S179 this = 143 := r178.lab s162 s155 (by decide)
  have s183 : S179 n6 = 114 := r178.lab s162 s156 (by decide)
  have s184 : S179 n21 = 114 := r178.lab s162 s157 (by decide)
  have s185 : S179 n38 = 95 := r178.lab s162 s158 (by decide)
  have s186 : S179 n57 = 95 := r178.lab s162 s159 (by decide)
  have s187 : S179 n78 = 115 := r178.lab s162 s160 (by decide)
  have s188 : S179 n101 = 117 := r178.lab s162 s161 (by decide)
  have e189 : 40000 = G180 143 this 0 := rs_val r178 s162 e163 s155 (by decide)
  have e190 : 1 = G180 143 this 1 := rs_val r178 s162 e164 s155 (by decide)
  have e191 : n6 = G180 143 this 3 := rs_val r178 s162 e165 s155 (by decide)
  have e192 : n21 = G180 143 this 4 := rs_val r178 s162 e166 s155 (by decide)
  have e193 : n38 = G180 143 this 5 := rs_val r178 s162 e167 s155 (by decide)
  have e194 : n57 = G180 143 this 6 := rs_val r178 s162 e168 s155 (by decide)
  have e195 : n78 = G180 143 this 7 := rs_val r178 s162 e169 s155 (by decide)
  have e196 : n101 = G180 143 this 8 := rs_val r178 s162 e170 s155 (by decide)
  have e197 : 0 = G180 130 n126 0 := e171.trans (r178.2.2.1 0).symm
  have g198 : Gr [93, 94, 95, 96, 97, 98, 114, 115, 116, 117, 118, 130, 144, 153, 154, 155, 156, 157] [(143, 0), (143, 1), (143, 3), (143, 4), (143, 5), (143, 6), (143, 7), (143, 8), (143, 9), (143, 10), (143, 11), (143, 12), (143, 13), (143, 14), (143, 17), (143, 18), (143, 19), (144, 1), (144, 2), (144, 3), (144, 4), (144, 5), (144, 6), (144, 7), (144, 8), (144, 9), (144, 10), (144, 11), (144, 12), (144, 13), (144, 14), (144, 15), (144, 16), (144, 17), (153, 0), (153, 1)] S G S179 G180 := gr_rs g172 r178 z130 rfl
  have u199 : UqL [130] S179 := uq_rs u173 (no_sub u174 rfl) r178 rfl
  have u200 : EmL E [] S179 G180 := em_rsN u175 r178 rfl
  have u201 : No [154, 155, 156, 157] S179 := no_rs u174 r178 rfl
  refine r_putFN hX hP rfl rfl fq_X8_45_143 s182 (by decide) (Or.inr r178.1) (fun h202 => ?_)
  refine r_ex hX hP 1 (pc' := 87) (st' := [(2, this)]) (lo' := [(0, (2, this))]) rfl ?_
  have u203 : EmL E [] S179 (up G180 143 this 9 n126) := (em_up u200 rfl)
  have g204 : Gr [93, 94, 95, 96, 97, 98, 114, 115, 116, 117, 118, 130, 144, 153, 154, 155, 156, 157] [(143, 0), (143, 1), (143, 3), (143, 4), (143, 5), (143, 6), (143, 7), (143, 8), (143, 9), (143, 10), (143, 11), (143, 12), (143, 13), (143, 14), (143, 17), (143, 18), (143, 19), (144, 1), (144, 2), (144, 3), (144, 4), (144, 5), (144, 6), (144, 7), (144, 8), (144, 9), (144, 10), (144, 11), (144, 12), (144, 13), (144, 14), (144, 15), (144, 16), (144, 17), (153, 0), (153, 1)] S G S179 (up G180 143 this 9 n126) := (gr_up g198 rfl)
  refine r_newA hX hP rfl (L := 153) (N := 3) nw_X8_49_153 (by omega) (by omega) (fun n205 S206 G207 n205z n205n n205l g208 n205v => ?_)
  have z209 : S n205 = 0 := gr_zero g204 n205z
  have s210 : S206 this = 143 := gr_lab g208 s182 (by decide)
  have s211 : S206 n6 = 114 := gr_lab g208 s183 (by decide)
  have s212 : S206 n21 = 114 := gr_lab g208 s184 (by decide)
  have s213 : S206 n38 = 95 := gr_lab g208 s185 (by decide)
  have s214 : S206 n57 = 95 := gr_lab g208 s186 (by decide)
  have s215 : S206 n78 = 115 := gr_lab g208 s187 (by decide)
  have s216 : S206 n101 = 117 := gr_lab g208 s188 (by decide)
  have s217 : S206 n126 = 130 := gr_lab g208 r178.1 (by decide)
  have e218 : 40000 = G207 143 this 0 := gr_val g208 e189 s182 (by decide) rfl
  have e219 : 1 = G207 143 this 1 := gr_val g208 e190 s182 (by decide) rfl
  have e220 : n6 = G207 143 this 3 := gr_val g208 e191 s182 (by decide) rfl
  have e221 : n21 = G207 143 this 4 := gr_val g208 e192 s182 (by decide) rfl
  have e222 : n38 = G207 143 this 5 := gr_val g208 e193 s182 (by decide) rfl
  have e223 : n57 = G207 143 this 6 := gr_val g208 e194 s182 (by decide) rfl
  have e224 : n78 = G207 143 this 7 := gr_val g208 e195 s182 (by decide) rfl
  have e225 : n101 = G207 143 this 8 := gr_val g208 e196 s182 (by decide) rfl
  have e226 : 0 = G207 130 n126 0 := gr_val g208 e197 r178.1 (by decide) rfl
  have e227 : n126 = G207 143 this 9 := gr_val g208 h202 s182 (by decide) rfl
  have g228 : Gr [93, 94, 95, 96, 97, 98, 114, 115, 116, 117, 118, 130, 144, 153, 154, 155, 156, 157] [(143, 0), (143, 1), (143, 3), (143, 4), (143, 5), (143, 6), (143, 7), (143, 8), (143, 9), (143, 10), (143, 11), (143, 12), (143, 13), (143, 14), (143, 17), (143, 18), (143, 19), (144, 1), (144, 2), (144, 3), (144, 4), (144, 5), (144, 6), (144, 7), (144, 8), (144, 9), (144, 10), (144, 11), (144, 12), (144, 13), (144, 14), (144, 15), (144, 16), (144, 17), (153, 0), (153, 1)] S G S206 G207 := gr_call g204 g208 rfl rfl
  have u229 : UqL [130] S206 := uq_gr u199 g208 rfl
  have u230 : No [154, 155, 156, 157] S206 := no_gr (no_sub u201 rfl) g208 rfl
  have u231 : EmL E [] S206 G207 := em_gr u203 g208 rfl
  refine r_ex hX hP 1 (pc' := 91) (st' := [(2, n205), (2, n205), (2, this)]) (lo' := [(0, (2, this))]) rfl ?_
  refine r_callI gd hX hP rfl ci_X8_51 n205n (d' := 5) (mc' := 0) (ms' := 0) (as' := []) (st := [(2, n205), (2, this)]) (by omega) (by omega) (by omega) rfl rfl (Nat.le_of_ble_eq_true rfl) (c_Jx4a65c_init_da8c8 E S206 G207 n205  n205l) ?_
  rintro _ _ _ ⟨rfl, ⟨G232, rfl⟩, rfl, elh233, elh233e, f234⟩
  have e236 : Ad E 0 = (hw [(153, 0), (153, 1)] G207 G232) 153 n205 1 := by rw [← f234]; exact elh233e
  have u237 : EmL E [] S206 (hw [(153, 0), (153, 1)] G207 G232) := (em_hw u231 rfl)
  have g238 : Gr [93, 94, 95, 96, 97, 98, 114, 115, 116, 117, 118, 130, 144, 153, 154, 155, 156, 157] [(143, 0), (143, 1), (143, 3), (143, 4), (143, 5), (143, 6), (143, 7), (143, 8), (143, 9), (143, 10), (143, 11), (143, 12), (143, 13), (143, 14), (143, 17), (143, 18), (143, 19), (144, 1), (144, 2), (144, 3), (144, 4), (144, 5), (144, 6), (144, 7), (144, 8), (144, 9), (144, 10), (144, 11), (144, 12), (144, 13), (144, 14), (144, 15), (144, 16), (144, 17), (153, 0), (153, 1)] S G S206 (hw [(153, 0), (153, 1)] G207 G232) := (gr_hw g228 rfl)
  refine r_finA hX (L := 153) (ci := 0) (fs := fs_153) rfl n205l (by decide) (fun hr239 => ?_)
  have hf240 : Fnl E fs_154 153 S206 (hw [(153, 0), (153, 1)] G207 G232) n205 := by
    intro j hj
    rcases (by have : j < 3 := hj; omega : j = 0 ∨ j = 1 ∨ j = 2) with rfl | rfl | rfl
    · exact hr239 0 (by decide)
    · exact Or.inl e236.symm
    · have e : (0 : Int) ≤ (hw [(153, 0), (153, 1)] G207 G232) 153 n205 2 ∧ (hw [(153, 0), (153, 1)] G207 G232) 153 n205 2 ≤ 0 := hr239 2 (by decide); show (0 : Int) ≤ (hw [(153, 0), (153, 1)] G207 G232) 153 n205 2 ∧ (hw [(153, 0), (153, 1)] G207 G232) 153 n205 2 ≤ 40; omega
  refine r_relabF hX (L := 153) (L' := 154) (ci := 0) (fs := fs_153) (fs' := fs_154) rfl rfl rfl (by decide) (by decide) nf_153 (by decide) n205l hf240 (fun S242 G243 r241 => ?_)
  have s245 : S242 this = 143 := r241.lab n205l s210 (by decide)
  have s246 : S242 n6 = 114 := r241.lab n205l s211 (by decide)
  have s247 : S242 n21 = 114 := r241.lab n205l s212 (by decide)
  have s248 : S242 n38 = 95 := r241.lab n205l s213 (by decide)
  have s249 : S242 n57 = 95 := r241.lab n205l s214 (by decide)
  have s250 : S242 n78 = 115 := r241.lab n205l s215 (by decide)
  have s251 : S242 n101 = 117 := r241.lab n205l s216 (by decide)
  have s252 : S242 n126 = 130 := r241.lab n205l s217 (by decide)
  have e253 : 40000 = G243 143 this 0 := rs_val r241 n205l e218 s210 (by decide)
  have e254 : 1 = G243 143 this 1 := rs_val r241 n205l e219 s210 (by decide)
  have e255 : n6 = G243 143 this 3 := rs_val r241 n205l e220 s210 (by decide)
  have e256 : n21 = G243 143 this 4 := rs_val r241 n205l e221 s210 (by decide)
  have e257 : n38 = G243 143 this 5 := rs_val r241 n205l e222 s210 (by decide)
  have e258 : n57 = G243 143 this 6 := rs_val r241 n205l e223 s210 (by decide)
  have e259 : n78 = G243 143 this 7 := rs_val r241 n205l e224 s210 (by decide)
  have e260 : n101 = G243 143 this 8 := rs_val r241 n205l e225 s210 (by decide)
  have e261 : 0 = G243 130 n126 0 := rs_val r241 n205l e226 s217 (by decide)
  have e262 : n126 = G243 143 this 9 := rs_val r241 n205l e227 s210 (by decide)
  have e263 : (Ad E 0) = G243 154 n205 1 := e236.trans (r241.2.2.1 1).symm
  have g264 : Gr [93, 94, 95, 96, 97, 98, 114, 115, 116, 117, 118, 130, 144, 153, 154, 155, 156, 157] [(143, 0), (143, 1), (143, 3), (143, 4), (143, 5), (143, 6), (143, 7), (143, 8), (143, 9), (143, 10), (143, 11), (143, 12), (143, 13), (143, 14), (143, 17), (143, 18), (143, 19), (144, 1), (144, 2), (144, 3), (144, 4), (144, 5), (144, 6), (144, 7), (144, 8), (144, 9), (144, 10), (144, 11), (144, 12), (144, 13), (144, 14), (144, 15), (144, 16), (144, 17), (153, 0), (153, 1)] S G S242 G243 := gr_rs g238 r241 z209 rfl
  have u265 : UqL [154, 130] S242 := uq_rs u229 (no_sub u230 rfl) r241 rfl
  have u266 : EmL E [154] S242 G243 := em_rs u237 (no_sub u230 rfl) r241 e236 (by have e : (0 : Int) ≤ (hw [(153, 0), (153, 1)] G207 G232) 153 n205 2 ∧ (hw [(153, 0), (153, 1)] G207 G232) 153 n205 2 ≤ 0 := hr239 2 (by decide); omega) rfl
  have u267 : No [155, 156, 157] S242 := no_rs u230 r241 rfl
  refine r_putFN hX hP rfl rfl fq_X8_52_143 s245 (by decide) (Or.inr r241.1) (fun h268 => ?_)
  refine r_ex hX hP 1 (pc' := 98) (st' := [(2, this)]) (lo' := [(0, (2, this))]) rfl ?_
  have u269 : EmL E [154] S242 (up G243 143 this 10 n205) := (em_up u266 rfl)
  have g270 : Gr [93, 94, 95, 96, 97, 98, 114, 115, 116, 117, 118, 130, 144, 153, 154, 155, 156, 157] [(143, 0), (143, 1), (143, 3), (143, 4), (143, 5), (143, 6), (143, 7), (143, 8), (143, 9), (143, 10), (143, 11), (143, 12), (143, 13), (143, 14), (143, 17), (143, 18), (143, 19), (144, 1), (144, 2), (144, 3), (144, 4), (144, 5), (144, 6), (144, 7), (144, 8), (144, 9), (144, 10), (144, 11), (144, 12), (144, 13), (144, 14), (144, 15), (144, 16), (144, 17), (153, 0), (153, 1)] S G S242 (up G243 143 this 10 n205) := (gr_up g264 rfl)
  refine r_newA hX hP rfl (L := 153) (N := 3) nw_X8_49_153 (by omega) (by omega) (fun n271 S272 G273 n271z n271n n271l g274 n271v => ?_)
  have z275 : S n271 = 0 := gr_zero g270 n271z
  have s276 : S272 this = 143 := gr_lab g274 s245 (by decide)
  have s277 : S272 n6 = 114 := gr_lab g274 s246 (by decide)
  have s278 : S272 n21 = 114 := gr_lab g274 s247 (by decide)
  have s279 : S272 n38 = 95 := gr_lab g274 s248 (by decide)
  have s280 : S272 n57 = 95 := gr_lab g274 s249 (by decide)
  have s281 : S272 n78 = 115 := gr_lab g274 s250 (by decide)
  have s282 : S272 n101 = 117 := gr_lab g274 s251 (by decide)
  have s283 : S272 n126 = 130 := gr_lab g274 s252 (by decide)
  have s284 : S272 n205 = 154 := gr_lab g274 r241.1 (by decide)
  have e285 : 40000 = G273 143 this 0 := gr_val g274 e253 s245 (by decide) rfl
  have e286 : 1 = G273 143 this 1 := gr_val g274 e254 s245 (by decide) rfl
  have e287 : n6 = G273 143 this 3 := gr_val g274 e255 s245 (by decide) rfl
  have e288 : n21 = G273 143 this 4 := gr_val g274 e256 s245 (by decide) rfl
  have e289 : n38 = G273 143 this 5 := gr_val g274 e257 s245 (by decide) rfl
  have e290 : n57 = G273 143 this 6 := gr_val g274 e258 s245 (by decide) rfl
  have e291 : n78 = G273 143 this 7 := gr_val g274 e259 s245 (by decide) rfl
  have e292 : n101 = G273 143 this 8 := gr_val g274 e260 s245 (by decide) rfl
  have e293 : 0 = G273 130 n126 0 := gr_val g274 e261 s252 (by decide) rfl
  have e294 : n126 = G273 143 this 9 := gr_val g274 e262 s245 (by decide) rfl
  have e295 : (Ad E 0) = G273 154 n205 1 := gr_val g274 e263 r241.1 (by decide) rfl
  have e296 : n205 = G273 143 this 10 := gr_val g274 h268 s245 (by decide) rfl
  have g297 : Gr [93, 94, 95, 96, 97, 98, 114, 115, 116, 117, 118, 130, 144, 153, 154, 155, 156, 157] [(143, 0), (143, 1), (143, 3), (143, 4), (143, 5), (143, 6), (143, 7), (143, 8), (143, 9), (143, 10), (143, 11), (143, 12), (143, 13), (143, 14), (143, 17), (143, 18), (143, 19), (144, 1), (144, 2), (144, 3), (144, 4), (144, 5), (144, 6), (144, 7), (144, 8), (144, 9), (144, 10), (144, 11), (144, 12), (144, 13), (144, 14), (144, 15), (144, 16), (144, 17), (153, 0), (153, 1)] S G S272 G273 := gr_call g270 g274 rfl rfl
  have u298 : UqL [154, 130] S272 := uq_gr u265 g274 rfl
  have u299 : No [155, 156, 157] S272 := no_gr (no_sub u267 rfl) g274 rfl
  have u300 : EmL E [154] S272 G273 := em_gr u269 g274 rfl
  refine r_ex hX hP 1 (pc' := 102) (st' := [(2, n271), (2, n271), (2, this)]) (lo' := [(0, (2, this))]) rfl ?_
  refine r_callI gd hX hP rfl ci_X8_51 n271n (d' := 5) (mc' := 0) (ms' := 0) (as' := []) (st := [(2, n271), (2, this)]) (by omega) (by omega) (by omega) rfl rfl (Nat.le_of_ble_eq_true rfl) (c_Jx4a65c_init_da8c8 E S272 G273 n271  n271l) ?_
  rintro _ _ _ ⟨rfl, ⟨G301, rfl⟩, rfl, elh302, elh302e, f303⟩
  have e305 : Ad E 0 = (hw [(153, 0), (153, 1)] G273 G301) 153 n271 1 := by rw [← f303]; exact elh302e
  have u306 : EmL E [154] S272 (hw [(153, 0), (153, 1)] G273 G301) := (em_hw u300 rfl)
  have g307 : Gr [93, 94, 95, 96, 97, 98, 114, 115, 116, 117, 118, 130, 144, 153, 154, 155, 156, 157] [(143, 0), (143, 1), (143, 3), (143, 4), (143, 5), (143, 6), (143, 7), (143, 8), (143, 9), (143, 10), (143, 11), (143, 12), (143, 13), (143, 14), (143, 17), (143, 18), (143, 19), (144, 1), (144, 2), (144, 3), (144, 4), (144, 5), (144, 6), (144, 7), (144, 8), (144, 9), (144, 10), (144, 11), (144, 12), (144, 13), (144, 14), (144, 15), (144, 16), (144, 17), (153, 0), (153, 1)] S G S272 (hw [(153, 0), (153, 1)] G273 G301) := (gr_hw g297 rfl)
  refine r_finA hX (L := 153) (ci := 0) (fs := fs_153) rfl n271l (by decide) (fun hr308 => ?_)
  have hf309 : Fnl E fs_155 153 S272 (hw [(153, 0), (153, 1)] G273 G301) n271 := by
    intro j hj
    rcases (by have : j < 3 := hj; omega : j = 0 ∨ j = 1 ∨ j = 2) with rfl | rfl | rfl
    · exact hr308 0 (by decide)
    · exact Or.inl e305.symm
    · have e : (0 : Int) ≤ (hw [(153, 0), (153, 1)] G273 G301) 153 n271 2 ∧ (hw [(153, 0), (153, 1)] G273 G301) 153 n271 2 ≤ 0 := hr308 2 (by decide); show (0 : Int) ≤ (hw [(153, 0), (153, 1)] G273 G301) 153 n271 2 ∧ (hw [(153, 0), (153, 1)] G273 G301) 153 n271 2 ≤ 40; omega
  refine r_relabF hX (L := 153) (L' := 155) (ci := 0) (fs := fs_153) (fs' := fs_155) rfl rfl rfl (by decide) (by decide) nf_153 (by decide) n271l hf309 (fun S311 G312 r310 => ?_)
  have s314 : S311 this = 143 := r310.lab n271l s276 (by decide)
  have s315 : S311 n6 = 114 := r310.lab n271l s277 (by decide)
  have s316 : S311 n21 = 114 := r310.lab n271l s278 (by decide)
  have s317 : S311 n38 = 95 := r310.lab n271l s279 (by decide)
  have s318 : S311 n57 = 95 := r310.lab n271l s280 (by decide)
  have s319 : S311 n78 = 115 := r310.lab n271l s281 (by decide)
  have s320 : S311 n101 = 117 := r310.lab n271l s282 (by decide)
  have s321 : S311 n126 = 130 := r310.lab n271l s283 (by decide)
  have s322 : S311 n205 = 154 := r310.lab n271l s284 (by decide)
  have e323 : 40000 = G312 143 this 0 := rs_val r310 n271l e285 s276 (by decide)
  have e324 : 1 = G312 143 this 1 := rs_val r310 n271l e286 s276 (by decide)
  have e325 : n6 = G312 143 this 3 := rs_val r310 n271l e287 s276 (by decide)
  have e326 : n21 = G312 143 this 4 := rs_val r310 n271l e288 s276 (by decide)
  have e327 : n38 = G312 143 this 5 := rs_val r310 n271l e289 s276 (by decide)
  have e328 : n57 = G312 143 this 6 := rs_val r310 n271l e290 s276 (by decide)
  have e329 : n78 = G312 143 this 7 := rs_val r310 n271l e291 s276 (by decide)
  have e330 : n101 = G312 143 this 8 := rs_val r310 n271l e292 s276 (by decide)
  have e331 : 0 = G312 130 n126 0 := rs_val r310 n271l e293 s283 (by decide)
  have e332 : n126 = G312 143 this 9 := rs_val r310 n271l e294 s276 (by decide)
  have e333 : (Ad E 0) = G312 154 n205 1 := rs_val r310 n271l e295 s284 (by decide)
  have e334 : n205 = G312 143 this 10 := rs_val r310 n271l e296 s276 (by decide)
  have e335 : (Ad E 0) = G312 155 n271 1 := e305.trans (r310.2.2.1 1).symm
  have g336 : Gr [93, 94, 95, 96, 97, 98, 114, 115, 116, 117, 118, 130, 144, 153, 154, 155, 156, 157] [(143, 0), (143, 1), (143, 3), (143, 4), (143, 5), (143, 6), (143, 7), (143, 8), (143, 9), (143, 10), (143, 11), (143, 12), (143, 13), (143, 14), (143, 17), (143, 18), (143, 19), (144, 1), (144, 2), (144, 3), (144, 4), (144, 5), (144, 6), (144, 7), (144, 8), (144, 9), (144, 10), (144, 11), (144, 12), (144, 13), (144, 14), (144, 15), (144, 16), (144, 17), (153, 0), (153, 1)] S G S311 G312 := gr_rs g307 r310 z275 rfl
  have u337 : UqL [155, 154, 130] S311 := uq_rs u298 (no_sub u299 rfl) r310 rfl
  have u338 : EmL E [155, 154] S311 G312 := em_rs u306 (no_sub u299 rfl) r310 e305 (by have e : (0 : Int) ≤ (hw [(153, 0), (153, 1)] G273 G301) 153 n271 2 ∧ (hw [(153, 0), (153, 1)] G273 G301) 153 n271 2 ≤ 0 := hr308 2 (by decide); omega) rfl
  have u339 : No [156, 157] S311 := no_rs u299 r310 rfl
  refine r_putFN hX hP rfl rfl fq_X8_56_143 s314 (by decide) (Or.inr r310.1) (fun h340 => ?_)
  refine r_ex hX hP 1 (pc' := 109) (st' := [(2, this)]) (lo' := [(0, (2, this))]) rfl ?_
  have u341 : EmL E [155, 154] S311 (up G312 143 this 11 n271) := (em_up u338 rfl)
  have g342 : Gr [93, 94, 95, 96, 97, 98, 114, 115, 116, 117, 118, 130, 144, 153, 154, 155, 156, 157] [(143, 0), (143, 1), (143, 3), (143, 4), (143, 5), (143, 6), (143, 7), (143, 8), (143, 9), (143, 10), (143, 11), (143, 12), (143, 13), (143, 14), (143, 17), (143, 18), (143, 19), (144, 1), (144, 2), (144, 3), (144, 4), (144, 5), (144, 6), (144, 7), (144, 8), (144, 9), (144, 10), (144, 11), (144, 12), (144, 13), (144, 14), (144, 15), (144, 16), (144, 17), (153, 0), (153, 1)] S G S311 (up G312 143 this 11 n271) := (gr_up g336 rfl)
  refine r_newA hX hP rfl (L := 153) (N := 3) nw_X8_49_153 (by omega) (by omega) (fun n343 S344 G345 n343z n343n n343l g346 n343v => ?_)
  have z347 : S n343 = 0 := gr_zero g342 n343z
  have s348 : S344 this = 143 := gr_lab g346 s314 (by decide)
  have s349 : S344 n6 = 114 := gr_lab g346 s315 (by decide)
  have s350 : S344 n21 = 114 := gr_lab g346 s316 (by decide)
  have s351 : S344 n38 = 95 := gr_lab g346 s317 (by decide)
  have s352 : S344 n57 = 95 := gr_lab g346 s318 (by decide)
  have s353 : S344 n78 = 115 := gr_lab g346 s319 (by decide)
  have s354 : S344 n101 = 117 := gr_lab g346 s320 (by decide)
  have s355 : S344 n126 = 130 := gr_lab g346 s321 (by decide)
  have s356 : S344 n205 = 154 := gr_lab g346 s322 (by decide)
  have s357 : S344 n271 = 155 := gr_lab g346 r310.1 (by decide)
  have e358 : 40000 = G345 143 this 0 := gr_val g346 e323 s314 (by decide) rfl
  have e359 : 1 = G345 143 this 1 := gr_val g346 e324 s314 (by decide) rfl
  have e360 : n6 = G345 143 this 3 := gr_val g346 e325 s314 (by decide) rfl
  have e361 : n21 = G345 143 this 4 := gr_val g346 e326 s314 (by decide) rfl
  have e362 : n38 = G345 143 this 5 := gr_val g346 e327 s314 (by decide) rfl
  have e363 : n57 = G345 143 this 6 := gr_val g346 e328 s314 (by decide) rfl
  have e364 : n78 = G345 143 this 7 := gr_val g346 e329 s314 (by decide) rfl
  have e365 : n101 = G345 143 this 8 := gr_val g346 e330 s314 (by decide) rfl
  have e366 : 0 = G345 130 n126 0 := gr_val g346 e331 s321 (by decide) rfl
  have e367 : n126 = G345 143 this 9 := gr_val g346 e332 s314 (by decide) rfl
  have e368 : (Ad E 0) = G345 154 n205 1 := gr_val g346 e333 s322 (by decide) rfl
  have e369 : n205 = G345 143 this 10 := gr_val g346 e334 s314 (by decide) rfl
  have e370 : (Ad E 0) = G345 155 n271 1 := gr_val g346 e335 r310.1 (by decide) rfl
  have e371 : n271 = G345 143 this 11 := gr_val g346 h340 s314 (by decide) rfl
  have g372 : Gr [93, 94, 95, 96, 97, 98, 114, 115, 116, 117, 118, 130, 144, 153, 154, 155, 156, 157] [(143, 0), (143, 1), (143, 3), (143, 4), (143, 5), (143, 6), (143, 7), (143, 8), (143, 9), (143, 10), (143, 11), (143, 12), (143, 13), (143, 14), (143, 17), (143, 18), (143, 19), (144, 1), (144, 2), (144, 3), (144, 4), (144, 5), (144, 6), (144, 7), (144, 8), (144, 9), (144, 10), (144, 11), (144, 12), (144, 13), (144, 14), (144, 15), (144, 16), (144, 17), (153, 0), (153, 1)] S G S344 G345 := gr_call g342 g346 rfl rfl
  have u373 : UqL [155, 154, 130] S344 := uq_gr u337 g346 rfl
  have u374 : No [156, 157] S344 := no_gr (no_sub u339 rfl) g346 rfl
  have u375 : EmL E [155, 154] S344 G345 := em_gr u341 g346 rfl
  refine r_ex hX hP 1 (pc' := 113) (st' := [(2, n343), (2, n343), (2, this)]) (lo' := [(0, (2, this))]) rfl ?_
  refine r_callI gd hX hP rfl ci_X8_51 n343n (d' := 5) (mc' := 0) (ms' := 0) (as' := []) (st := [(2, n343), (2, this)]) (by omega) (by omega) (by omega) rfl rfl (Nat.le_of_ble_eq_true rfl) (c_Jx4a65c_init_da8c8 E S344 G345 n343  n343l) ?_
  rintro _ _ _ ⟨rfl, ⟨G376, rfl⟩, rfl, elh377, elh377e, f378⟩
  have e380 : Ad E 0 = (hw [(153, 0), (153, 1)] G345 G376) 153 n343 1 := by rw [← f378]; exact elh377e
  have u381 : EmL E [155, 154] S344 (hw [(153, 0), (153, 1)] G345 G376) := (em_hw u375 rfl)
  have g382 : Gr [93, 94, 95, 96, 97, 98, 114, 115, 116, 117, 118, 130, 144, 153, 154, 155, 156, 157] [(143, 0), (143, 1), (143, 3), (143, 4), (143, 5), (143, 6), (143, 7), (143, 8), (143, 9), (143, 10), (143, 11), (143, 12), (143, 13), (143, 14), (143, 17), (143, 18), (143, 19), (144, 1), (144, 2), (144, 3), (144, 4), (144, 5), (144, 6), (144, 7), (144, 8), (144, 9), (144, 10), (144, 11), (144, 12), (144, 13), (144, 14), (144, 15), (144, 16), (144, 17), (153, 0), (153, 1)] S G S344 (hw [(153, 0), (153, 1)] G345 G376) := (gr_hw g372 rfl)
  refine r_finA hX (L := 153) (ci := 0) (fs := fs_153) rfl n343l (by decide) (fun hr383 => ?_)
  have hf384 : Fnl E fs_156 153 S344 (hw [(153, 0), (153, 1)] G345 G376) n343 := by
    intro j hj
    rcases (by have : j < 3 := hj; omega : j = 0 ∨ j = 1 ∨ j = 2) with rfl | rfl | rfl
    · exact hr383 0 (by decide)
    · exact Or.inl e380.symm
    · have e : (0 : Int) ≤ (hw [(153, 0), (153, 1)] G345 G376) 153 n343 2 ∧ (hw [(153, 0), (153, 1)] G345 G376) 153 n343 2 ≤ 0 := hr383 2 (by decide); show (0 : Int) ≤ (hw [(153, 0), (153, 1)] G345 G376) 153 n343 2 ∧ (hw [(153, 0), (153, 1)] G345 G376) 153 n343 2 ≤ 16; omega
  refine r_relabF hX (L := 153) (L' := 156) (ci := 0) (fs := fs_153) (fs' := fs_156) rfl rfl rfl (by decide) (by decide) nf_153 (by decide) n343l hf384 (fun S386 G387 r385 => ?_)
  have s389 : S386 this = 143 := r385.lab n343l s348 (by decide)
  have s390 : S386 n6 = 114 := r385.lab n343l s349 (by decide)
  have s391 : S386 n21 = 114 := r385.lab n343l s350 (by decide)
  have s392 : S386 n38 = 95 := r385.lab n343l s351 (by decide)
  have s393 : S386 n57 = 95 := r385.lab n343l s352 (by decide)
  have s394 : S386 n78 = 115 := r385.lab n343l s353 (by decide)
  have s395 : S386 n101 = 117 := r385.lab n343l s354 (by decide)
  have s396 : S386 n126 = 130 := r385.lab n343l s355 (by decide)
  have s397 : S386 n205 = 154 := r385.lab n343l s356 (by decide)
  have s398 : S386 n271 = 155 := r385.lab n343l s357 (by decide)
  have e399 : 40000 = G387 143 this 0 := rs_val r385 n343l e358 s348 (by decide)
  have e400 : 1 = G387 143 this 1 := rs_val r385 n343l e359 s348 (by decide)
  have e401 : n6 = G387 143 this 3 := rs_val r385 n343l e360 s348 (by decide)
  have e402 : n21 = G387 143 this 4 := rs_val r385 n343l e361 s348 (by decide)
  have e403 : n38 = G387 143 this 5 := rs_val r385 n343l e362 s348 (by decide)
  have e404 : n57 = G387 143 this 6 := rs_val r385 n343l e363 s348 (by decide)
  have e405 : n78 = G387 143 this 7 := rs_val r385 n343l e364 s348 (by decide)
  have e406 : n101 = G387 143 this 8 := rs_val r385 n343l e365 s348 (by decide)
  have e407 : 0 = G387 130 n126 0 := rs_val r385 n343l e366 s355 (by decide)
  have e408 : n126 = G387 143 this 9 := rs_val r385 n343l e367 s348 (by decide)
  have e409 : (Ad E 0) = G387 154 n205 1 := rs_val r385 n343l e368 s356 (by decide)
  have e410 : n205 = G387 143 this 10 := rs_val r385 n343l e369 s348 (by decide)
  have e411 : (Ad E 0) = G387 155 n271 1 := rs_val r385 n343l e370 s357 (by decide)
  have e412 : n271 = G387 143 this 11 := rs_val r385 n343l e371 s348 (by decide)
  have e413 : (Ad E 0) = G387 156 n343 1 := e380.trans (r385.2.2.1 1).symm
  have g414 : Gr [93, 94, 95, 96, 97, 98, 114, 115, 116, 117, 118, 130, 144, 153, 154, 155, 156, 157] [(143, 0), (143, 1), (143, 3), (143, 4), (143, 5), (143, 6), (143, 7), (143, 8), (143, 9), (143, 10), (143, 11), (143, 12), (143, 13), (143, 14), (143, 17), (143, 18), (143, 19), (144, 1), (144, 2), (144, 3), (144, 4), (144, 5), (144, 6), (144, 7), (144, 8), (144, 9), (144, 10), (144, 11), (144, 12), (144, 13), (144, 14), (144, 15), (144, 16), (144, 17), (153, 0), (153, 1)] S G S386 G387 := gr_rs g382 r385 z347 rfl
  have u415 : UqL [156, 155, 154, 130] S386 := uq_rs u373 (no_sub u374 rfl) r385 rfl
  have u416 : EmL E [156, 155, 154] S386 G387 := em_rs u381 (no_sub u374 rfl) r385 e380 (by have e : (0 : Int) ≤ (hw [(153, 0), (153, 1)] G345 G376) 153 n343 2 ∧ (hw [(153, 0), (153, 1)] G345 G376) 153 n343 2 ≤ 0 := hr383 2 (by decide); omega) rfl
  have u417 : No [157] S386 := no_rs u374 r385 rfl
  refine r_putFN hX hP rfl rfl fq_X8_59_143 s389 (by decide) (Or.inr r385.1) (fun h418 => ?_)
  refine r_ex hX hP 1 (pc' := 120) (st' := [(2, this)]) (lo' := [(0, (2, this))]) rfl ?_
  have u419 : EmL E [156, 155, 154] S386 (up G387 143 this 12 n343) := (em_up u416 rfl)
  have g420 : Gr [93, 94, 95, 96, 97, 98, 114, 115, 116, 117, 118, 130, 144, 153, 154, 155, 156, 157] [(143, 0), (143, 1), (143, 3), (143, 4), (143, 5), (143, 6), (143, 7), (143, 8), (143, 9), (143, 10), (143, 11), (143, 12), (143, 13), (143, 14), (143, 17), (143, 18), (143, 19), (144, 1), (144, 2), (144, 3), (144, 4), (144, 5), (144, 6), (144, 7), (144, 8), (144, 9), (144, 10), (144, 11), (144, 12), (144, 13), (144, 14), (144, 15), (144, 16), (144, 17), (153, 0), (153, 1)] S G S386 (up G387 143 this 12 n343) := (gr_up g414 rfl)
  refine r_newA hX hP rfl (L := 153) (N := 3) nw_X8_49_153 (by omega) (by omega) (fun n421 S422 G423 n421z n421n n421l g424 n421v => ?_)
  have z425 : S n421 = 0 := gr_zero g420 n421z
  have s426 : S422 this = 143 := gr_lab g424 s389 (by decide)
  have s427 : S422 n6 = 114 := gr_lab g424 s390 (by decide)
  have s428 : S422 n21 = 114 := gr_lab g424 s391 (by decide)
  have s429 : S422 n38 = 95 := gr_lab g424 s392 (by decide)
  have s430 : S422 n57 = 95 := gr_lab g424 s393 (by decide)
  have s431 : S422 n78 = 115 := gr_lab g424 s394 (by decide)
  have s432 : S422 n101 = 117 := gr_lab g424 s395 (by decide)
  have s433 : S422 n126 = 130 := gr_lab g424 s396 (by decide)
  have s434 : S422 n205 = 154 := gr_lab g424 s397 (by decide)
  have s435 : S422 n271 = 155 := gr_lab g424 s398 (by decide)
  have s436 : S422 n343 = 156 := gr_lab g424 r385.1 (by decide)
  have e437 : 40000 = G423 143 this 0 := gr_val g424 e399 s389 (by decide) rfl
  have e438 : 1 = G423 143 this 1 := gr_val g424 e400 s389 (by decide) rfl
  have e439 : n6 = G423 143 this 3 := gr_val g424 e401 s389 (by decide) rfl
  have e440 : n21 = G423 143 this 4 := gr_val g424 e402 s389 (by decide) rfl
  have e441 : n38 = G423 143 this 5 := gr_val g424 e403 s389 (by decide) rfl
  have e442 : n57 = G423 143 this 6 := gr_val g424 e404 s389 (by decide) rfl
  have e443 : n78 = G423 143 this 7 := gr_val g424 e405 s389 (by decide) rfl
  have e444 : n101 = G423 143 this 8 := gr_val g424 e406 s389 (by decide) rfl
  have e445 : 0 = G423 130 n126 0 := gr_val g424 e407 s396 (by decide) rfl
  have e446 : n126 = G423 143 this 9 := gr_val g424 e408 s389 (by decide) rfl
  have e447 : (Ad E 0) = G423 154 n205 1 := gr_val g424 e409 s397 (by decide) rfl
  have e448 : n205 = G423 143 this 10 := gr_val g424 e410 s389 (by decide) rfl
  have e449 : (Ad E 0) = G423 155 n271 1 := gr_val g424 e411 s398 (by decide) rfl
  have e450 : n271 = G423 143 this 11 := gr_val g424 e412 s389 (by decide) rfl
  have e451 : (Ad E 0) = G423 156 n343 1 := gr_val g424 e413 r385.1 (by decide) rfl
  have e452 : n343 = G423 143 this 12 := gr_val g424 h418 s389 (by decide) rfl
  have g453 : Gr [93, 94, 95, 96, 97, 98, 114, 115, 116, 117, 118, 130, 144, 153, 154, 155, 156, 157] [(143, 0), (143, 1), (143, 3), (143, 4), (143, 5), (143, 6), (143, 7), (143, 8), (143, 9), (143, 10), (143, 11), (143, 12), (143, 13), (143, 14), (143, 17), (143, 18), (143, 19), (144, 1), (144, 2), (144, 3), (144, 4), (144, 5), (144, 6), (144, 7), (144, 8), (144, 9), (144, 10), (144, 11), (144, 12), (144, 13), (144, 14), (144, 15), (144, 16), (144, 17), (153, 0), (153, 1)] S G S422 G423 := gr_call g420 g424 rfl rfl
  have u454 : UqL [156, 155, 154, 130] S422 := uq_gr u415 g424 rfl
  have u455 : No [157] S422 := no_gr (no_sub u417 rfl) g424 rfl
  have u456 : EmL E [156, 155, 154] S422 G423 := em_gr u419 g424 rfl
  refine r_ex hX hP 1 (pc' := 124) (st' := [(2, n421), (2, n421), (2, this)]) (lo' := [(0, (2, this))]) rfl ?_
  refine r_callI gd hX hP rfl ci_X8_51 n421n (d' := 5) (mc' := 0) (ms' := 0) (as' := []) (st := [(2, n421), (2, this)]) (by omega) (by omega) (by omega) rfl rfl (Nat.le_of_ble_eq_true rfl) (c_Jx4a65c_init_da8c8 E S422 G423 n421  n421l) ?_
  rintro _ _ _ ⟨rfl, ⟨G457, rfl⟩, rfl, elh458, elh458e, f459⟩
  have e461 : Ad E 0 = (hw [(153, 0), (153, 1)] G423 G457) 153 n421 1 := by rw [← f459]; exact elh458e
  have u462 : EmL E [156, 155, 154] S422 (hw [(153, 0), (153, 1)] G423 G457) := (em_hw u456 rfl)
  have g463 : Gr [93, 94, 95, 96, 97, 98, 114, 115, 116, 117, 118, 130, 144, 153, 154, 155, 156, 157] [(143, 0), (143, 1), (143, 3), (143, 4), (143, 5), (143, 6), (143, 7), (143, 8), (143, 9), (143, 10), (143, 11), (143, 12), (143, 13), (143, 14), (143, 17), (143, 18), (143, 19), (144, 1), (144, 2), (144, 3), (144, 4), (144, 5), (144, 6), (144, 7), (144, 8), (144, 9), (144, 10), (144, 11), (144, 12), (144, 13), (144, 14), (144, 15), (144, 16), (144, 17), (153, 0), (153, 1)] S G S422 (hw [(153, 0), (153, 1)] G423 G457) := (gr_hw g453 rfl)
  refine r_finA hX (L := 153) (ci := 0) (fs := fs_153) rfl n421l (by decide) (fun hr464 => ?_)
  have hf465 : Fnl E fs_157 153 S422 (hw [(153, 0), (153, 1)] G423 G457) n421 := by
    intro j hj
    rcases (by have : j < 3 := hj; omega : j = 0 ∨ j = 1 ∨ j = 2) with rfl | rfl | rfl
    · exact hr464 0 (by decide)
    · exact Or.inl e461.symm
    · have e : (0 : Int) ≤ (hw [(153, 0), (153, 1)] G423 G457) 153 n421 2 ∧ (hw [(153, 0), (153, 1)] G423 G457) 153 n421 2 ≤ 0 := hr464 2 (by decide); show (0 : Int) ≤ (hw [(153, 0), (153, 1)] G423 G457) 153 n421 2 ∧ (hw [(153, 0), (153, 1)] G423 G457) 153 n421 2 ≤ 60; omega
  refine r_relabF hX (L := 153) (L' := 157) (ci := 0) (fs := fs_153) (fs' := fs_157) rfl rfl rfl (by decide) (by decide) nf_153 (by decide) n421l hf465 (fun S467 G468 r466 => ?_)
  have s470 : S467 this = 143 := r466.lab n421l s426 (by decide)
  have s471 : S467 n6 = 114 := r466.lab n421l s427 (by decide)
  have s472 : S467 n21 = 114 := r466.lab n421l s428 (by decide)
  have s473 : S467 n38 = 95 := r466.lab n421l s429 (by decide)
  have s474 : S467 n57 = 95 := r466.lab n421l s430 (by decide)
  have s475 : S467 n78 = 115 := r466.lab n421l s431 (by decide)
  have s476 : S467 n101 = 117 := r466.lab n421l s432 (by decide)
  have s477 : S467 n126 = 130 := r466.lab n421l s433 (by decide)
  have s478 : S467 n205 = 154 := r466.lab n421l s434 (by decide)
  have s479 : S467 n271 = 155 := r466.lab n421l s435 (by decide)
  have s480 : S467 n343 = 156 := r466.lab n421l s436 (by decide)
  have e481 : 40000 = G468 143 this 0 := rs_val r466 n421l e437 s426 (by decide)
  have e482 : 1 = G468 143 this 1 := rs_val r466 n421l e438 s426 (by decide)
  have e483 : n6 = G468 143 this 3 := rs_val r466 n421l e439 s426 (by decide)
  have e484 : n21 = G468 143 this 4 := rs_val r466 n421l e440 s426 (by decide)
  have e485 : n38 = G468 143 this 5 := rs_val r466 n421l e441 s426 (by decide)
  have e486 : n57 = G468 143 this 6 := rs_val r466 n421l e442 s426 (by decide)
  have e487 : n78 = G468 143 this 7 := rs_val r466 n421l e443 s426 (by decide)
  have e488 : n101 = G468 143 this 8 := rs_val r466 n421l e444 s426 (by decide)
  have e489 : 0 = G468 130 n126 0 := rs_val r466 n421l e445 s433 (by decide)
  have e490 : n126 = G468 143 this 9 := rs_val r466 n421l e446 s426 (by decide)
  have e491 : (Ad E 0) = G468 154 n205 1 := rs_val r466 n421l e447 s434 (by decide)
  have e492 : n205 = G468 143 this 10 := rs_val r466 n421l e448 s426 (by decide)
  have e493 : (Ad E 0) = G468 155 n271 1 := rs_val r466 n421l e449 s435 (by decide)
  have e494 : n271 = G468 143 this 11 := rs_val r466 n421l e450 s426 (by decide)
  have e495 : (Ad E 0) = G468 156 n343 1 := rs_val r466 n421l e451 s436 (by decide)
  have e496 : n343 = G468 143 this 12 := rs_val r466 n421l e452 s426 (by decide)
  have e497 : (Ad E 0) = G468 157 n421 1 := e461.trans (r466.2.2.1 1).symm
  have g498 : Gr [93, 94, 95, 96, 97, 98, 114, 115, 116, 117, 118, 130, 144, 153, 154, 155, 156, 157] [(143, 0), (143, 1), (143, 3), (143, 4), (143, 5), (143, 6), (143, 7), (143, 8), (143, 9), (143, 10), (143, 11), (143, 12), (143, 13), (143, 14), (143, 17), (143, 18), (143, 19), (144, 1), (144, 2), (144, 3), (144, 4), (144, 5), (144, 6), (144, 7), (144, 8), (144, 9), (144, 10), (144, 11), (144, 12), (144, 13), (144, 14), (144, 15), (144, 16), (144, 17), (153, 0), (153, 1)] S G S467 G468 := gr_rs g463 r466 z425 rfl
  have u499 : UqL [157, 156, 155, 154, 130] S467 := uq_rs u454 (no_sub u455 rfl) r466 rfl
  have u500 : EmL E [157, 156, 155, 154] S467 G468 := em_rs u462 (no_sub u455 rfl) r466 e461 (by have e : (0 : Int) ≤ (hw [(153, 0), (153, 1)] G423 G457) 153 n421 2 ∧ (hw [(153, 0), (153, 1)] G423 G457) 153 n421 2 ≤ 0 := hr464 2 (by decide); omega) rfl
  have u501 : No [] S467 := no_rs u455 r466 rfl
  refine r_putFN hX hP rfl rfl fq_X8_62_143 s470 (by decide) (Or.inr r466.1) (fun h502 => ?_)
  refine r_ex hX hP 2 (pc' := 133) (st' := [(0, 96), (2, this)]) (lo' := [(0, (2, this))]) rfl ?_
  have u503 : EmL E [157, 156, 155, 154] S467 (up G468 143 this 13 n421) := (em_up u500 rfl)
  have g504 : Gr [93, 94, 95, 96, 97, 98, 114, 115, 116, 117, 118, 130, 144, 153, 154, 155, 156, 157] [(143, 0), (143, 1), (143, 3), (143, 4), (143, 5), (143, 6), (143, 7), (143, 8), (143, 9), (143, 10), (143, 11), (143, 12), (143, 13), (143, 14), (143, 17), (143, 18), (143, 19), (144, 1), (144, 2), (144, 3), (144, 4), (144, 5), (144, 6), (144, 7), (144, 8), (144, 9), (144, 10), (144, 11), (144, 12), (144, 13), (144, 14), (144, 15), (144, 16), (144, 17), (153, 0), (153, 1)] S G S467 (up G468 143 this 13 n421) := (gr_up g498 rfl)
  refine r_newarrA hX hP rfl (L := 118) (n := 96) al_118 (by decide) rfl rfl rfl (tbg sg1 124 rfl rfl) (by decide) (by omega) (by omega) (fun n505 S506 G507 n505z n505n n505l g508 n505v => ?_)
  have z509 : S n505 = 0 := gr_zero g504 n505z
  have s510 : S506 this = 143 := gr_lab g508 s470 (by decide)
  have s511 : S506 n6 = 114 := gr_lab g508 s471 (by decide)
  have s512 : S506 n21 = 114 := gr_lab g508 s472 (by decide)
  have s513 : S506 n38 = 95 := gr_lab g508 s473 (by decide)
  have s514 : S506 n57 = 95 := gr_lab g508 s474 (by decide)
  have s515 : S506 n78 = 115 := gr_lab g508 s475 (by decide)
  have s516 : S506 n101 = 117 := gr_lab g508 s476 (by decide)
  have s517 : S506 n126 = 130 := gr_lab g508 s477 (by decide)
  have s518 : S506 n205 = 154 := gr_lab g508 s478 (by decide)
  have s519 : S506 n271 = 155 := gr_lab g508 s479 (by decide)
  have s520 : S506 n343 = 156 := gr_lab g508 s480 (by decide)
  have s521 : S506 n421 = 157 := gr_lab g508 r466.1 (by decide)
  have e522 : 40000 = G507 143 this 0 := gr_val g508 e481 s470 (by decide) rfl
  have e523 : 1 = G507 143 this 1 := gr_val g508 e482 s470 (by decide) rfl
  have e524 : n6 = G507 143 this 3 := gr_val g508 e483 s470 (by decide) rfl
  have e525 : n21 = G507 143 this 4 := gr_val g508 e484 s470 (by decide) rfl
  have e526 : n38 = G507 143 this 5 := gr_val g508 e485 s470 (by decide) rfl
  have e527 : n57 = G507 143 this 6 := gr_val g508 e486 s470 (by decide) rfl
  have e528 : n78 = G507 143 this 7 := gr_val g508 e487 s470 (by decide) rfl
  have e529 : n101 = G507 143 this 8 := gr_val g508 e488 s470 (by decide) rfl
  have e530 : 0 = G507 130 n126 0 := gr_val g508 e489 s477 (by decide) rfl
  have e531 : n126 = G507 143 this 9 := gr_val g508 e490 s470 (by decide) rfl
  have e532 : (Ad E 0) = G507 154 n205 1 := gr_val g508 e491 s478 (by decide) rfl
  have e533 : n205 = G507 143 this 10 := gr_val g508 e492 s470 (by decide) rfl
  have e534 : (Ad E 0) = G507 155 n271 1 := gr_val g508 e493 s479 (by decide) rfl
  have e535 : n271 = G507 143 this 11 := gr_val g508 e494 s470 (by decide) rfl
  have e536 : (Ad E 0) = G507 156 n343 1 := gr_val g508 e495 s480 (by decide) rfl
  have e537 : n343 = G507 143 this 12 := gr_val g508 e496 s470 (by decide) rfl
  have e538 : (Ad E 0) = G507 157 n421 1 := gr_val g508 e497 r466.1 (by decide) rfl
  have e539 : n421 = G507 143 this 13 := gr_val g508 h502 s470 (by decide) rfl
  have g540 : Gr [93, 94, 95, 96, 97, 98, 114, 115, 116, 117, 118, 130, 144, 153, 154, 155, 156, 157] [(143, 0), (143, 1), (143, 3), (143, 4), (143, 5), (143, 6), (143, 7), (143, 8), (143, 9), (143, 10), (143, 11), (143, 12), (143, 13), (143, 14), (143, 17), (143, 18), (143, 19), (144, 1), (144, 2), (144, 3), (144, 4), (144, 5), (144, 6), (144, 7), (144, 8), (144, 9), (144, 10), (144, 11), (144, 12), (144, 13), (144, 14), (144, 15), (144, 16), (144, 17), (153, 0), (153, 1)] S G S506 G507 := gr_call g504 g508 rfl rfl
  have u541 : UqL [157, 156, 155, 154, 130] S506 := uq_gr u499 g508 rfl
  have u542 : No [] S506 := no_gr (no_sub u501 rfl) g508 rfl
  have u543 : EmL E [157, 156, 155, 154] S506 G507 := em_gr u503 g508 rfl
  refine r_putFN hX hP rfl rfl fq_X8_65_143 s510 (by decide) (Or.inr n505l) (fun h544 => ?_)
  refine r_ex hX hP 2 (pc' := 141) (st' := [(0, 20), (2, this)]) (lo' := [(0, (2, this))]) rfl ?_
  have u545 : EmL E [157, 156, 155, 154] S506 (up G507 143 this 14 n505) := (em_up u543 rfl)
  have g546 : Gr [93, 94, 95, 96, 97, 98, 114, 115, 116, 117, 118, 130, 144, 153, 154, 155, 156, 157] [(143, 0), (143, 1), (143, 3), (143, 4), (143, 5), (143, 6), (143, 7), (143, 8), (143, 9), (143, 10), (143, 11), (143, 12), (143, 13), (143, 14), (143, 17), (143, 18), (143, 19), (144, 1), (144, 2), (144, 3), (144, 4), (144, 5), (144, 6), (144, 7), (144, 8), (144, 9), (144, 10), (144, 11), (144, 12), (144, 13), (144, 14), (144, 15), (144, 16), (144, 17), (153, 0), (153, 1)] S G S506 (up G507 143 this 14 n505) := (gr_up g540 rfl)
  refine r_newarrA hX hP rfl (L := 95) (n := 20) al_95 (by decide) rfl rfl rfl (tbg sg1 123 rfl rfl) (by decide) (by omega) (by omega) (fun n547 S548 G549 n547z n547n n547l g550 n547v => ?_)
  have z551 : S n547 = 0 := gr_zero g546 n547z
  have s552 : S548 this = 143 := gr_lab g550 s510 (by decide)
  have s553 : S548 n6 = 114 := gr_lab g550 s511 (by decide)
  have s554 : S548 n21 = 114 := gr_lab g550 s512 (by decide)
  have s555 : S548 n38 = 95 := gr_lab g550 s513 (by decide)
  have s556 : S548 n57 = 95 := gr_lab g550 s514 (by decide)
  have s557 : S548 n78 = 115 := gr_lab g550 s515 (by decide)
  have s558 : S548 n101 = 117 := gr_lab g550 s516 (by decide)
  have s559 : S548 n126 = 130 := gr_lab g550 s517 (by decide)
  have s560 : S548 n205 = 154 := gr_lab g550 s518 (by decide)
  have s561 : S548 n271 = 155 := gr_lab g550 s519 (by decide)
  have s562 : S548 n343 = 156 := gr_lab g550 s520 (by decide)
  have s563 : S548 n421 = 157 := gr_lab g550 s521 (by decide)
  have s564 : S548 n505 = 118 := gr_lab g550 n505l (by decide)
  have e565 : 40000 = G549 143 this 0 := gr_val g550 e522 s510 (by decide) rfl
  have e566 : 1 = G549 143 this 1 := gr_val g550 e523 s510 (by decide) rfl
  have e567 : n6 = G549 143 this 3 := gr_val g550 e524 s510 (by decide) rfl
  have e568 : n21 = G549 143 this 4 := gr_val g550 e525 s510 (by decide) rfl
  have e569 : n38 = G549 143 this 5 := gr_val g550 e526 s510 (by decide) rfl
  have e570 : n57 = G549 143 this 6 := gr_val g550 e527 s510 (by decide) rfl
  have e571 : n78 = G549 143 this 7 := gr_val g550 e528 s510 (by decide) rfl
  have e572 : n101 = G549 143 this 8 := gr_val g550 e529 s510 (by decide) rfl
  have e573 : 0 = G549 130 n126 0 := gr_val g550 e530 s517 (by decide) rfl
  have e574 : n126 = G549 143 this 9 := gr_val g550 e531 s510 (by decide) rfl
  have e575 : (Ad E 0) = G549 154 n205 1 := gr_val g550 e532 s518 (by decide) rfl
  have e576 : n205 = G549 143 this 10 := gr_val g550 e533 s510 (by decide) rfl
  have e577 : (Ad E 0) = G549 155 n271 1 := gr_val g550 e534 s519 (by decide) rfl
  have e578 : n271 = G549 143 this 11 := gr_val g550 e535 s510 (by decide) rfl
  have e579 : (Ad E 0) = G549 156 n343 1 := gr_val g550 e536 s520 (by decide) rfl
  have e580 : n343 = G549 143 this 12 := gr_val g550 e537 s510 (by decide) rfl
  have e581 : (Ad E 0) = G549 157 n421 1 := gr_val g550 e538 s521 (by decide) rfl
  have e582 : n421 = G549 143 this 13 := gr_val g550 e539 s510 (by decide) rfl
  have e583 : n505 = G549 143 this 14 := gr_val g550 h544 s510 (by decide) rfl
  have g584 : Gr [93, 94, 95, 96, 97, 98, 114, 115, 116, 117, 118, 130, 144, 153, 154, 155, 156, 157] [(143, 0), (143, 1), (143, 3), (143, 4), (143, 5), (143, 6), (143, 7), (143, 8), (143, 9), (143, 10), (143, 11), (143, 12), (143, 13), (143, 14), (143, 17), (143, 18), (143, 19), (144, 1), (144, 2), (144, 3), (144, 4), (144, 5), (144, 6), (144, 7), (144, 8), (144, 9), (144, 10), (144, 11), (144, 12), (144, 13), (144, 14), (144, 15), (144, 16), (144, 17), (153, 0), (153, 1)] S G S548 G549 := gr_call g546 g550 rfl rfl
  have u585 : UqL [157, 156, 155, 154, 130] S548 := uq_gr u541 g550 rfl
  have u586 : No [] S548 := no_gr (no_sub u542 rfl) g550 rfl
  have u587 : EmL E [157, 156, 155, 154] S548 G549 := em_gr u545 g550 rfl
  refine r_putFN hX hP rfl rfl fq_X8_68_143 s552 (by decide) (Or.inr n547l) (fun h588 => ?_)
  refine r_ex hX hP 2 (pc' := 149) (st' := [(0, 20), (2, this)]) (lo' := [(0, (2, this))]) rfl ?_
  have u589 : EmL E [157, 156, 155, 154] S548 (up G549 143 this 17 n547) := (em_up u587 rfl)
  have g590 : Gr [93, 94, 95, 96, 97, 98, 114, 115, 116, 117, 118, 130, 144, 153, 154, 155, 156, 157] [(143, 0), (143, 1), (143, 3), (143, 4), (143, 5), (143, 6), (143, 7), (143, 8), (143, 9), (143, 10), (143, 11), (143, 12), (143, 13), (143, 14), (143, 17), (143, 18), (143, 19), (144, 1), (144, 2), (144, 3), (144, 4), (144, 5), (144, 6), (144, 7), (144, 8), (144, 9), (144, 10), (144, 11), (144, 12), (144, 13), (144, 14), (144, 15), (144, 16), (144, 17), (153, 0), (153, 1)] S G S548 (up G549 143 this 17 n547) := (gr_up g584 rfl)
  refine r_newarrA hX hP rfl (L := 95) (n := 20) al_95 (by decide) rfl rfl rfl (tbg sg1 123 rfl rfl) (by decide) (by omega) (by omega) (fun n591 S592 G593 n591z n591n n591l g594 n591v => ?_)
  have z595 : S n591 = 0 := gr_zero g590 n591z
  have s596 : S592 this = 143 := gr_lab g594 s552 (by decide)
  have s597 : S592 n6 = 114 := gr_lab g594 s553 (by decide)
  have s598 : S592 n21 = 114 := gr_lab g594 s554 (by decide)
  have s599 : S592 n38 = 95 := gr_lab g594 s555 (by decide)
  have s600 : S592 n57 = 95 := gr_lab g594 s556 (by decide)
  have s601 : S592 n78 = 115 := gr_lab g594 s557 (by decide)
  have s602 : S592 n101 = 117 := gr_lab g594 s558 (by decide)
  have s603 : S592 n126 = 130 := gr_lab g594 s559 (by decide)
  have s604 : S592 n205 = 154 := gr_lab g594 s560 (by decide)
  have s605 : S592 n271 = 155 := gr_lab g594 s561 (by decide)
  have s606 : S592 n343 = 156 := gr_lab g594 s562 (by decide)
  have s607 : S592 n421 = 157 := gr_lab g594 s563 (by decide)
  have s608 : S592 n505 = 118 := gr_lab g594 s564 (by decide)
  have s609 : S592 n547 = 95 := gr_lab g594 n547l (by decide)
  have e610 : 40000 = G593 143 this 0 := gr_val g594 e565 s552 (by decide) rfl
  have e611 : 1 = G593 143 this 1 := gr_val g594 e566 s552 (by decide) rfl
  have e612 : n6 = G593 143 this 3 := gr_val g594 e567 s552 (by decide) rfl
  have e613 : n21 = G593 143 this 4 := gr_val g594 e568 s552 (by decide) rfl
  have e614 : n38 = G593 143 this 5 := gr_val g594 e569 s552 (by decide) rfl
  have e615 : n57 = G593 143 this 6 := gr_val g594 e570 s552 (by decide) rfl
  have e616 : n78 = G593 143 this 7 := gr_val g594 e571 s552 (by decide) rfl
  have e617 : n101 = G593 143 this 8 := gr_val g594 e572 s552 (by decide) rfl
  have e618 : 0 = G593 130 n126 0 := gr_val g594 e573 s559 (by decide) rfl
  have e619 : n126 = G593 143 this 9 := gr_val g594 e574 s552 (by decide) rfl
  have e620 : (Ad E 0) = G593 154 n205 1 := gr_val g594 e575 s560 (by decide) rfl
  have e621 : n205 = G593 143 this 10 := gr_val g594 e576 s552 (by decide) rfl
  have e622 : (Ad E 0) = G593 155 n271 1 := gr_val g594 e577 s561 (by decide) rfl
  have e623 : n271 = G593 143 this 11 := gr_val g594 e578 s552 (by decide) rfl
  have e624 : (Ad E 0) = G593 156 n343 1 := gr_val g594 e579 s562 (by decide) rfl
  have e625 : n343 = G593 143 this 12 := gr_val g594 e580 s552 (by decide) rfl
  have e626 : (Ad E 0) = G593 157 n421 1 := gr_val g594 e581 s563 (by decide) rfl
  have e627 : n421 = G593 143 this 13 := gr_val g594 e582 s552 (by decide) rfl
  have e628 : n505 = G593 143 this 14 := gr_val g594 e583 s552 (by decide) rfl
  have e629 : n547 = G593 143 this 17 := gr_val g594 h588 s552 (by decide) rfl
  have g630 : Gr [93, 94, 95, 96, 97, 98, 114, 115, 116, 117, 118, 130, 144, 153, 154, 155, 156, 157] [(143, 0), (143, 1), (143, 3), (143, 4), (143, 5), (143, 6), (143, 7), (143, 8), (143, 9), (143, 10), (143, 11), (143, 12), (143, 13), (143, 14), (143, 17), (143, 18), (143, 19), (144, 1), (144, 2), (144, 3), (144, 4), (144, 5), (144, 6), (144, 7), (144, 8), (144, 9), (144, 10), (144, 11), (144, 12), (144, 13), (144, 14), (144, 15), (144, 16), (144, 17), (153, 0), (153, 1)] S G S592 G593 := gr_call g590 g594 rfl rfl
  have u631 : UqL [157, 156, 155, 154, 130] S592 := uq_gr u585 g594 rfl
  have u632 : No [] S592 := no_gr (no_sub u586 rfl) g594 rfl
  have u633 : EmL E [157, 156, 155, 154] S592 G593 := em_gr u589 g594 rfl
  refine r_putFN hX hP rfl rfl fq_X8_71_143 s596 (by decide) (Or.inr n591l) (fun h634 => ?_)
  refine r_ex hX hP 2 (pc' := 157) (st' := [(0, 20), (2, this)]) (lo' := [(0, (2, this))]) rfl ?_
  have u635 : EmL E [157, 156, 155, 154] S592 (up G593 143 this 18 n591) := (em_up u633 rfl)
  have g636 : Gr [93, 94, 95, 96, 97, 98, 114, 115, 116, 117, 118, 130, 144, 153, 154, 155, 156, 157] [(143, 0), (143, 1), (143, 3), (143, 4), (143, 5), (143, 6), (143, 7), (143, 8), (143, 9), (143, 10), (143, 11), (143, 12), (143, 13), (143, 14), (143, 17), (143, 18), (143, 19), (144, 1), (144, 2), (144, 3), (144, 4), (144, 5), (144, 6), (144, 7), (144, 8), (144, 9), (144, 10), (144, 11), (144, 12), (144, 13), (144, 14), (144, 15), (144, 16), (144, 17), (153, 0), (153, 1)] S G S592 (up G593 143 this 18 n591) := (gr_up g630 rfl)
  refine r_newarrA hX hP rfl (L := 93) (n := 20) al_93 (by decide) rfl rfl rfl (tbg sg1 124 rfl rfl) (by decide) (by omega) (by omega) (fun n637 S638 G639 n637z n637n n637l g640 n637v => ?_)
  have z641 : S n637 = 0 := gr_zero g636 n637z
  have s642 : S638 this = 143 := gr_lab g640 s596 (by decide)
  have s643 : S638 n6 = 114 := gr_lab g640 s597 (by decide)
  have s644 : S638 n21 = 114 := gr_lab g640 s598 (by decide)
  have s645 : S638 n38 = 95 := gr_lab g640 s599 (by decide)
  have s646 : S638 n57 = 95 := gr_lab g640 s600 (by decide)
  have s647 : S638 n78 = 115 := gr_lab g640 s601 (by decide)
  have s648 : S638 n101 = 117 := gr_lab g640 s602 (by decide)
  have s649 : S638 n126 = 130 := gr_lab g640 s603 (by decide)
  have s650 : S638 n205 = 154 := gr_lab g640 s604 (by decide)
  have s651 : S638 n271 = 155 := gr_lab g640 s605 (by decide)
  have s652 : S638 n343 = 156 := gr_lab g640 s606 (by decide)
  have s653 : S638 n421 = 157 := gr_lab g640 s607 (by decide)
  have s654 : S638 n505 = 118 := gr_lab g640 s608 (by decide)
  have s655 : S638 n547 = 95 := gr_lab g640 s609 (by decide)
  have s656 : S638 n591 = 95 := gr_lab g640 n591l (by decide)
  have e657 : 40000 = G639 143 this 0 := gr_val g640 e610 s596 (by decide) rfl
  have e658 : 1 = G639 143 this 1 := gr_val g640 e611 s596 (by decide) rfl
  have e659 : n6 = G639 143 this 3 := gr_val g640 e612 s596 (by decide) rfl
  have e660 : n21 = G639 143 this 4 := gr_val g640 e613 s596 (by decide) rfl
  have e661 : n38 = G639 143 this 5 := gr_val g640 e614 s596 (by decide) rfl
  have e662 : n57 = G639 143 this 6 := gr_val g640 e615 s596 (by decide) rfl
  have e663 : n78 = G639 143 this 7 := gr_val g640 e616 s596 (by decide) rfl
  have e664 : n101 = G639 143 this 8 := gr_val g640 e617 s596 (by decide) rfl
  have e665 : 0 = G639 130 n126 0 := gr_val g640 e618 s603 (by decide) rfl
  have e666 : n126 = G639 143 this 9 := gr_val g640 e619 s596 (by decide) rfl
  have e667 : (Ad E 0) = G639 154 n205 1 := gr_val g640 e620 s604 (by decide) rfl
  have e668 : n205 = G639 143 this 10 := gr_val g640 e621 s596 (by decide) rfl
  have e669 : (Ad E 0) = G639 155 n271 1 := gr_val g640 e622 s605 (by decide) rfl
  have e670 : n271 = G639 143 this 11 := gr_val g640 e623 s596 (by decide) rfl
  have e671 : (Ad E 0) = G639 156 n343 1 := gr_val g640 e624 s606 (by decide) rfl
  have e672 : n343 = G639 143 this 12 := gr_val g640 e625 s596 (by decide) rfl
  have e673 : (Ad E 0) = G639 157 n421 1 := gr_val g640 e626 s607 (by decide) rfl
  have e674 : n421 = G639 143 this 13 := gr_val g640 e627 s596 (by decide) rfl
  have e675 : n505 = G639 143 this 14 := gr_val g640 e628 s596 (by decide) rfl
  have e676 : n547 = G639 143 this 17 := gr_val g640 e629 s596 (by decide) rfl
  have e677 : n591 = G639 143 this 18 := gr_val g640 h634 s596 (by decide) rfl
  have g678 : Gr [93, 94, 95, 96, 97, 98, 114, 115, 116, 117, 118, 130, 144, 153, 154, 155, 156, 157] [(143, 0), (143, 1), (143, 3), (143, 4), (143, 5), (143, 6), (143, 7), (143, 8), (143, 9), (143, 10), (143, 11), (143, 12), (143, 13), (143, 14), (143, 17), (143, 18), (143, 19), (144, 1), (144, 2), (144, 3), (144, 4), (144, 5), (144, 6), (144, 7), (144, 8), (144, 9), (144, 10), (144, 11), (144, 12), (144, 13), (144, 14), (144, 15), (144, 16), (144, 17), (153, 0), (153, 1)] S G S638 G639 := gr_call g636 g640 rfl rfl
  have u679 : UqL [157, 156, 155, 154, 130] S638 := uq_gr u631 g640 rfl
  have u680 : No [] S638 := no_gr (no_sub u632 rfl) g640 rfl
  have u681 : EmL E [157, 156, 155, 154] S638 G639 := em_gr u635 g640 rfl
  refine r_putFN hX hP rfl rfl fq_X8_74_143 s642 (by decide) (Or.inr n637l) (fun h682 => ?_)
  refine r_finA hX (L := 143) (ci := 9) (fs := fs_143) rfl s642 (by decide) (fun hr683 => ?_)
  have hf684 : Fnl E fs_129 143 S638 (up G639 143 this 19 n637) this := by
    intro j hj
    rcases (by have : j < 20 := hj; omega : j = 0 ∨ j = 1 ∨ j = 2 ∨ j = 3 ∨ j = 4 ∨ j = 5 ∨ j = 6 ∨ j = 7 ∨ j = 8 ∨ j = 9 ∨ j = 10 ∨ j = 11 ∨ j = 12 ∨ j = 13 ∨ j = 14 ∨ j = 15 ∨ j = 16 ∨ j = 17 ∨ j = 18 ∨ j = 19) with rfl | rfl | rfl | rfl | rfl | rfl | rfl | rfl | rfl | rfl | rfl | rfl | rfl | rfl | rfl | rfl | rfl | rfl | rfl | rfl
    · exact hr683 0 (by decide)
    · exact hr683 1 (by decide)
    · exact hr683 2 (by decide)
    · exact ⟨lab_of e659 s643, by decide⟩
    · exact ⟨lab_of e660 s644, by decide⟩
    · exact ⟨lab_of e661 s645, by decide⟩
    · exact ⟨lab_of e662 s646, by decide⟩
    · exact ⟨lab_of e663 s647, by decide⟩
    · exact ⟨lab_of e664 s648, by decide⟩
    · exact ⟨lab_of e666 s649, by decide⟩
    · exact ⟨lab_of e668 s650, by decide⟩
    · exact ⟨lab_of e670 s651, by decide⟩
    · exact ⟨lab_of e672 s652, by decide⟩
    · exact ⟨lab_of e674 s653, by decide⟩
    · exact ⟨lab_of e675 s654, by decide⟩
    · exact hr683 15 (by decide)
    · exact hr683 16 (by decide)
    · exact ⟨lab_of e676 s655, by decide⟩
    · exact ⟨lab_of e677 s656, by decide⟩
    · exact ⟨lab_of h682 n637l, by decide⟩
  have u685 : EmL E [157, 156, 155, 154] S638 (up G639 143 this 19 n637) := (em_up u681 rfl)
  have g686 : Gr [93, 94, 95, 96, 97, 98, 114, 115, 116, 117, 118, 130, 144, 153, 154, 155, 156, 157] [(143, 0), (143, 1), (143, 3), (143, 4), (143, 5), (143, 6), (143, 7), (143, 8), (143, 9), (143, 10), (143, 11), (143, 12), (143, 13), (143, 14), (143, 17), (143, 18), (143, 19), (144, 1), (144, 2), (144, 3), (144, 4), (144, 5), (144, 6), (144, 7), (144, 8), (144, 9), (144, 10), (144, 11), (144, 12), (144, 13), (144, 14), (144, 15), (144, 16), (144, 17), (153, 0), (153, 1)] S G S638 (up G639 143 this 19 n637) := (gr_up g678 rfl)
  exact r_retV hX hP rfl rfl (by omega) (by omega) ⟨g686, rfl, n126, e666, u679, u685, s649, (Eq.symm e665), hf684⟩
set_option maxRecDepth 100000 in
set_option maxHeartbeats 4000000 in
theorem c_X11_initZ (E : En) (S : Sg) (G : Gh) (this : Int) (hS : S this = 142) (uno : No [128, 129, 130, 131, 132, 154, 155, 156, 157, 158, 159, 136, 138] S) : Calls E mX11_init [(2, this)] S G 7 129 3278 (fun r S' G' => Gr [93, 94, 95, 96, 97, 98, 99, 105, 106, 107, 108, 109, 110, 111, 112, 113, 114, 115, 116, 117, 118, 129, 130, 131, 132, 134, 143, 144, 145, 146, 148, 153, 154, 155, 156, 157, 158, 159] [(142, 4), (142, 5), (142, 6), (142, 7), (142, 8), (142, 9), (142, 10), (142, 11), (142, 12), (142, 13), (142, 14), (142, 15), (142, 16), (142, 17), (142, 18), (143, 0), (143, 1), (143, 3), (143, 4), (143, 5), (143, 6), (143, 7), (143, 8), (143, 9), (143, 10), (143, 11), (143, 12), (143, 13), (143, 14), (143, 17), (143, 18), (143, 19), (144, 1), (144, 2), (144, 3), (144, 4), (144, 5), (144, 6), (144, 7), (144, 8), (144, 9), (144, 10), (144, 11), (144, 12), (144, 13), (144, 14), (144, 15), (144, 16), (144, 17), (145, 1), (145, 2), (145, 3), (145, 12), (145, 15), (145, 16), (146, 5), (146, 6), (146, 7), (146, 8), (146, 9), (146, 10), (146, 11), (146, 13), (146, 14), (146, 15), (146, 16), (148, 1), (148, 3), (148, 4), (148, 5), (153, 0), (153, 1)] S G S' G' ∧ r = none ∧ UqL [132, 131, 159, 158, 129, 157, 156, 155, 154, 130] S' ∧ EmL E [159, 158, 157, 156, 155, 154] S' G' ∧ No [128, 136, 138] S' ∧ G' 130 (G' 142 this 5) 0 = 0 ∧ G' 132 (G' 142 this 18) 0 = 0 ∧ G' 131 (G' 142 this 16) 0 = 0 ∧ G' 131 (G' 142 this 16) 1 = (-1) ∧ G' 131 (G' 142 this 16) 2 = (-1) ∧ G' 131 (G' 142 this 16) 9 = (-1) ∧ S' (G' 142 this 5) = 130 ∧ S' (G' 142 this 18) = 132 ∧ S' (G' 142 this 16) = 131 ∧ Fnl E fs_128 142 S' G' this) := by
  refine calls_by [(0, (2, this))] rfl rfl (Nat.le_of_ble_eq_true rfl) (fun X hX => ?_)
  have hP := hPX11_init
  refine r_ex hX hP 1 (pc' := 1) (st' := [(2, this)]) (lo' := [(0, (2, this))]) rfl ?_
  refine r_nn hX hS (by decide) (fun p1 => ?_)
  refine r_objI hX hP rfl (tbg sg1 32 rfl rfl) (tbg sg1 33 rfl rfl) (tbg sg1 34 rfl rfl) p1 (by omega) (Nat.le_of_ble_eq_true rfl) ?_
  refine r_ex hX hP 2 (pc' := 6) (st' := [(1, 1), (2, this)]) (lo' := [(0, (2, this))]) rfl ?_
  refine r_putLK hX hP rfl fp_X11_9_142 hS (by omega) (by omega) (fun h2 => ?_)
  refine r_ex hX hP 1 (pc' := 10) (st' := [(2, this)]) (lo' := [(0, (2, this))]) rfl ?_
  have u3 : EmL E [] S (up G 142 this 4 1) := (em_up (em_nil E S G) rfl)
  have g4 : Gr [93, 94, 95, 96, 97, 98, 99, 105, 106, 107, 108, 109, 110, 111, 112, 113, 114, 115, 116, 117, 118, 129, 130, 131, 132, 134, 143, 144, 145, 146, 148, 153, 154, 155, 156, 157, 158, 159] [(142, 4), (142, 5), (142, 6), (142, 7), (142, 8), (142, 9), (142, 10), (142, 11), (142, 12), (142, 13), (142, 14), (142, 15), (142, 16), (142, 17), (142, 18), (143, 0), (143, 1), (143, 3), (143, 4), (143, 5), (143, 6), (143, 7), (143, 8), (143, 9), (143, 10), (143, 11), (143, 12), (143, 13), (143, 14), (143, 17), (143, 18), (143, 19), (144, 1), (144, 2), (144, 3), (144, 4), (144, 5), (144, 6), (144, 7), (144, 8), (144, 9), (144, 10), (144, 11), (144, 12), (144, 13), (144, 14), (144, 15), (144, 16), (144, 17), (145, 1), (145, 2), (145, 3), (145, 12), (145, 15), (145, 16), (146, 5), (146, 6), (146, 7), (146, 8), (146, 9), (146, 10), (146, 11), (146, 13), (146, 14), (146, 15), (146, 16), (148, 1), (148, 3), (148, 4), (148, 5), (153, 0), (153, 1)] S G S (up G 142 this 4 1) := (gr_up (gr_refl [93, 94, 95, 96, 97, 98, 99, 105, 106, 107, 108, 109, 110, 111, 112, 113, 114, 115, 116, 117, 118, 129, 130, 131, 132, 134, 143, 144, 145, 146, 148, 153, 154, 155, 156, 157, 158, 159] [(142, 4), (142, 5), (142, 6), (142, 7), (142, 8), (142, 9), (142, 10), (142, 11), (142, 12), (142, 13), (142, 14), (142, 15), (142, 16), (142, 17), (142, 18), (143, 0), (143, 1), (143, 3), (143, 4), (143, 5), (143, 6), (143, 7), (143, 8), (143, 9), (143, 10), (143, 11), (143, 12), (143, 13), (143, 14), (143, 17), (143, 18), (143, 19), (144, 1), (144, 2), (144, 3), (144, 4), (144, 5), (144, 6), (144, 7), (144, 8), (144, 9), (144, 10), (144, 11), (144, 12), (144, 13), (144, 14), (144, 15), (144, 16), (144, 17), (145, 1), (145, 2), (145, 3), (145, 12), (145, 15), (145, 16), (146, 5), (146, 6), (146, 7), (146, 8), (146, 9), (146, 10), (146, 11), (146, 13), (146, 14), (146, 15), (146, 16), (148, 1), (148, 3), (148, 4), (148, 5), (153, 0), (153, 1)] S G) rfl)
  refine r_newA hX hP rfl (L := 143) (N := 20) nw_X11_13_143 (by omega) (by omega) (fun n5 S6 G7 n5z n5n n5l g8 n5v => ?_)
  have z9 : S n5 = 0 := gr_zero g4 n5z
  have s10 : S6 this = 142 := gr_lab g8 hS (by decide)
  have e11 : 1 = G7 142 this 4 := gr_val g8 h2 hS (by decide) rfl
  have g12 : Gr [93, 94, 95, 96, 97, 98, 99, 105, 106, 107, 108, 109, 110, 111, 112, 113, 114, 115, 116, 117, 118, 129, 130, 131, 132, 134, 143, 144, 145, 146, 148, 153, 154, 155, 156, 157, 158, 159] [(142, 4), (142, 5), (142, 6), (142, 7), (142, 8), (142, 9), (142, 10), (142, 11), (142, 12), (142, 13), (142, 14), (142, 15), (142, 16), (142, 17), (142, 18), (143, 0), (143, 1), (143, 3), (143, 4), (143, 5), (143, 6), (143, 7), (143, 8), (143, 9), (143, 10), (143, 11), (143, 12), (143, 13), (143, 14), (143, 17), (143, 18), (143, 19), (144, 1), (144, 2), (144, 3), (144, 4), (144, 5), (144, 6), (144, 7), (144, 8), (144, 9), (144, 10), (144, 11), (144, 12), (144, 13), (144, 14), (144, 15), (144, 16), (144, 17), (145, 1), (145, 2), (145, 3), (145, 12), (145, 15), (145, 16), (146, 5), (146, 6), (146, 7), (146, 8), (146, 9), (146, 10), (146, 11), (146, 13), (146, 14), (146, 15), (146, 16), (148, 1), (148, 3), (148, 4), (148, 5), (153, 0), (153, 1)] S G S6 G7 := gr_call g4 g8 rfl rfl
  have u13 : UqL [] S6 := uq_gr (uq_nil S) g8 rfl
  have u14 : No [128, 129, 130, 131, 132, 154, 155, 156, 157, 158, 159, 136, 138] S6 := no_gr (no_sub uno rfl) g8 rfl
  have u15 : EmL E [] S6 G7 := em_gr u3 g8 rfl
  refine r_ex hX hP 1 (pc' := 14) (st' := [(2, n5), (2, n5), (2, this)]) (lo' := [(0, (2, this))]) rfl ?_
  refine r_callIN gd hX hP rfl cn_X11_15 n5n (d' := 6) (mc' := 96) (ms' := 2554) (as' := []) (st := [(2, n5), (2, this)]) (by omega) (by omega) (by omega) rfl rfl (Nat.le_of_ble_eq_true rfl) (c_X8_initZ E S6 G7 n5  n5l (no_sub u14 rfl)) ?_
  rintro _ S16 G17 ⟨g18, rfl, ach19, ach19e, q20, q21, q22, q23, hf24⟩
  have s25 : S16 this = 142 := gr_lab g18 s10 (by decide)
  have s26 : S16 n5 = 143 := gr_lab g18 n5l (by decide)
  have e27 : 1 = G17 142 this 4 := gr_val g18 e11 s10 (by decide) rfl
  have g28 : Gr [93, 94, 95, 96, 97, 98, 99, 105, 106, 107, 108, 109, 110, 111, 112, 113, 114, 115, 116, 117, 118, 129, 130, 131, 132, 134, 143, 144, 145, 146, 148, 153, 154, 155, 156, 157, 158, 159] [(142, 4), (142, 5), (142, 6), (142, 7), (142, 8), (142, 9), (142, 10), (142, 11), (142, 12), (142, 13), (142, 14), (142, 15), (142, 16), (142, 17), (142, 18), (143, 0), (143, 1), (143, 3), (143, 4), (143, 5), (143, 6), (143, 7), (143, 8), (143, 9), (143, 10), (143, 11), (143, 12), (143, 13), (143, 14), (143, 17), (143, 18), (143, 19), (144, 1), (144, 2), (144, 3), (144, 4), (144, 5), (144, 6), (144, 7), (144, 8), (144, 9), (144, 10), (144, 11), (144, 12), (144, 13), (144, 14), (144, 15), (144, 16), (144, 17), (145, 1), (145, 2), (145, 3), (145, 12), (145, 15), (145, 16), (146, 5), (146, 6), (146, 7), (146, 8), (146, 9), (146, 10), (146, 11), (146, 13), (146, 14), (146, 15), (146, 16), (148, 1), (148, 3), (148, 4), (148, 5), (153, 0), (153, 1)] S G S16 G17 := gr_call g12 g18 rfl rfl
  have u29 : UqL [] S16 := uq_gr u13 g18 rfl
  have u30 : No [128, 129, 131, 132, 158, 159, 136, 138] S16 := no_gr (no_sub u14 rfl) g18 rfl
  have u31 : EmL E [] S16 G17 := em_gr u15 g18 rfl
  have u33 : UqL [157, 156, 155, 154, 130] S16 := uq_app q20 u29
  have u34 : EmL E [157, 156, 155, 154] S16 G17 := em_app q21 u31
  refine r_finA hX (L := 143) (ci := 9) (fs := fs_143) rfl s26 (by decide) (fun hr35 => ?_)
  refine r_relabF hX (L := 143) (L' := 129) (ci := 9) (fs := fs_143) (fs' := fs_129) rfl rfl rfl (by decide) (by decide) nf_143 (by decide) s26 hf24 (fun S38 G39 r37 => ?_)
  have s41 : S38 this = 142 := r37.lab s26 s25 (by decide)
  have s42 : S38 ach19 = 130 := r37.lab s26 q22 (by decide)
  have e43 : 1 = G39 142 this 4 := rs_val r37 s26 e27 s25 (by decide)
  have e44 : ach19 = G39 129 n5 9 := ach19e.trans (r37.2.2.1 9).symm
  have e45 : 0 = G39 130 ach19 0 := rs_val r37 s26 (Eq.symm q23) q22 (by decide)
  have g46 : Gr [93, 94, 95, 96, 97, 98, 99, 105, 106, 107, 108, 109, 110, 111, 112, 113, 114, 115, 116, 117, 118, 129, 130, 131, 132, 134, 143, 144, 145, 146, 148, 153, 154, 155, 156, 157, 158, 159] [(142, 4), (142, 5), (142, 6), (142, 7), (142, 8), (142, 9), (142, 10), (142, 11), (142, 12), (142, 13), (142, 14), (142, 15), (142, 16), (142, 17), (142, 18), (143, 0), (143, 1), (143, 3), (143, 4), (143, 5), (143, 6), (143, 7), (143, 8), (143, 9), (143, 10), (143, 11), (143, 12), (143, 13), (143, 14), (143, 17), (143, 18), (143, 19), (144, 1), (144, 2), (144, 3), (144, 4), (144, 5), (144, 6), (144, 7), (144, 8), (144, 9), (144, 10), (144, 11), (144, 12), (144, 13), (144, 14), (144, 15), (144, 16), (144, 17), (145, 1), (145, 2), (145, 3), (145, 12), (145, 15), (145, 16), (146, 5), (146, 6), (146, 7), (146, 8), (146, 9), (146, 10), (146, 11), (146, 13), (146, 14), (146, 15), (146, 16), (148, 1), (148, 3), (148, 4), (148, 5), (153, 0), (153, 1)] S G S38 G39 := gr_rs g28 r37 z9 rfl
  have u47 : UqL [129, 157, 156, 155, 154, 130] S38 := uq_rs u33 (no_sub u30 rfl) r37 rfl
  have u48 : EmL E [157, 156, 155, 154] S38 G39 := em_rsN u34 r37 rfl
  have u49 : No [128, 131, 132, 158, 159, 136, 138] S38 := no_rs u30 r37 rfl
  refine r_putFN hX hP rfl rfl fq_X11_16_142 s41 (by decide) (Or.inr r37.1) (fun h50 => ?_)
  refine r_ex hX hP 2 (pc' := 22) (st' := [(2, this), (2, this)]) (lo' := [(0, (2, this))]) rfl ?_
  refine r_getKN hX hP rfl fl_X11_16_142 s41 (x := n5) h50 ?_
  refine r_getKR hX hP rfl fl_X11_20_129 r37.1 (x := ach19) e44 ?_
  refine r_putFN hX hP rfl rfl fq_X11_24_142 s41 (by decide) (Or.inr s42) (fun h51 => ?_)
  refine r_ex hX hP 2 (pc' := 33) (st' := [(2, this), (2, this)]) (lo' := [(0, (2, this))]) rfl ?_
  refine r_getKN hX hP rfl fl_X11_16_142 s41 (x := n5) h50 ?_
  refine r_getR hX hP rfl fl_X11_25_129 r37.1 (fun if52 if52e if52s => ?_)
  refine r_putFN hX hP rfl rfl fq_X11_29_142 s41 (by decide) (Or.inr if52s) (fun h53 => ?_)
  refine r_ex hX hP 2 (pc' := 44) (st' := [(2, this), (2, this)]) (lo' := [(0, (2, this))]) rfl ?_
  refine r_getKN hX hP rfl fl_X11_16_142 s41 (x := n5) h50 ?_
  refine r_getR hX hP rfl fl_X11_30_129 r37.1 (fun tf54 tf54e tf54s => ?_)
  refine r_putFN hX hP rfl rfl fq_X11_33_142 s41 (by decide) (Or.inr tf54s) (fun h55 => ?_)
  refine r_ex hX hP 2 (pc' := 55) (st' := [(2, this), (2, this)]) (lo' := [(0, (2, this))]) rfl ?_
  refine r_getKN hX hP rfl fl_X11_16_142 s41 (x := n5) h50 ?_
  refine r_getR hX hP rfl fl_X11_34_129 r37.1 (fun ef56 ef56e ef56s => ?_)
  refine r_putFN hX hP rfl rfl fq_X11_37_142 s41 (by decide) (Or.inr ef56s) (fun h57 => ?_)
  refine r_ex hX hP 2 (pc' := 66) (st' := [(2, this), (2, this)]) (lo' := [(0, (2, this))]) rfl ?_
  refine r_getKN hX hP rfl fl_X11_16_142 s41 (x := n5) h50 ?_
  refine r_getR hX hP rfl fl_X11_38_129 r37.1 (fun pf58 pf58e pf58s => ?_)
  refine r_putFN hX hP rfl rfl fq_X11_41_142 s41 (by decide) (Or.inr pf58s) (fun h59 => ?_)
  refine r_ex hX hP 1 (pc' := 76) (st' := [(2, this)]) (lo' := [(0, (2, this))]) rfl ?_
  have u60 : EmL E [157, 156, 155, 154] S38 (up (up (up (up (up (up G39 142 this 17 n5) 142 this 5 ach19) 142 this 6 if52) 142 this 7 tf54) 142 this 8 ef56) 142 this 9 pf58) := (em_up (em_up (em_up (em_up (em_up (em_up u48 rfl) rfl) rfl) rfl) rfl) rfl)
  have g61 : Gr [93, 94, 95, 96, 97, 98, 99, 105, 106, 107, 108, 109, 110, 111, 112, 113, 114, 115, 116, 117, 118, 129, 130, 131, 132, 134, 143, 144, 145, 146, 148, 153, 154, 155, 156, 157, 158, 159] [(142, 4), (142, 5), (142, 6), (142, 7), (142, 8), (142, 9), (142, 10), (142, 11), (142, 12), (142, 13), (142, 14), (142, 15), (142, 16), (142, 17), (142, 18), (143, 0), (143, 1), (143, 3), (143, 4), (143, 5), (143, 6), (143, 7), (143, 8), (143, 9), (143, 10), (143, 11), (143, 12), (143, 13), (143, 14), (143, 17), (143, 18), (143, 19), (144, 1), (144, 2), (144, 3), (144, 4), (144, 5), (144, 6), (144, 7), (144, 8), (144, 9), (144, 10), (144, 11), (144, 12), (144, 13), (144, 14), (144, 15), (144, 16), (144, 17), (145, 1), (145, 2), (145, 3), (145, 12), (145, 15), (145, 16), (146, 5), (146, 6), (146, 7), (146, 8), (146, 9), (146, 10), (146, 11), (146, 13), (146, 14), (146, 15), (146, 16), (148, 1), (148, 3), (148, 4), (148, 5), (153, 0), (153, 1)] S G S38 (up (up (up (up (up (up G39 142 this 17 n5) 142 this 5 ach19) 142 this 6 if52) 142 this 7 tf54) 142 this 8 ef56) 142 this 9 pf58) := (gr_up (gr_up (gr_up (gr_up (gr_up (gr_up g46 rfl) rfl) rfl) rfl) rfl) rfl)
  refine r_newA hX hP rfl (L := 153) (N := 3) nw_X11_42_153 (by omega) (by omega) (fun n62 S63 G64 n62z n62n n62l g65 n62v => ?_)
  have z66 : S n62 = 0 := gr_zero g61 n62z
  have s67 : S63 this = 142 := gr_lab g65 s41 (by decide)
  have s68 : S63 n5 = 129 := gr_lab g65 r37.1 (by decide)
  have s69 : S63 ach19 = 130 := gr_lab g65 s42 (by decide)
  have s70 : S63 if52 = 154 := gr_lab g65 if52s (by decide)
  have s71 : S63 tf54 = 155 := gr_lab g65 tf54s (by decide)
  have s72 : S63 ef56 = 156 := gr_lab g65 ef56s (by decide)
  have s73 : S63 pf58 = 157 := gr_lab g65 pf58s (by decide)
  have e74 : 1 = G64 142 this 4 := gr_val g65 e43 s41 (by decide) rfl
  have e75 : ach19 = G64 129 n5 9 := gr_val g65 e44 r37.1 (by decide) rfl
  have e76 : 0 = G64 130 ach19 0 := gr_val g65 e45 s42 (by decide) rfl
  have e77 : n5 = G64 142 this 17 := gr_val g65 h50 s41 (by decide) rfl
  have e78 : ach19 = G64 142 this 5 := gr_val g65 h51 s41 (by decide) rfl
  have e79 : if52 = G64 129 n5 10 := gr_val g65 if52e r37.1 (by decide) rfl
  have e80 : if52 = G64 142 this 6 := gr_val g65 h53 s41 (by decide) rfl
  have e81 : tf54 = G64 129 n5 11 := gr_val g65 tf54e r37.1 (by decide) rfl
  have e82 : tf54 = G64 142 this 7 := gr_val g65 h55 s41 (by decide) rfl
  have e83 : ef56 = G64 129 n5 12 := gr_val g65 ef56e r37.1 (by decide) rfl
  have e84 : ef56 = G64 142 this 8 := gr_val g65 h57 s41 (by decide) rfl
  have e85 : pf58 = G64 129 n5 13 := gr_val g65 pf58e r37.1 (by decide) rfl
  have e86 : pf58 = G64 142 this 9 := gr_val g65 h59 s41 (by decide) rfl
  have g87 : Gr [93, 94, 95, 96, 97, 98, 99, 105, 106, 107, 108, 109, 110, 111, 112, 113, 114, 115, 116, 117, 118, 129, 130, 131, 132, 134, 143, 144, 145, 146, 148, 153, 154, 155, 156, 157, 158, 159] [(142, 4), (142, 5), (142, 6), (142, 7), (142, 8), (142, 9), (142, 10), (142, 11), (142, 12), (142, 13), (142, 14), (142, 15), (142, 16), (142, 17), (142, 18), (143, 0), (143, 1), (143, 3), (143, 4), (143, 5), (143, 6), (143, 7), (143, 8), (143, 9), (143, 10), (143, 11), (143, 12), (143, 13), (143, 14), (143, 17), (143, 18), (143, 19), (144, 1), (144, 2), (144, 3), (144, 4), (144, 5), (144, 6), (144, 7), (144, 8), (144, 9), (144, 10), (144, 11), (144, 12), (144, 13), (144, 14), (144, 15), (144, 16), (144, 17), (145, 1), (145, 2), (145, 3), (145, 12), (145, 15), (145, 16), (146, 5), (146, 6), (146, 7), (146, 8), (146, 9), (146, 10), (146, 11), (146, 13), (146, 14), (146, 15), (146, 16), (148, 1), (148, 3), (148, 4), (148, 5), (153, 0), (153, 1)] S G S63 G64 := gr_call g61 g65 rfl rfl
  have u88 : UqL [129, 157, 156, 155, 154, 130] S63 := uq_gr u47 g65 rfl
  have u89 : No [128, 131, 132, 158, 159, 136, 138] S63 := no_gr (no_sub u49 rfl) g65 rfl
  have u90 : EmL E [157, 156, 155, 154] S63 G64 := em_gr u60 g65 rfl
  refine r_ex hX hP 1 (pc' := 80) (st' := [(2, n62), (2, n62), (2, this)]) (lo' := [(0, (2, this))]) rfl ?_
  refine r_callI gd hX hP rfl ci_X11_44 n62n (d' := 5) (mc' := 0) (ms' := 0) (as' := []) (st := [(2, n62), (2, this)]) (by omega) (by omega) (by omega) rfl rfl (Nat.le_of_ble_eq_true rfl) (c_Jx4a65c_init_da8c8 E S63 G64 n62  n62l) ?_
  rintro _ _ _ ⟨rfl, ⟨G91, rfl⟩, rfl, elh92, elh92e, f93⟩
  have e95 : Ad E 0 = (hw [(153, 0), (153, 1)] G64 G91) 153 n62 1 := by rw [← f93]; exact elh92e
  have u96 : EmL E [157, 156, 155, 154] S63 (hw [(153, 0), (153, 1)] G64 G91) := (em_hw u90 rfl)
  have g97 : Gr [93, 94, 95, 96, 97, 98, 99, 105, 106, 107, 108, 109, 110, 111, 112, 113, 114, 115, 116, 117, 118, 129, 130, 131, 132, 134, 143, 144, 145, 146, 148, 153, 154, 155, 156, 157, 158, 159] [(142, 4), (142, 5), (142, 6), (142, 7), (142, 8), (142, 9), (142, 10), (142, 11), (142, 12), (142, 13), (142, 14), (142, 15), (142, 16), (142, 17), (142, 18), (143, 0), (143, 1), (143, 3), (143, 4), (143, 5), (143, 6), (143, 7), (143, 8), (143, 9), (143, 10), (143, 11), (143, 12), (143, 13), (143, 14), (143, 17), (143, 18), (143, 19), (144, 1), (144, 2), (144, 3), (144, 4), (144, 5), (144, 6), (144, 7), (144, 8), (144, 9), (144, 10), (144, 11), (144, 12), (144, 13), (144, 14), (144, 15), (144, 16), (144, 17), (145, 1), (145, 2), (145, 3), (145, 12), (145, 15), (145, 16), (146, 5), (146, 6), (146, 7), (146, 8), (146, 9), (146, 10), (146, 11), (146, 13), (146, 14), (146, 15), (146, 16), (148, 1), (148, 3), (148, 4), (148, 5), (153, 0), (153, 1)] S G S63 (hw [(153, 0), (153, 1)] G64 G91) := (gr_hw g87 rfl)
  refine r_finA hX (L := 153) (ci := 0) (fs := fs_153) rfl n62l (by decide) (fun hr98 => ?_)
  have hf99 : Fnl E fs_158 153 S63 (hw [(153, 0), (153, 1)] G64 G91) n62 := by
    intro j hj
    rcases (by have : j < 3 := hj; omega : j = 0 ∨ j = 1 ∨ j = 2) with rfl | rfl | rfl
    · exact hr98 0 (by decide)
    · exact Or.inl e95.symm
    · have e : (0 : Int) ≤ (hw [(153, 0), (153, 1)] G64 G91) 153 n62 2 ∧ (hw [(153, 0), (153, 1)] G64 G91) 153 n62 2 ≤ 0 := hr98 2 (by decide); show (0 : Int) ≤ (hw [(153, 0), (153, 1)] G64 G91) 153 n62 2 ∧ (hw [(153, 0), (153, 1)] G64 G91) 153 n62 2 ≤ 10; omega
  refine r_relabF hX (L := 153) (L' := 158) (ci := 0) (fs := fs_153) (fs' := fs_158) rfl rfl rfl (by decide) (by decide) nf_153 (by decide) n62l hf99 (fun S101 G102 r100 => ?_)
  have s104 : S101 this = 142 := r100.lab n62l s67 (by decide)
  have s105 : S101 n5 = 129 := r100.lab n62l s68 (by decide)
  have s106 : S101 ach19 = 130 := r100.lab n62l s69 (by decide)
  have s107 : S101 if52 = 154 := r100.lab n62l s70 (by decide)
  have s108 : S101 tf54 = 155 := r100.lab n62l s71 (by decide)
  have s109 : S101 ef56 = 156 := r100.lab n62l s72 (by decide)
  have s110 : S101 pf58 = 157 := r100.lab n62l s73 (by decide)
  have e111 : 1 = G102 142 this 4 := rs_val r100 n62l e74 s67 (by decide)
  have e112 : ach19 = G102 129 n5 9 := rs_val r100 n62l e75 s68 (by decide)
  have e113 : 0 = G102 130 ach19 0 := rs_val r100 n62l e76 s69 (by decide)
  have e114 : n5 = G102 142 this 17 := rs_val r100 n62l e77 s67 (by decide)
  have e115 : ach19 = G102 142 this 5 := rs_val r100 n62l e78 s67 (by decide)
  have e116 : if52 = G102 129 n5 10 := rs_val r100 n62l e79 s68 (by decide)
  have e117 : if52 = G102 142 this 6 := rs_val r100 n62l e80 s67 (by decide)
  have e118 : tf54 = G102 129 n5 11 := rs_val r100 n62l e81 s68 (by decide)
  have e119 : tf54 = G102 142 this 7 := rs_val r100 n62l e82 s67 (by decide)
  have e120 : ef56 = G102 129 n5 12 := rs_val r100 n62l e83 s68 (by decide)
  have e121 : ef56 = G102 142 this 8 := rs_val r100 n62l e84 s67 (by decide)
  have e122 : pf58 = G102 129 n5 13 := rs_val r100 n62l e85 s68 (by decide)
  have e123 : pf58 = G102 142 this 9 := rs_val r100 n62l e86 s67 (by decide)
  have e124 : (Ad E 0) = G102 158 n62 1 := e95.trans (r100.2.2.1 1).symm
  have g125 : Gr [93, 94, 95, 96, 97, 98, 99, 105, 106, 107, 108, 109, 110, 111, 112, 113, 114, 115, 116, 117, 118, 129, 130, 131, 132, 134, 143, 144, 145, 146, 148, 153, 154, 155, 156, 157, 158, 159] [(142, 4), (142, 5), (142, 6), (142, 7), (142, 8), (142, 9), (142, 10), (142, 11), (142, 12), (142, 13), (142, 14), (142, 15), (142, 16), (142, 17), (142, 18), (143, 0), (143, 1), (143, 3), (143, 4), (143, 5), (143, 6), (143, 7), (143, 8), (143, 9), (143, 10), (143, 11), (143, 12), (143, 13), (143, 14), (143, 17), (143, 18), (143, 19), (144, 1), (144, 2), (144, 3), (144, 4), (144, 5), (144, 6), (144, 7), (144, 8), (144, 9), (144, 10), (144, 11), (144, 12), (144, 13), (144, 14), (144, 15), (144, 16), (144, 17), (145, 1), (145, 2), (145, 3), (145, 12), (145, 15), (145, 16), (146, 5), (146, 6), (146, 7), (146, 8), (146, 9), (146, 10), (146, 11), (146, 13), (146, 14), (146, 15), (146, 16), (148, 1), (148, 3), (148, 4), (148, 5), (153, 0), (153, 1)] S G S101 G102 := gr_rs g97 r100 z66 rfl
  have u126 : UqL [158, 129, 157, 156, 155, 154, 130] S101 := uq_rs u88 (no_sub u89 rfl) r100 rfl
  have u127 : EmL E [158, 157, 156, 155, 154] S101 G102 := em_rs u96 (no_sub u89 rfl) r100 e95 (by have e : (0 : Int) ≤ (hw [(153, 0), (153, 1)] G64 G91) 153 n62 2 ∧ (hw [(153, 0), (153, 1)] G64 G91) 153 n62 2 ≤ 0 := hr98 2 (by decide); omega) rfl
  have u128 : No [128, 131, 132, 159, 136, 138] S101 := no_rs u89 r100 rfl
  refine r_putFN hX hP rfl rfl fq_X11_45_142 s104 (by decide) (Or.inr r100.1) (fun h129 => ?_)
  refine r_ex hX hP 1 (pc' := 87) (st' := [(2, this)]) (lo' := [(0, (2, this))]) rfl ?_
  have u130 : EmL E [158, 157, 156, 155, 154] S101 (up G102 142 this 10 n62) := (em_up u127 rfl)
  have g131 : Gr [93, 94, 95, 96, 97, 98, 99, 105, 106, 107, 108, 109, 110, 111, 112, 113, 114, 115, 116, 117, 118, 129, 130, 131, 132, 134, 143, 144, 145, 146, 148, 153, 154, 155, 156, 157, 158, 159] [(142, 4), (142, 5), (142, 6), (142, 7), (142, 8), (142, 9), (142, 10), (142, 11), (142, 12), (142, 13), (142, 14), (142, 15), (142, 16), (142, 17), (142, 18), (143, 0), (143, 1), (143, 3), (143, 4), (143, 5), (143, 6), (143, 7), (143, 8), (143, 9), (143, 10), (143, 11), (143, 12), (143, 13), (143, 14), (143, 17), (143, 18), (143, 19), (144, 1), (144, 2), (144, 3), (144, 4), (144, 5), (144, 6), (144, 7), (144, 8), (144, 9), (144, 10), (144, 11), (144, 12), (144, 13), (144, 14), (144, 15), (144, 16), (144, 17), (145, 1), (145, 2), (145, 3), (145, 12), (145, 15), (145, 16), (146, 5), (146, 6), (146, 7), (146, 8), (146, 9), (146, 10), (146, 11), (146, 13), (146, 14), (146, 15), (146, 16), (148, 1), (148, 3), (148, 4), (148, 5), (153, 0), (153, 1)] S G S101 (up G102 142 this 10 n62) := (gr_up g125 rfl)
  refine r_newA hX hP rfl (L := 153) (N := 3) nw_X11_42_153 (by omega) (by omega) (fun n132 S133 G134 n132z n132n n132l g135 n132v => ?_)
  have z136 : S n132 = 0 := gr_zero g131 n132z
  have s137 : S133 this = 142 := gr_lab g135 s104 (by decide)
  have s138 : S133 n5 = 129 := gr_lab g135 s105 (by decide)
  have s139 : S133 ach19 = 130 := gr_lab g135 s106 (by decide)
  have s140 : S133 if52 = 154 := gr_lab g135 s107 (by decide)
  have s141 : S133 tf54 = 155 := gr_lab g135 s108 (by decide)
  have s142 : S133 ef56 = 156 := gr_lab g135 s109 (by decide)
  have s143 : S133 pf58 = 157 := gr_lab g135 s110 (by decide)
  have s144 : S133 n62 = 158 := gr_lab g135 r100.1 (by decide)
  have e145 : 1 = G134 142 this 4 := gr_val g135 e111 s104 (by decide) rfl
  have e146 : ach19 = G134 129 n5 9 := gr_val g135 e112 s105 (by decide) rfl
  have e147 : 0 = G134 130 ach19 0 := gr_val g135 e113 s106 (by decide) rfl
  have e148 : n5 = G134 142 this 17 := gr_val g135 e114 s104 (by decide) rfl
  have e149 : ach19 = G134 142 this 5 := gr_val g135 e115 s104 (by decide) rfl
  have e150 : if52 = G134 129 n5 10 := gr_val g135 e116 s105 (by decide) rfl
  have e151 : if52 = G134 142 this 6 := gr_val g135 e117 s104 (by decide) rfl
  have e152 : tf54 = G134 129 n5 11 := gr_val g135 e118 s105 (by decide) rfl
  have e153 : tf54 = G134 142 this 7 := gr_val g135 e119 s104 (by decide) rfl
  have e154 : ef56 = G134 129 n5 12 := gr_val g135 e120 s105 (by decide) rfl
  have e155 : ef56 = G134 142 this 8 := gr_val g135 e121 s104 (by decide) rfl
  have e156 : pf58 = G134 129 n5 13 := gr_val g135 e122 s105 (by decide) rfl
  have e157 : pf58 = G134 142 this 9 := gr_val g135 e123 s104 (by decide) rfl
  have e158 : (Ad E 0) = G134 158 n62 1 := gr_val g135 e124 r100.1 (by decide) rfl
  have e159 : n62 = G134 142 this 10 := gr_val g135 h129 s104 (by decide) rfl
  have g160 : Gr [93, 94, 95, 96, 97, 98, 99, 105, 106, 107, 108, 109, 110, 111, 112, 113, 114, 115, 116, 117, 118, 129, 130, 131, 132, 134, 143, 144, 145, 146, 148, 153, 154, 155, 156, 157, 158, 159] [(142, 4), (142, 5), (142, 6), (142, 7), (142, 8), (142, 9), (142, 10), (142, 11), (142, 12), (142, 13), (142, 14), (142, 15), (142, 16), (142, 17), (142, 18), (143, 0), (143, 1), (143, 3), (143, 4), (143, 5), (143, 6), (143, 7), (143, 8), (143, 9), (143, 10), (143, 11), (143, 12), (143, 13), (143, 14), (143, 17), (143, 18), (143, 19), (144, 1), (144, 2), (144, 3), (144, 4), (144, 5), (144, 6), (144, 7), (144, 8), (144, 9), (144, 10), (144, 11), (144, 12), (144, 13), (144, 14), (144, 15), (144, 16), (144, 17), (145, 1), (145, 2), (145, 3), (145, 12), (145, 15), (145, 16), (146, 5), (146, 6), (146, 7), (146, 8), (146, 9), (146, 10), (146, 11), (146, 13), (146, 14), (146, 15), (146, 16), (148, 1), (148, 3), (148, 4), (148, 5), (153, 0), (153, 1)] S G S133 G134 := gr_call g131 g135 rfl rfl
  have u161 : UqL [158, 129, 157, 156, 155, 154, 130] S133 := uq_gr u126 g135 rfl
  have u162 : No [128, 131, 132, 159, 136, 138] S133 := no_gr (no_sub u128 rfl) g135 rfl
  have u163 : EmL E [158, 157, 156, 155, 154] S133 G134 := em_gr u130 g135 rfl
  refine r_ex hX hP 1 (pc' := 91) (st' := [(2, n132), (2, n132), (2, this)]) (lo' := [(0, (2, this))]) rfl ?_
  refine r_callI gd hX hP rfl ci_X11_44 n132n (d' := 5) (mc' := 0) (ms' := 0) (as' := []) (st := [(2, n132), (2, this)]) (by omega) (by omega) (by omega) rfl rfl (Nat.le_of_ble_eq_true rfl) (c_Jx4a65c_init_da8c8 E S133 G134 n132  n132l) ?_
  rintro _ _ _ ⟨rfl, ⟨G164, rfl⟩, rfl, elh165, elh165e, f166⟩
  have e168 : Ad E 0 = (hw [(153, 0), (153, 1)] G134 G164) 153 n132 1 := by rw [← f166]; exact elh165e
  have u169 : EmL E [158, 157, 156, 155, 154] S133 (hw [(153, 0), (153, 1)] G134 G164) := (em_hw u163 rfl)
  have g170 : Gr [93, 94, 95, 96, 97, 98, 99, 105, 106, 107, 108, 109, 110, 111, 112, 113, 114, 115, 116, 117, 118, 129, 130, 131, 132, 134, 143, 144, 145, 146, 148, 153, 154, 155, 156, 157, 158, 159] [(142, 4), (142, 5), (142, 6), (142, 7), (142, 8), (142, 9), (142, 10), (142, 11), (142, 12), (142, 13), (142, 14), (142, 15), (142, 16), (142, 17), (142, 18), (143, 0), (143, 1), (143, 3), (143, 4), (143, 5), (143, 6), (143, 7), (143, 8), (143, 9), (143, 10), (143, 11), (143, 12), (143, 13), (143, 14), (143, 17), (143, 18), (143, 19), (144, 1), (144, 2), (144, 3), (144, 4), (144, 5), (144, 6), (144, 7), (144, 8), (144, 9), (144, 10), (144, 11), (144, 12), (144, 13), (144, 14), (144, 15), (144, 16), (144, 17), (145, 1), (145, 2), (145, 3), (145, 12), (145, 15), (145, 16), (146, 5), (146, 6), (146, 7), (146, 8), (146, 9), (146, 10), (146, 11), (146, 13), (146, 14), (146, 15), (146, 16), (148, 1), (148, 3), (148, 4), (148, 5), (153, 0), (153, 1)] S G S133 (hw [(153, 0), (153, 1)] G134 G164) := (gr_hw g160 rfl)
  refine r_finA hX (L := 153) (ci := 0) (fs := fs_153) rfl n132l (by decide) (fun hr171 => ?_)
  have hf172 : Fnl E fs_159 153 S133 (hw [(153, 0), (153, 1)] G134 G164) n132 := by
    intro j hj
    rcases (by have : j < 3 := hj; omega : j = 0 ∨ j = 1 ∨ j = 2) with rfl | rfl | rfl
    · exact hr171 0 (by decide)
    · exact Or.inl e168.symm
    · have e : (0 : Int) ≤ (hw [(153, 0), (153, 1)] G134 G164) 153 n132 2 ∧ (hw [(153, 0), (153, 1)] G134 G164) 153 n132 2 ≤ 0 := hr171 2 (by decide); show (0 : Int) ≤ (hw [(153, 0), (153, 1)] G134 G164) 153 n132 2 ∧ (hw [(153, 0), (153, 1)] G134 G164) 153 n132 2 ≤ 60; omega
  refine r_relabF hX (L := 153) (L' := 159) (ci := 0) (fs := fs_153) (fs' := fs_159) rfl rfl rfl (by decide) (by decide) nf_153 (by decide) n132l hf172 (fun S174 G175 r173 => ?_)
  have s177 : S174 this = 142 := r173.lab n132l s137 (by decide)
  have s178 : S174 n5 = 129 := r173.lab n132l s138 (by decide)
  have s179 : S174 ach19 = 130 := r173.lab n132l s139 (by decide)
  have s180 : S174 if52 = 154 := r173.lab n132l s140 (by decide)
  have s181 : S174 tf54 = 155 := r173.lab n132l s141 (by decide)
  have s182 : S174 ef56 = 156 := r173.lab n132l s142 (by decide)
  have s183 : S174 pf58 = 157 := r173.lab n132l s143 (by decide)
  have s184 : S174 n62 = 158 := r173.lab n132l s144 (by decide)
  have e185 : 1 = G175 142 this 4 := rs_val r173 n132l e145 s137 (by decide)
  have e186 : ach19 = G175 129 n5 9 := rs_val r173 n132l e146 s138 (by decide)
  have e187 : 0 = G175 130 ach19 0 := rs_val r173 n132l e147 s139 (by decide)
  have e188 : n5 = G175 142 this 17 := rs_val r173 n132l e148 s137 (by decide)
  have e189 : ach19 = G175 142 this 5 := rs_val r173 n132l e149 s137 (by decide)
  have e190 : if52 = G175 129 n5 10 := rs_val r173 n132l e150 s138 (by decide)
  have e191 : if52 = G175 142 this 6 := rs_val r173 n132l e151 s137 (by decide)
  have e192 : tf54 = G175 129 n5 11 := rs_val r173 n132l e152 s138 (by decide)
  have e193 : tf54 = G175 142 this 7 := rs_val r173 n132l e153 s137 (by decide)
  have e194 : ef56 = G175 129 n5 12 := rs_val r173 n132l e154 s138 (by decide)
  have e195 : ef56 = G175 142 this 8 := rs_val r173 n132l e155 s137 (by decide)
  have e196 : pf58 = G175 129 n5 13 := rs_val r173 n132l e156 s138 (by decide)
  have e197 : pf58 = G175 142 this 9 := rs_val r173 n132l e157 s137 (by decide)
  have e198 : (Ad E 0) = G175 158 n62 1 := rs_val r173 n132l e158 s144 (by decide)
  have e199 : n62 = G175 142 this 10 := rs_val r173 n132l e159 s137 (by decide)
  have e200 : (Ad E 0) = G175 159 n132 1 := e168.trans (r173.2.2.1 1).symm
  have g201 : Gr [93, 94, 95, 96, 97, 98, 99, 105, 106, 107, 108, 109, 110, 111, 112, 113, 114, 115, 116, 117, 118, 129, 130, 131, 132, 134, 143, 144, 145, 146, 148, 153, 154, 155, 156, 157, 158, 159] [(142, 4), (142, 5), (142, 6), (142, 7), (142, 8), (142, 9), (142, 10), (142, 11), (142, 12), (142, 13), (142, 14), (142, 15), (142, 16), (142, 17), (142, 18), (143, 0), (143, 1), (143, 3), (143, 4), (143, 5), (143, 6), (143, 7), (143, 8), (143, 9), (143, 10), (143, 11), (143, 12), (143, 13), (143, 14), (143, 17), (143, 18), (143, 19), (144, 1), (144, 2), (144, 3), (144, 4), (144, 5), (144, 6), (144, 7), (144, 8), (144, 9), (144, 10), (144, 11), (144, 12), (144, 13), (144, 14), (144, 15), (144, 16), (144, 17), (145, 1), (145, 2), (145, 3), (145, 12), (145, 15), (145, 16), (146, 5), (146, 6), (146, 7), (146, 8), (146, 9), (146, 10), (146, 11), (146, 13), (146, 14), (146, 15), (146, 16), (148, 1), (148, 3), (148, 4), (148, 5), (153, 0), (153, 1)] S G S174 G175 := gr_rs g170 r173 z136 rfl
  have u202 : UqL [159, 158, 129, 157, 156, 155, 154, 130] S174 := uq_rs u161 (no_sub u162 rfl) r173 rfl
  have u203 : EmL E [159, 158, 157, 156, 155, 154] S174 G175 := em_rs u169 (no_sub u162 rfl) r173 e168 (by have e : (0 : Int) ≤ (hw [(153, 0), (153, 1)] G134 G164) 153 n132 2 ∧ (hw [(153, 0), (153, 1)] G134 G164) 153 n132 2 ≤ 0 := hr171 2 (by decide); omega) rfl
  have u204 : No [128, 131, 132, 136, 138] S174 := no_rs u162 r173 rfl
  refine r_putFN hX hP rfl rfl fq_X11_48_142 s177 (by decide) (Or.inr r173.1) (fun h205 => ?_)
  refine r_ex hX hP 2 (pc' := 100) (st' := [(0, 20), (2, this)]) (lo' := [(0, (2, this))]) rfl ?_
  have u206 : EmL E [159, 158, 157, 156, 155, 154] S174 (up G175 142 this 11 n132) := (em_up u203 rfl)
  have g207 : Gr [93, 94, 95, 96, 97, 98, 99, 105, 106, 107, 108, 109, 110, 111, 112, 113, 114, 115, 116, 117, 118, 129, 130, 131, 132, 134, 143, 144, 145, 146, 148, 153, 154, 155, 156, 157, 158, 159] [(142, 4), (142, 5), (142, 6), (142, 7), (142, 8), (142, 9), (142, 10), (142, 11), (142, 12), (142, 13), (142, 14), (142, 15), (142, 16), (142, 17), (142, 18), (143, 0), (143, 1), (143, 3), (143, 4), (143, 5), (143, 6), (143, 7), (143, 8), (143, 9), (143, 10), (143, 11), (143, 12), (143, 13), (143, 14), (143, 17), (143, 18), (143, 19), (144, 1), (144, 2), (144, 3), (144, 4), (144, 5), (144, 6), (144, 7), (144, 8), (144, 9), (144, 10), (144, 11), (144, 12), (144, 13), (144, 14), (144, 15), (144, 16), (144, 17), (145, 1), (145, 2), (145, 3), (145, 12), (145, 15), (145, 16), (146, 5), (146, 6), (146, 7), (146, 8), (146, 9), (146, 10), (146, 11), (146, 13), (146, 14), (146, 15), (146, 16), (148, 1), (148, 3), (148, 4), (148, 5), (153, 0), (153, 1)] S G S174 (up G175 142 this 11 n132) := (gr_up g201 rfl)
  refine r_newarrA hX hP rfl (L := 94) (n := 20) al_94 (by decide) rfl rfl rfl (tbg sg1 124 rfl rfl) (by decide) (by omega) (by omega) (fun n208 S209 G210 n208z n208n n208l g211 n208v => ?_)
  have z212 : S n208 = 0 := gr_zero g207 n208z
  have s213 : S209 this = 142 := gr_lab g211 s177 (by decide)
  have s214 : S209 n5 = 129 := gr_lab g211 s178 (by decide)
  have s215 : S209 ach19 = 130 := gr_lab g211 s179 (by decide)
  have s216 : S209 if52 = 154 := gr_lab g211 s180 (by decide)
  have s217 : S209 tf54 = 155 := gr_lab g211 s181 (by decide)
  have s218 : S209 ef56 = 156 := gr_lab g211 s182 (by decide)
  have s219 : S209 pf58 = 157 := gr_lab g211 s183 (by decide)
  have s220 : S209 n62 = 158 := gr_lab g211 s184 (by decide)
  have s221 : S209 n132 = 159 := gr_lab g211 r173.1 (by decide)
  have e222 : 1 = G210 142 this 4 := gr_val g211 e185 s177 (by decide) rfl
  have e223 : ach19 = G210 129 n5 9 := gr_val g211 e186 s178 (by decide) rfl
  have e224 : 0 = G210 130 ach19 0 := gr_val g211 e187 s179 (by decide) rfl
  have e225 : n5 = G210 142 this 17 := gr_val g211 e188 s177 (by decide) rfl
  have e226 : ach19 = G210 142 this 5 := gr_val g211 e189 s177 (by decide) rfl
  have e227 : if52 = G210 129 n5 10 := gr_val g211 e190 s178 (by decide) rfl
  have e228 : if52 = G210 142 this 6 := gr_val g211 e191 s177 (by decide) rfl
  have e229 : tf54 = G210 129 n5 11 := gr_val g211 e192 s178 (by decide) rfl
  have e230 : tf54 = G210 142 this 7 := gr_val g211 e193 s177 (by decide) rfl
  have e231 : ef56 = G210 129 n5 12 := gr_val g211 e194 s178 (by decide) rfl
  have e232 : ef56 = G210 142 this 8 := gr_val g211 e195 s177 (by decide) rfl
  have e233 : pf58 = G210 129 n5 13 := gr_val g211 e196 s178 (by decide) rfl
  have e234 : pf58 = G210 142 this 9 := gr_val g211 e197 s177 (by decide) rfl
  have e235 : (Ad E 0) = G210 158 n62 1 := gr_val g211 e198 s184 (by decide) rfl
  have e236 : n62 = G210 142 this 10 := gr_val g211 e199 s177 (by decide) rfl
  have e237 : (Ad E 0) = G210 159 n132 1 := gr_val g211 e200 r173.1 (by decide) rfl
  have e238 : n132 = G210 142 this 11 := gr_val g211 h205 s177 (by decide) rfl
  have g239 : Gr [93, 94, 95, 96, 97, 98, 99, 105, 106, 107, 108, 109, 110, 111, 112, 113, 114, 115, 116, 117, 118, 129, 130, 131, 132, 134, 143, 144, 145, 146, 148, 153, 154, 155, 156, 157, 158, 159] [(142, 4), (142, 5), (142, 6), (142, 7), (142, 8), (142, 9), (142, 10), (142, 11), (142, 12), (142, 13), (142, 14), (142, 15), (142, 16), (142, 17), (142, 18), (143, 0), (143, 1), (143, 3), (143, 4), (143, 5), (143, 6), (143, 7), (143, 8), (143, 9), (143, 10), (143, 11), (143, 12), (143, 13), (143, 14), (143, 17), (143, 18), (143, 19), (144, 1), (144, 2), (144, 3), (144, 4), (144, 5), (144, 6), (144, 7), (144, 8), (144, 9), (144, 10), (144, 11), (144, 12), (144, 13), (144, 14), (144, 15), (144, 16), (144, 17), (145, 1), (145, 2), (145, 3), (145, 12), (145, 15), (145, 16), (146, 5), (146, 6), (146, 7), (146, 8), (146, 9), (146, 10), (146, 11), (146, 13), (146, 14), (146, 15), (146, 16), (148, 1), (148, 3), (148, 4), (148, 5), (153, 0), (153, 1)] S G S209 G210 := gr_call g207 g211 rfl rfl
  have u240 : UqL [159, 158, 129, 157, 156, 155, 154, 130] S209 := uq_gr u202 g211 rfl
  have u241 : No [128, 131, 132, 136, 138] S209 := no_gr (no_sub u204 rfl) g211 rfl
  have u242 : EmL E [159, 158, 157, 156, 155, 154] S209 G210 := em_gr u206 g211 rfl
  refine r_putFN hX hP rfl rfl fq_X11_51_142 s213 (by decide) (Or.inr n208l) (fun h243 => ?_)
  refine r_ex hX hP 1 (pc' := 106) (st' := [(2, this)]) (lo' := [(0, (2, this))]) rfl ?_
  have u244 : EmL E [159, 158, 157, 156, 155, 154] S209 (up G210 142 this 12 n208) := (em_up u242 rfl)
  have g245 : Gr [93, 94, 95, 96, 97, 98, 99, 105, 106, 107, 108, 109, 110, 111, 112, 113, 114, 115, 116, 117, 118, 129, 130, 131, 132, 134, 143, 144, 145, 146, 148, 153, 154, 155, 156, 157, 158, 159] [(142, 4), (142, 5), (142, 6), (142, 7), (142, 8), (142, 9), (142, 10), (142, 11), (142, 12), (142, 13), (142, 14), (142, 15), (142, 16), (142, 17), (142, 18), (143, 0), (143, 1), (143, 3), (143, 4), (143, 5), (143, 6), (143, 7), (143, 8), (143, 9), (143, 10), (143, 11), (143, 12), (143, 13), (143, 14), (143, 17), (143, 18), (143, 19), (144, 1), (144, 2), (144, 3), (144, 4), (144, 5), (144, 6), (144, 7), (144, 8), (144, 9), (144, 10), (144, 11), (144, 12), (144, 13), (144, 14), (144, 15), (144, 16), (144, 17), (145, 1), (145, 2), (145, 3), (145, 12), (145, 15), (145, 16), (146, 5), (146, 6), (146, 7), (146, 8), (146, 9), (146, 10), (146, 11), (146, 13), (146, 14), (146, 15), (146, 16), (148, 1), (148, 3), (148, 4), (148, 5), (153, 0), (153, 1)] S G S209 (up G210 142 this 12 n208) := (gr_up g239 rfl)
  refine r_newA hX hP rfl (L := 148) (N := 6) nw_X11_55_148 (by omega) (by omega) (fun n246 S247 G248 n246z n246n n246l g249 n246v => ?_)
  have z250 : S n246 = 0 := gr_zero g245 n246z
  have s251 : S247 this = 142 := gr_lab g249 s213 (by decide)
  have s252 : S247 n5 = 129 := gr_lab g249 s214 (by decide)
  have s253 : S247 ach19 = 130 := gr_lab g249 s215 (by decide)
  have s254 : S247 if52 = 154 := gr_lab g249 s216 (by decide)
  have s255 : S247 tf54 = 155 := gr_lab g249 s217 (by decide)
  have s256 : S247 ef56 = 156 := gr_lab g249 s218 (by decide)
  have s257 : S247 pf58 = 157 := gr_lab g249 s219 (by decide)
  have s258 : S247 n62 = 158 := gr_lab g249 s220 (by decide)
  have s259 : S247 n132 = 159 := gr_lab g249 s221 (by decide)
  have s260 : S247 n208 = 94 := gr_lab g249 n208l (by decide)
  have e261 : 1 = G248 142 this 4 := gr_val g249 e222 s213 (by decide) rfl
  have e262 : ach19 = G248 129 n5 9 := gr_val g249 e223 s214 (by decide) rfl
  have e263 : 0 = G248 130 ach19 0 := gr_val g249 e224 s215 (by decide) rfl
  have e264 : n5 = G248 142 this 17 := gr_val g249 e225 s213 (by decide) rfl
  have e265 : ach19 = G248 142 this 5 := gr_val g249 e226 s213 (by decide) rfl
  have e266 : if52 = G248 129 n5 10 := gr_val g249 e227 s214 (by decide) rfl
  have e267 : if52 = G248 142 this 6 := gr_val g249 e228 s213 (by decide) rfl
  have e268 : tf54 = G248 129 n5 11 := gr_val g249 e229 s214 (by decide) rfl
  have e269 : tf54 = G248 142 this 7 := gr_val g249 e230 s213 (by decide) rfl
  have e270 : ef56 = G248 129 n5 12 := gr_val g249 e231 s214 (by decide) rfl
  have e271 : ef56 = G248 142 this 8 := gr_val g249 e232 s213 (by decide) rfl
  have e272 : pf58 = G248 129 n5 13 := gr_val g249 e233 s214 (by decide) rfl
  have e273 : pf58 = G248 142 this 9 := gr_val g249 e234 s213 (by decide) rfl
  have e274 : (Ad E 0) = G248 158 n62 1 := gr_val g249 e235 s220 (by decide) rfl
  have e275 : n62 = G248 142 this 10 := gr_val g249 e236 s213 (by decide) rfl
  have e276 : (Ad E 0) = G248 159 n132 1 := gr_val g249 e237 s221 (by decide) rfl
  have e277 : n132 = G248 142 this 11 := gr_val g249 e238 s213 (by decide) rfl
  have e278 : n208 = G248 142 this 12 := gr_val g249 h243 s213 (by decide) rfl
  have g279 : Gr [93, 94, 95, 96, 97, 98, 99, 105, 106, 107, 108, 109, 110, 111, 112, 113, 114, 115, 116, 117, 118, 129, 130, 131, 132, 134, 143, 144, 145, 146, 148, 153, 154, 155, 156, 157, 158, 159] [(142, 4), (142, 5), (142, 6), (142, 7), (142, 8), (142, 9), (142, 10), (142, 11), (142, 12), (142, 13), (142, 14), (142, 15), (142, 16), (142, 17), (142, 18), (143, 0), (143, 1), (143, 3), (143, 4), (143, 5), (143, 6), (143, 7), (143, 8), (143, 9), (143, 10), (143, 11), (143, 12), (143, 13), (143, 14), (143, 17), (143, 18), (143, 19), (144, 1), (144, 2), (144, 3), (144, 4), (144, 5), (144, 6), (144, 7), (144, 8), (144, 9), (144, 10), (144, 11), (144, 12), (144, 13), (144, 14), (144, 15), (144, 16), (144, 17), (145, 1), (145, 2), (145, 3), (145, 12), (145, 15), (145, 16), (146, 5), (146, 6), (146, 7), (146, 8), (146, 9), (146, 10), (146, 11), (146, 13), (146, 14), (146, 15), (146, 16), (148, 1), (148, 3), (148, 4), (148, 5), (153, 0), (153, 1)] S G S247 G248 := gr_call g245 g249 rfl rfl
  have u280 : UqL [159, 158, 129, 157, 156, 155, 154, 130] S247 := uq_gr u240 g249 rfl
  have u281 : No [128, 131, 132, 136, 138] S247 := no_gr (no_sub u241 rfl) g249 rfl
  have u282 : EmL E [159, 158, 157, 156, 155, 154] S247 G248 := em_gr u244 g249 rfl
  refine r_ex hX hP 1 (pc' := 110) (st' := [(2, n246), (2, n246), (2, this)]) (lo' := [(0, (2, this))]) rfl ?_
  refine r_callIN gd hX hP rfl cn_X11_57 n246n (d' := 3) (mc' := 3) (ms' := 27) (as' := []) (st := [(2, n246), (2, this)]) (by omega) (by omega) (by omega) rfl rfl (Nat.le_of_ble_eq_true rfl) (c_X4_init E S247 G248 n246  n246l) ?_
  rintro _ S283 G284 ⟨g285, rfl, hf286⟩
  have s287 : S283 this = 142 := gr_lab g285 s251 (by decide)
  have s288 : S283 n5 = 129 := gr_lab g285 s252 (by decide)
  have s289 : S283 ach19 = 130 := gr_lab g285 s253 (by decide)
  have s290 : S283 if52 = 154 := gr_lab g285 s254 (by decide)
  have s291 : S283 tf54 = 155 := gr_lab g285 s255 (by decide)
  have s292 : S283 ef56 = 156 := gr_lab g285 s256 (by decide)
  have s293 : S283 pf58 = 157 := gr_lab g285 s257 (by decide)
  have s294 : S283 n62 = 158 := gr_lab g285 s258 (by decide)
  have s295 : S283 n132 = 159 := gr_lab g285 s259 (by decide)
  have s296 : S283 n208 = 94 := gr_lab g285 s260 (by decide)
  have s297 : S283 n246 = 148 := gr_lab g285 n246l (by decide)
  have e298 : 1 = G284 142 this 4 := gr_val g285 e261 s251 (by decide) rfl
  have e299 : ach19 = G284 129 n5 9 := gr_val g285 e262 s252 (by decide) rfl
  have e300 : 0 = G284 130 ach19 0 := gr_val g285 e263 s253 (by decide) rfl
  have e301 : n5 = G284 142 this 17 := gr_val g285 e264 s251 (by decide) rfl
  have e302 : ach19 = G284 142 this 5 := gr_val g285 e265 s251 (by decide) rfl
  have e303 : if52 = G284 129 n5 10 := gr_val g285 e266 s252 (by decide) rfl
  have e304 : if52 = G284 142 this 6 := gr_val g285 e267 s251 (by decide) rfl
  have e305 : tf54 = G284 129 n5 11 := gr_val g285 e268 s252 (by decide) rfl
  have e306 : tf54 = G284 142 this 7 := gr_val g285 e269 s251 (by decide) rfl
  have e307 : ef56 = G284 129 n5 12 := gr_val g285 e270 s252 (by decide) rfl
  have e308 : ef56 = G284 142 this 8 := gr_val g285 e271 s251 (by decide) rfl
  have e309 : pf58 = G284 129 n5 13 := gr_val g285 e272 s252 (by decide) rfl
  have e310 : pf58 = G284 142 this 9 := gr_val g285 e273 s251 (by decide) rfl
  have e311 : (Ad E 0) = G284 158 n62 1 := gr_val g285 e274 s258 (by decide) rfl
  have e312 : n62 = G284 142 this 10 := gr_val g285 e275 s251 (by decide) rfl
  have e313 : (Ad E 0) = G284 159 n132 1 := gr_val g285 e276 s259 (by decide) rfl
  have e314 : n132 = G284 142 this 11 := gr_val g285 e277 s251 (by decide) rfl
  have e315 : n208 = G284 142 this 12 := gr_val g285 e278 s251 (by decide) rfl
  have g316 : Gr [93, 94, 95, 96, 97, 98, 99, 105, 106, 107, 108, 109, 110, 111, 112, 113, 114, 115, 116, 117, 118, 129, 130, 131, 132, 134, 143, 144, 145, 146, 148, 153, 154, 155, 156, 157, 158, 159] [(142, 4), (142, 5), (142, 6), (142, 7), (142, 8), (142, 9), (142, 10), (142, 11), (142, 12), (142, 13), (142, 14), (142, 15), (142, 16), (142, 17), (142, 18), (143, 0), (143, 1), (143, 3), (143, 4), (143, 5), (143, 6), (143, 7), (143, 8), (143, 9), (143, 10), (143, 11), (143, 12), (143, 13), (143, 14), (143, 17), (143, 18), (143, 19), (144, 1), (144, 2), (144, 3), (144, 4), (144, 5), (144, 6), (144, 7), (144, 8), (144, 9), (144, 10), (144, 11), (144, 12), (144, 13), (144, 14), (144, 15), (144, 16), (144, 17), (145, 1), (145, 2), (145, 3), (145, 12), (145, 15), (145, 16), (146, 5), (146, 6), (146, 7), (146, 8), (146, 9), (146, 10), (146, 11), (146, 13), (146, 14), (146, 15), (146, 16), (148, 1), (148, 3), (148, 4), (148, 5), (153, 0), (153, 1)] S G S283 G284 := gr_call g279 g285 rfl rfl
  have u317 : UqL [159, 158, 129, 157, 156, 155, 154, 130] S283 := uq_gr u280 g285 rfl
  have u318 : No [128, 131, 132, 136, 138] S283 := no_gr (no_sub u281 rfl) g285 rfl
  have u319 : EmL E [159, 158, 157, 156, 155, 154] S283 G284 := em_gr u282 g285 rfl
  refine r_finA hX (L := 148) (ci := 5) (fs := fs_148) rfl s297 (by decide) (fun hr320 => ?_)
  refine r_relabF hX (L := 148) (L' := 134) (ci := 5) (fs := fs_148) (fs' := fs_134) rfl rfl rfl (by decide) (by decide) nf_148 (by decide) s297 hf286 (fun S323 G324 r322 => ?_)
  have s326 : S323 this = 142 := r322.lab s297 s287 (by decide)
  have s327 : S323 n5 = 129 := r322.lab s297 s288 (by decide)
  have s328 : S323 ach19 = 130 := r322.lab s297 s289 (by decide)
  have s329 : S323 if52 = 154 := r322.lab s297 s290 (by decide)
  have s330 : S323 tf54 = 155 := r322.lab s297 s291 (by decide)
  have s331 : S323 ef56 = 156 := r322.lab s297 s292 (by decide)
  have s332 : S323 pf58 = 157 := r322.lab s297 s293 (by decide)
  have s333 : S323 n62 = 158 := r322.lab s297 s294 (by decide)
  have s334 : S323 n132 = 159 := r322.lab s297 s295 (by decide)
  have s335 : S323 n208 = 94 := r322.lab s297 s296 (by decide)
  have e336 : 1 = G324 142 this 4 := rs_val r322 s297 e298 s287 (by decide)
  have e337 : ach19 = G324 129 n5 9 := rs_val r322 s297 e299 s288 (by decide)
  have e338 : 0 = G324 130 ach19 0 := rs_val r322 s297 e300 s289 (by decide)
  have e339 : n5 = G324 142 this 17 := rs_val r322 s297 e301 s287 (by decide)
  have e340 : ach19 = G324 142 this 5 := rs_val r322 s297 e302 s287 (by decide)
  have e341 : if52 = G324 129 n5 10 := rs_val r322 s297 e303 s288 (by decide)
  have e342 : if52 = G324 142 this 6 := rs_val r322 s297 e304 s287 (by decide)
  have e343 : tf54 = G324 129 n5 11 := rs_val r322 s297 e305 s288 (by decide)
  have e344 : tf54 = G324 142 this 7 := rs_val r322 s297 e306 s287 (by decide)
  have e345 : ef56 = G324 129 n5 12 := rs_val r322 s297 e307 s288 (by decide)
  have e346 : ef56 = G324 142 this 8 := rs_val r322 s297 e308 s287 (by decide)
  have e347 : pf58 = G324 129 n5 13 := rs_val r322 s297 e309 s288 (by decide)
  have e348 : pf58 = G324 142 this 9 := rs_val r322 s297 e310 s287 (by decide)
  have e349 : (Ad E 0) = G324 158 n62 1 := rs_val r322 s297 e311 s294 (by decide)
  have e350 : n62 = G324 142 this 10 := rs_val r322 s297 e312 s287 (by decide)
  have e351 : (Ad E 0) = G324 159 n132 1 := rs_val r322 s297 e313 s295 (by decide)
  have e352 : n132 = G324 142 this 11 := rs_val r322 s297 e314 s287 (by decide)
  have e353 : n208 = G324 142 this 12 := rs_val r322 s297 e315 s287 (by decide)
  have g354 : Gr [93, 94, 95, 96, 97, 98, 99, 105, 106, 107, 108, 109, 110, 111, 112, 113, 114, 115, 116, 117, 118, 129, 130, 131, 132, 134, 143, 144, 145, 146, 148, 153, 154, 155, 156, 157, 158, 159] [(142, 4), (142, 5), (142, 6), (142, 7), (142, 8), (142, 9), (142, 10), (142, 11), (142, 12), (142, 13), (142, 14), (142, 15), (142, 16), (142, 17), (142, 18), (143, 0), (143, 1), (143, 3), (143, 4), (143, 5), (143, 6), (143, 7), (143, 8), (143, 9), (143, 10), (143, 11), (143, 12), (143, 13), (143, 14), (143, 17), (143, 18), (143, 19), (144, 1), (144, 2), (144, 3), (144, 4), (144, 5), (144, 6), (144, 7), (144, 8), (144, 9), (144, 10), (144, 11), (144, 12), (144, 13), (144, 14), (144, 15), (144, 16), (144, 17), (145, 1), (145, 2), (145, 3), (145, 12), (145, 15), (145, 16), (146, 5), (146, 6), (146, 7), (146, 8), (146, 9), (146, 10), (146, 11), (146, 13), (146, 14), (146, 15), (146, 16), (148, 1), (148, 3), (148, 4), (148, 5), (153, 0), (153, 1)] S G S323 G324 := gr_rs g316 r322 z250 rfl
  have u355 : UqL [159, 158, 129, 157, 156, 155, 154, 130] S323 := uq_rsN u317 r322 rfl
  have u356 : EmL E [159, 158, 157, 156, 155, 154] S323 G324 := em_rsN u319 r322 rfl
  have u357 : No [128, 131, 132, 136, 138] S323 := no_rs u318 r322 rfl
  refine r_putFN hX hP rfl rfl fq_X11_58_142 s326 (by decide) (Or.inr r322.1) (fun h358 => ?_)
  refine r_ex hX hP 1 (pc' := 117) (st' := [(2, this)]) (lo' := [(0, (2, this))]) rfl ?_
  have u359 : EmL E [159, 158, 157, 156, 155, 154] S323 (up G324 142 this 13 n246) := (em_up u356 rfl)
  have g360 : Gr [93, 94, 95, 96, 97, 98, 99, 105, 106, 107, 108, 109, 110, 111, 112, 113, 114, 115, 116, 117, 118, 129, 130, 131, 132, 134, 143, 144, 145, 146, 148, 153, 154, 155, 156, 157, 158, 159] [(142, 4), (142, 5), (142, 6), (142, 7), (142, 8), (142, 9), (142, 10), (142, 11), (142, 12), (142, 13), (142, 14), (142, 15), (142, 16), (142, 17), (142, 18), (143, 0), (143, 1), (143, 3), (143, 4), (143, 5), (143, 6), (143, 7), (143, 8), (143, 9), (143, 10), (143, 11), (143, 12), (143, 13), (143, 14), (143, 17), (143, 18), (143, 19), (144, 1), (144, 2), (144, 3), (144, 4), (144, 5), (144, 6), (144, 7), (144, 8), (144, 9), (144, 10), (144, 11), (144, 12), (144, 13), (144, 14), (144, 15), (144, 16), (144, 17), (145, 1), (145, 2), (145, 3), (145, 12), (145, 15), (145, 16), (146, 5), (146, 6), (146, 7), (146, 8), (146, 9), (146, 10), (146, 11), (146, 13), (146, 14), (146, 15), (146, 16), (148, 1), (148, 3), (148, 4), (148, 5), (153, 0), (153, 1)] S G S323 (up G324 142 this 13 n246) := (gr_up g354 rfl)
  refine r_newA hX hP rfl (L := 148) (N := 6) nw_X11_55_148 (by omega) (by omega) (fun n361 S362 G363 n361z n361n n361l g364 n361v => ?_)
  have z365 : S n361 = 0 := gr_zero g360 n361z
  have s366 : S362 this = 142 := gr_lab g364 s326 (by decide)
  have s367 : S362 n5 = 129 := gr_lab g364 s327 (by decide)
  have s368 : S362 ach19 = 130 := gr_lab g364 s328 (by decide)
  have s369 : S362 if52 = 154 := gr_lab g364 s329 (by decide)
  have s370 : S362 tf54 = 155 := gr_lab g364 s330 (by decide)
  have s371 : S362 ef56 = 156 := gr_lab g364 s331 (by decide)
  have s372 : S362 pf58 = 157 := gr_lab g364 s332 (by decide)
  have s373 : S362 n62 = 158 := gr_lab g364 s333 (by decide)
  have s374 : S362 n132 = 159 := gr_lab g364 s334 (by decide)
  have s375 : S362 n208 = 94 := gr_lab g364 s335 (by decide)
  have s376 : S362 n246 = 134 := gr_lab g364 r322.1 (by decide)
  have e377 : 1 = G363 142 this 4 := gr_val g364 e336 s326 (by decide) rfl
  have e378 : ach19 = G363 129 n5 9 := gr_val g364 e337 s327 (by decide) rfl
  have e379 : 0 = G363 130 ach19 0 := gr_val g364 e338 s328 (by decide) rfl
  have e380 : n5 = G363 142 this 17 := gr_val g364 e339 s326 (by decide) rfl
  have e381 : ach19 = G363 142 this 5 := gr_val g364 e340 s326 (by decide) rfl
  have e382 : if52 = G363 129 n5 10 := gr_val g364 e341 s327 (by decide) rfl
  have e383 : if52 = G363 142 this 6 := gr_val g364 e342 s326 (by decide) rfl
  have e384 : tf54 = G363 129 n5 11 := gr_val g364 e343 s327 (by decide) rfl
  have e385 : tf54 = G363 142 this 7 := gr_val g364 e344 s326 (by decide) rfl
  have e386 : ef56 = G363 129 n5 12 := gr_val g364 e345 s327 (by decide) rfl
  have e387 : ef56 = G363 142 this 8 := gr_val g364 e346 s326 (by decide) rfl
  have e388 : pf58 = G363 129 n5 13 := gr_val g364 e347 s327 (by decide) rfl
  have e389 : pf58 = G363 142 this 9 := gr_val g364 e348 s326 (by decide) rfl
  have e390 : (Ad E 0) = G363 158 n62 1 := gr_val g364 e349 s333 (by decide) rfl
  have e391 : n62 = G363 142 this 10 := gr_val g364 e350 s326 (by decide) rfl
  have e392 : (Ad E 0) = G363 159 n132 1 := gr_val g364 e351 s334 (by decide) rfl
  have e393 : n132 = G363 142 this 11 := gr_val g364 e352 s326 (by decide) rfl
  have e394 : n208 = G363 142 this 12 := gr_val g364 e353 s326 (by decide) rfl
  have e395 : n246 = G363 142 this 13 := gr_val g364 h358 s326 (by decide) rfl
  have g396 : Gr [93, 94, 95, 96, 97, 98, 99, 105, 106, 107, 108, 109, 110, 111, 112, 113, 114, 115, 116, 117, 118, 129, 130, 131, 132, 134, 143, 144, 145, 146, 148, 153, 154, 155, 156, 157, 158, 159] [(142, 4), (142, 5), (142, 6), (142, 7), (142, 8), (142, 9), (142, 10), (142, 11), (142, 12), (142, 13), (142, 14), (142, 15), (142, 16), (142, 17), (142, 18), (143, 0), (143, 1), (143, 3), (143, 4), (143, 5), (143, 6), (143, 7), (143, 8), (143, 9), (143, 10), (143, 11), (143, 12), (143, 13), (143, 14), (143, 17), (143, 18), (143, 19), (144, 1), (144, 2), (144, 3), (144, 4), (144, 5), (144, 6), (144, 7), (144, 8), (144, 9), (144, 10), (144, 11), (144, 12), (144, 13), (144, 14), (144, 15), (144, 16), (144, 17), (145, 1), (145, 2), (145, 3), (145, 12), (145, 15), (145, 16), (146, 5), (146, 6), (146, 7), (146, 8), (146, 9), (146, 10), (146, 11), (146, 13), (146, 14), (146, 15), (146, 16), (148, 1), (148, 3), (148, 4), (148, 5), (153, 0), (153, 1)] S G S362 G363 := gr_call g360 g364 rfl rfl
  have u397 : UqL [159, 158, 129, 157, 156, 155, 154, 130] S362 := uq_gr u355 g364 rfl
  have u398 : No [128, 131, 132, 136, 138] S362 := no_gr (no_sub u357 rfl) g364 rfl
  have u399 : EmL E [159, 158, 157, 156, 155, 154] S362 G363 := em_gr u359 g364 rfl
  refine r_ex hX hP 1 (pc' := 121) (st' := [(2, n361), (2, n361), (2, this)]) (lo' := [(0, (2, this))]) rfl ?_
  refine r_callIN gd hX hP rfl cn_X11_57 n361n (d' := 3) (mc' := 3) (ms' := 27) (as' := []) (st := [(2, n361), (2, this)]) (by omega) (by omega) (by omega) rfl rfl (Nat.le_of_ble_eq_true rfl) (c_X4_init E S362 G363 n361  n361l) ?_
  rintro _ S400 G401 ⟨g402, rfl, hf403⟩
  have s404 : S400 this = 142 := gr_lab g402 s366 (by decide)
  have s405 : S400 n5 = 129 := gr_lab g402 s367 (by decide)
  have s406 : S400 ach19 = 130 := gr_lab g402 s368 (by decide)
  have s407 : S400 if52 = 154 := gr_lab g402 s369 (by decide)
  have s408 : S400 tf54 = 155 := gr_lab g402 s370 (by decide)
  have s409 : S400 ef56 = 156 := gr_lab g402 s371 (by decide)
  have s410 : S400 pf58 = 157 := gr_lab g402 s372 (by decide)
  have s411 : S400 n62 = 158 := gr_lab g402 s373 (by decide)
  have s412 : S400 n132 = 159 := gr_lab g402 s374 (by decide)
  have s413 : S400 n208 = 94 := gr_lab g402 s375 (by decide)
  have s414 : S400 n246 = 134 := gr_lab g402 s376 (by decide)
  have s415 : S400 n361 = 148 := gr_lab g402 n361l (by decide)
  have e416 : 1 = G401 142 this 4 := gr_val g402 e377 s366 (by decide) rfl
  have e417 : ach19 = G401 129 n5 9 := gr_val g402 e378 s367 (by decide) rfl
  have e418 : 0 = G401 130 ach19 0 := gr_val g402 e379 s368 (by decide) rfl
  have e419 : n5 = G401 142 this 17 := gr_val g402 e380 s366 (by decide) rfl
  have e420 : ach19 = G401 142 this 5 := gr_val g402 e381 s366 (by decide) rfl
  have e421 : if52 = G401 129 n5 10 := gr_val g402 e382 s367 (by decide) rfl
  have e422 : if52 = G401 142 this 6 := gr_val g402 e383 s366 (by decide) rfl
  have e423 : tf54 = G401 129 n5 11 := gr_val g402 e384 s367 (by decide) rfl
  have e424 : tf54 = G401 142 this 7 := gr_val g402 e385 s366 (by decide) rfl
  have e425 : ef56 = G401 129 n5 12 := gr_val g402 e386 s367 (by decide) rfl
  have e426 : ef56 = G401 142 this 8 := gr_val g402 e387 s366 (by decide) rfl
  have e427 : pf58 = G401 129 n5 13 := gr_val g402 e388 s367 (by decide) rfl
  have e428 : pf58 = G401 142 this 9 := gr_val g402 e389 s366 (by decide) rfl
  have e429 : (Ad E 0) = G401 158 n62 1 := gr_val g402 e390 s373 (by decide) rfl
  have e430 : n62 = G401 142 this 10 := gr_val g402 e391 s366 (by decide) rfl
  have e431 : (Ad E 0) = G401 159 n132 1 := gr_val g402 e392 s374 (by decide) rfl
  have e432 : n132 = G401 142 this 11 := gr_val g402 e393 s366 (by decide) rfl
  have e433 : n208 = G401 142 this 12 := gr_val g402 e394 s366 (by decide) rfl
  have e434 : n246 = G401 142 this 13 := gr_val g402 e395 s366 (by decide) rfl
  have g435 : Gr [93, 94, 95, 96, 97, 98, 99, 105, 106, 107, 108, 109, 110, 111, 112, 113, 114, 115, 116, 117, 118, 129, 130, 131, 132, 134, 143, 144, 145, 146, 148, 153, 154, 155, 156, 157, 158, 159] [(142, 4), (142, 5), (142, 6), (142, 7), (142, 8), (142, 9), (142, 10), (142, 11), (142, 12), (142, 13), (142, 14), (142, 15), (142, 16), (142, 17), (142, 18), (143, 0), (143, 1), (143, 3), (143, 4), (143, 5), (143, 6), (143, 7), (143, 8), (143, 9), (143, 10), (143, 11), (143, 12), (143, 13), (143, 14), (143, 17), (143, 18), (143, 19), (144, 1), (144, 2), (144, 3), (144, 4), (144, 5), (144, 6), (144, 7), (144, 8), (144, 9), (144, 10), (144, 11), (144, 12), (144, 13), (144, 14), (144, 15), (144, 16), (144, 17), (145, 1), (145, 2), (145, 3), (145, 12), (145, 15), (145, 16), (146, 5), (146, 6), (146, 7), (146, 8), (146, 9), (146, 10), (146, 11), (146, 13), (146, 14), (146, 15), (146, 16), (148, 1), (148, 3), (148, 4), (148, 5), (153, 0), (153, 1)] S G S400 G401 := gr_call g396 g402 rfl rfl
  have u436 : UqL [159, 158, 129, 157, 156, 155, 154, 130] S400 := uq_gr u397 g402 rfl
  have u437 : No [128, 131, 132, 136, 138] S400 := no_gr (no_sub u398 rfl) g402 rfl
  have u438 : EmL E [159, 158, 157, 156, 155, 154] S400 G401 := em_gr u399 g402 rfl
  refine r_finA hX (L := 148) (ci := 5) (fs := fs_148) rfl s415 (by decide) (fun hr439 => ?_)
  refine r_relabF hX (L := 148) (L' := 134) (ci := 5) (fs := fs_148) (fs' := fs_134) rfl rfl rfl (by decide) (by decide) nf_148 (by decide) s415 hf403 (fun S442 G443 r441 => ?_)
  have s445 : S442 this = 142 := r441.lab s415 s404 (by decide)
  have s446 : S442 n5 = 129 := r441.lab s415 s405 (by decide)
  have s447 : S442 ach19 = 130 := r441.lab s415 s406 (by decide)
  have s448 : S442 if52 = 154 := r441.lab s415 s407 (by decide)
  have s449 : S442 tf54 = 155 := r441.lab s415 s408 (by decide)
  have s450 : S442 ef56 = 156 := r441.lab s415 s409 (by decide)
  have s451 : S442 pf58 = 157 := r441.lab s415 s410 (by decide)
  have s452 : S442 n62 = 158 := r441.lab s415 s411 (by decide)
  have s453 : S442 n132 = 159 := r441.lab s415 s412 (by decide)
  have s454 : S442 n208 = 94 := r441.lab s415 s413 (by decide)
  have s455 : S442 n246 = 134 := r441.lab s415 s414 (by decide)
  have e456 : 1 = G443 142 this 4 := rs_val r441 s415 e416 s404 (by decide)
  have e457 : ach19 = G443 129 n5 9 := rs_val r441 s415 e417 s405 (by decide)
  have e458 : 0 = G443 130 ach19 0 := rs_val r441 s415 e418 s406 (by decide)
  have e459 : n5 = G443 142 this 17 := rs_val r441 s415 e419 s404 (by decide)
  have e460 : ach19 = G443 142 this 5 := rs_val r441 s415 e420 s404 (by decide)
  have e461 : if52 = G443 129 n5 10 := rs_val r441 s415 e421 s405 (by decide)
  have e462 : if52 = G443 142 this 6 := rs_val r441 s415 e422 s404 (by decide)
  have e463 : tf54 = G443 129 n5 11 := rs_val r441 s415 e423 s405 (by decide)
  have e464 : tf54 = G443 142 this 7 := rs_val r441 s415 e424 s404 (by decide)
  have e465 : ef56 = G443 129 n5 12 := rs_val r441 s415 e425 s405 (by decide)
  have e466 : ef56 = G443 142 this 8 := rs_val r441 s415 e426 s404 (by decide)
  have e467 : pf58 = G443 129 n5 13 := rs_val r441 s415 e427 s405 (by decide)
  have e468 : pf58 = G443 142 this 9 := rs_val r441 s415 e428 s404 (by decide)
  have e469 : (Ad E 0) = G443 158 n62 1 := rs_val r441 s415 e429 s411 (by decide)
  have e470 : n62 = G443 142 this 10 := rs_val r441 s415 e430 s404 (by decide)
  have e471 : (Ad E 0) = G443 159 n132 1 := rs_val r441 s415 e431 s412 (by decide)
  have e472 : n132 = G443 142 this 11 := rs_val r441 s415 e432 s404 (by decide)
  have e473 : n208 = G443 142 this 12 := rs_val r441 s415 e433 s404 (by decide)
  have e474 : n246 = G443 142 this 13 := rs_val r441 s415 e434 s404 (by decide)
  have g475 : Gr [93, 94, 95, 96, 97, 98, 99, 105, 106, 107, 108, 109, 110, 111, 112, 113, 114, 115, 116, 117, 118, 129, 130, 131, 132, 134, 143, 144, 145, 146, 148, 153, 154, 155, 156, 157, 158, 159] [(142, 4), (142, 5), (142, 6), (142, 7), (142, 8), (142, 9), (142, 10), (142, 11), (142, 12), (142, 13), (142, 14), (142, 15), (142, 16), (142, 17), (142, 18), (143, 0), (143, 1), (143, 3), (143, 4), (143, 5), (143, 6), (143, 7), (143, 8), (143, 9), (143, 10), (143, 11), (143, 12), (143, 13), (143, 14), (143, 17), (143, 18), (143, 19), (144, 1), (144, 2), (144, 3), (144, 4), (144, 5), (144, 6), (144, 7), (144, 8), (144, 9), (144, 10), (144, 11), (144, 12), (144, 13), (144, 14), (144, 15), (144, 16), (144, 17), (145, 1), (145, 2), (145, 3), (145, 12), (145, 15), (145, 16), (146, 5), (146, 6), (146, 7), (146, 8), (146, 9), (146, 10), (146, 11), (146, 13), (146, 14), (146, 15), (146, 16), (148, 1), (148, 3), (148, 4), (148, 5), (153, 0), (153, 1)] S G S442 G443 := gr_rs g435 r441 z365 rfl
  have u476 : UqL [159, 158, 129, 157, 156, 155, 154, 130] S442 := uq_rsN u436 r441 rfl
  have u477 : EmL E [159, 158, 157, 156, 155, 154] S442 G443 := em_rsN u438 r441 rfl
  have u478 : No [128, 131, 132, 136, 138] S442 := no_rs u437 r441 rfl
  refine r_putFN hX hP rfl rfl fq_X11_62_142 s445 (by decide) (Or.inr r441.1) (fun h479 => ?_)
  refine r_ex hX hP 1 (pc' := 128) (st' := [(2, this)]) (lo' := [(0, (2, this))]) rfl ?_
  have u480 : EmL E [159, 158, 157, 156, 155, 154] S442 (up G443 142 this 14 n361) := (em_up u477 rfl)
  have g481 : Gr [93, 94, 95, 96, 97, 98, 99, 105, 106, 107, 108, 109, 110, 111, 112, 113, 114, 115, 116, 117, 118, 129, 130, 131, 132, 134, 143, 144, 145, 146, 148, 153, 154, 155, 156, 157, 158, 159] [(142, 4), (142, 5), (142, 6), (142, 7), (142, 8), (142, 9), (142, 10), (142, 11), (142, 12), (142, 13), (142, 14), (142, 15), (142, 16), (142, 17), (142, 18), (143, 0), (143, 1), (143, 3), (143, 4), (143, 5), (143, 6), (143, 7), (143, 8), (143, 9), (143, 10), (143, 11), (143, 12), (143, 13), (143, 14), (143, 17), (143, 18), (143, 19), (144, 1), (144, 2), (144, 3), (144, 4), (144, 5), (144, 6), (144, 7), (144, 8), (144, 9), (144, 10), (144, 11), (144, 12), (144, 13), (144, 14), (144, 15), (144, 16), (144, 17), (145, 1), (145, 2), (145, 3), (145, 12), (145, 15), (145, 16), (146, 5), (146, 6), (146, 7), (146, 8), (146, 9), (146, 10), (146, 11), (146, 13), (146, 14), (146, 15), (146, 16), (148, 1), (148, 3), (148, 4), (148, 5), (153, 0), (153, 1)] S G S442 (up G443 142 this 14 n361) := (gr_up g475 rfl)
  refine r_newA hX hP rfl (L := 148) (N := 6) nw_X11_55_148 (by omega) (by omega) (fun n482 S483 G484 n482z n482n n482l g485 n482v => ?_)
  have z486 : S n482 = 0 := gr_zero g481 n482z
  have s487 : S483 this = 142 := gr_lab g485 s445 (by decide)
  have s488 : S483 n5 = 129 := gr_lab g485 s446 (by decide)
  have s489 : S483 ach19 = 130 := gr_lab g485 s447 (by decide)
  have s490 : S483 if52 = 154 := gr_lab g485 s448 (by decide)
  have s491 : S483 tf54 = 155 := gr_lab g485 s449 (by decide)
  have s492 : S483 ef56 = 156 := gr_lab g485 s450 (by decide)
  have s493 : S483 pf58 = 157 := gr_lab g485 s451 (by decide)
  have s494 : S483 n62 = 158 := gr_lab g485 s452 (by decide)
  have s495 : S483 n132 = 159 := gr_lab g485 s453 (by decide)
  have s496 : S483 n208 = 94 := gr_lab g485 s454 (by decide)
  have s497 : S483 n246 = 134 := gr_lab g485 s455 (by decide)
  have s498 : S483 n361 = 134 := gr_lab g485 r441.1 (by decide)
  have e499 : 1 = G484 142 this 4 := gr_val g485 e456 s445 (by decide) rfl
  have e500 : ach19 = G484 129 n5 9 := gr_val g485 e457 s446 (by decide) rfl
  have e501 : 0 = G484 130 ach19 0 := gr_val g485 e458 s447 (by decide) rfl
  have e502 : n5 = G484 142 this 17 := gr_val g485 e459 s445 (by decide) rfl
  have e503 : ach19 = G484 142 this 5 := gr_val g485 e460 s445 (by decide) rfl
  have e504 : if52 = G484 129 n5 10 := gr_val g485 e461 s446 (by decide) rfl
  have e505 : if52 = G484 142 this 6 := gr_val g485 e462 s445 (by decide) rfl
  have e506 : tf54 = G484 129 n5 11 := gr_val g485 e463 s446 (by decide) rfl
  have e507 : tf54 = G484 142 this 7 := gr_val g485 e464 s445 (by decide) rfl
  have e508 : ef56 = G484 129 n5 12 := gr_val g485 e465 s446 (by decide) rfl
  have e509 : ef56 = G484 142 this 8 := gr_val g485 e466 s445 (by decide) rfl
  have e510 : pf58 = G484 129 n5 13 := gr_val g485 e467 s446 (by decide) rfl
  have e511 : pf58 = G484 142 this 9 := gr_val g485 e468 s445 (by decide) rfl
  have e512 : (Ad E 0) = G484 158 n62 1 := gr_val g485 e469 s452 (by decide) rfl
  have e513 : n62 = G484 142 this 10 := gr_val g485 e470 s445 (by decide) rfl
  have e514 : (Ad E 0) = G484 159 n132 1 := gr_val g485 e471 s453 (by decide) rfl
  have e515 : n132 = G484 142 this 11 := gr_val g485 e472 s445 (by decide) rfl
  have e516 : n208 = G484 142 this 12 := gr_val g485 e473 s445 (by decide) rfl
  have e517 : n246 = G484 142 this 13 := gr_val g485 e474 s445 (by decide) rfl
  have e518 : n361 = G484 142 this 14 := gr_val g485 h479 s445 (by decide) rfl
  have g519 : Gr [93, 94, 95, 96, 97, 98, 99, 105, 106, 107, 108, 109, 110, 111, 112, 113, 114, 115, 116, 117, 118, 129, 130, 131, 132, 134, 143, 144, 145, 146, 148, 153, 154, 155, 156, 157, 158, 159] [(142, 4), (142, 5), (142, 6), (142, 7), (142, 8), (142, 9), (142, 10), (142, 11), (142, 12), (142, 13), (142, 14), (142, 15), (142, 16), (142, 17), (142, 18), (143, 0), (143, 1), (143, 3), (143, 4), (143, 5), (143, 6), (143, 7), (143, 8), (143, 9), (143, 10), (143, 11), (143, 12), (143, 13), (143, 14), (143, 17), (143, 18), (143, 19), (144, 1), (144, 2), (144, 3), (144, 4), (144, 5), (144, 6), (144, 7), (144, 8), (144, 9), (144, 10), (144, 11), (144, 12), (144, 13), (144, 14), (144, 15), (144, 16), (144, 17), (145, 1), (145, 2), (145, 3), (145, 12), (145, 15), (145, 16), (146, 5), (146, 6), (146, 7), (146, 8), (146, 9), (146, 10), (146, 11), (146, 13), (146, 14), (146, 15), (146, 16), (148, 1), (148, 3), (148, 4), (148, 5), (153, 0), (153, 1)] S G S483 G484 := gr_call g481 g485 rfl rfl
  have u520 : UqL [159, 158, 129, 157, 156, 155, 154, 130] S483 := uq_gr u476 g485 rfl
  have u521 : No [128, 131, 132, 136, 138] S483 := no_gr (no_sub u478 rfl) g485 rfl
  have u522 : EmL E [159, 158, 157, 156, 155, 154] S483 G484 := em_gr u480 g485 rfl
  refine r_ex hX hP 1 (pc' := 132) (st' := [(2, n482), (2, n482), (2, this)]) (lo' := [(0, (2, this))]) rfl ?_
  refine r_callIN gd hX hP rfl cn_X11_57 n482n (d' := 3) (mc' := 3) (ms' := 27) (as' := []) (st := [(2, n482), (2, this)]) (by omega) (by omega) (by omega) rfl rfl (Nat.le_of_ble_eq_true rfl) (c_X4_init E S483 G484 n482  n482l) ?_
  rintro _ S523 G524 ⟨g525, rfl, hf526⟩
  have s527 : S523 this = 142 := gr_lab g525 s487 (by decide)
  have s528 : S523 n5 = 129 := gr_lab g525 s488 (by decide)
  have s529 : S523 ach19 = 130 := gr_lab g525 s489 (by decide)
  have s530 : S523 if52 = 154 := gr_lab g525 s490 (by decide)
  have s531 : S523 tf54 = 155 := gr_lab g525 s491 (by decide)
  have s532 : S523 ef56 = 156 := gr_lab g525 s492 (by decide)
  have s533 : S523 pf58 = 157 := gr_lab g525 s493 (by decide)
  have s534 : S523 n62 = 158 := gr_lab g525 s494 (by decide)
  have s535 : S523 n132 = 159 := gr_lab g525 s495 (by decide)
  have s536 : S523 n208 = 94 := gr_lab g525 s496 (by decide)
  have s537 : S523 n246 = 134 := gr_lab g525 s497 (by decide)
  have s538 : S523 n361 = 134 := gr_lab g525 s498 (by decide)
  have s539 : S523 n482 = 148 := gr_lab g525 n482l (by decide)
  have e540 : 1 = G524 142 this 4 := gr_val g525 e499 s487 (by decide) rfl
  have e541 : ach19 = G524 129 n5 9 := gr_val g525 e500 s488 (by decide) rfl
  have e542 : 0 = G524 130 ach19 0 := gr_val g525 e501 s489 (by decide) rfl
  have e543 : n5 = G524 142 this 17 := gr_val g525 e502 s487 (by decide) rfl
  have e544 : ach19 = G524 142 this 5 := gr_val g525 e503 s487 (by decide) rfl
  have e545 : if52 = G524 129 n5 10 := gr_val g525 e504 s488 (by decide) rfl
  have e546 : if52 = G524 142 this 6 := gr_val g525 e505 s487 (by decide) rfl
  have e547 : tf54 = G524 129 n5 11 := gr_val g525 e506 s488 (by decide) rfl
  have e548 : tf54 = G524 142 this 7 := gr_val g525 e507 s487 (by decide) rfl
  have e549 : ef56 = G524 129 n5 12 := gr_val g525 e508 s488 (by decide) rfl
  have e550 : ef56 = G524 142 this 8 := gr_val g525 e509 s487 (by decide) rfl
  have e551 : pf58 = G524 129 n5 13 := gr_val g525 e510 s488 (by decide) rfl
  have e552 : pf58 = G524 142 this 9 := gr_val g525 e511 s487 (by decide) rfl
  have e553 : (Ad E 0) = G524 158 n62 1 := gr_val g525 e512 s494 (by decide) rfl
  have e554 : n62 = G524 142 this 10 := gr_val g525 e513 s487 (by decide) rfl
  have e555 : (Ad E 0) = G524 159 n132 1 := gr_val g525 e514 s495 (by decide) rfl
  have e556 : n132 = G524 142 this 11 := gr_val g525 e515 s487 (by decide) rfl
  have e557 : n208 = G524 142 this 12 := gr_val g525 e516 s487 (by decide) rfl
  have e558 : n246 = G524 142 this 13 := gr_val g525 e517 s487 (by decide) rfl
  have e559 : n361 = G524 142 this 14 := gr_val g525 e518 s487 (by decide) rfl
  have g560 : Gr [93, 94, 95, 96, 97, 98, 99, 105, 106, 107, 108, 109, 110, 111, 112, 113, 114, 115, 116, 117, 118, 129, 130, 131, 132, 134, 143, 144, 145, 146, 148, 153, 154, 155, 156, 157, 158, 159] [(142, 4), (142, 5), (142, 6), (142, 7), (142, 8), (142, 9), (142, 10), (142, 11), (142, 12), (142, 13), (142, 14), (142, 15), (142, 16), (142, 17), (142, 18), (143, 0), (143, 1), (143, 3), (143, 4), (143, 5), (143, 6), (143, 7), (143, 8), (143, 9), (143, 10), (143, 11), (143, 12), (143, 13), (143, 14), (143, 17), (143, 18), (143, 19), (144, 1), (144, 2), (144, 3), (144, 4), (144, 5), (144, 6), (144, 7), (144, 8), (144, 9), (144, 10), (144, 11), (144, 12), (144, 13), (144, 14), (144, 15), (144, 16), (144, 17), (145, 1), (145, 2), (145, 3), (145, 12), (145, 15), (145, 16), (146, 5), (146, 6), (146, 7), (146, 8), (146, 9), (146, 10), (146, 11), (146, 13), (146, 14), (146, 15), (146, 16), (148, 1), (148, 3), (148, 4), (148, 5), (153, 0), (153, 1)] S G S523 G524 := gr_call g519 g525 rfl rfl
  have u561 : UqL [159, 158, 129, 157, 156, 155, 154, 130] S523 := uq_gr u520 g525 rfl
  have u562 : No [128, 131, 132, 136, 138] S523 := no_gr (no_sub u521 rfl) g525 rfl
  have u563 : EmL E [159, 158, 157, 156, 155, 154] S523 G524 := em_gr u522 g525 rfl
  refine r_finA hX (L := 148) (ci := 5) (fs := fs_148) rfl s539 (by decide) (fun hr564 => ?_)
  refine r_relabF hX (L := 148) (L' := 134) (ci := 5) (fs := fs_148) (fs' := fs_134) rfl rfl rfl (by decide) (by decide) nf_148 (by decide) s539 hf526 (fun S567 G568 r566 => ?_)
  have s570 : S567 this = 142 := r566.lab s539 s527 (by decide)
  have s571 : S567 n5 = 129 := r566.lab s539 s528 (by decide)
  have s572 : S567 ach19 = 130 := r566.lab s539 s529 (by decide)
  have s573 : S567 if52 = 154 := r566.lab s539 s530 (by decide)
  have s574 : S567 tf54 = 155 := r566.lab s539 s531 (by decide)
  have s575 : S567 ef56 = 156 := r566.lab s539 s532 (by decide)
  have s576 : S567 pf58 = 157 := r566.lab s539 s533 (by decide)
  have s577 : S567 n62 = 158 := r566.lab s539 s534 (by decide)
  have s578 : S567 n132 = 159 := r566.lab s539 s535 (by decide)
  have s579 : S567 n208 = 94 := r566.lab s539 s536 (by decide)
  have s580 : S567 n246 = 134 := r566.lab s539 s537 (by decide)
  have s581 : S567 n361 = 134 := r566.lab s539 s538 (by decide)
  have e582 : 1 = G568 142 this 4 := rs_val r566 s539 e540 s527 (by decide)
  have e583 : ach19 = G568 129 n5 9 := rs_val r566 s539 e541 s528 (by decide)
  have e584 : 0 = G568 130 ach19 0 := rs_val r566 s539 e542 s529 (by decide)
  have e585 : n5 = G568 142 this 17 := rs_val r566 s539 e543 s527 (by decide)
  have e586 : ach19 = G568 142 this 5 := rs_val r566 s539 e544 s527 (by decide)
  have e587 : if52 = G568 129 n5 10 := rs_val r566 s539 e545 s528 (by decide)
  have e588 : if52 = G568 142 this 6 := rs_val r566 s539 e546 s527 (by decide)
  have e589 : tf54 = G568 129 n5 11 := rs_val r566 s539 e547 s528 (by decide)
  have e590 : tf54 = G568 142 this 7 := rs_val r566 s539 e548 s527 (by decide)
  have e591 : ef56 = G568 129 n5 12 := rs_val r566 s539 e549 s528 (by decide)
  have e592 : ef56 = G568 142 this 8 := rs_val r566 s539 e550 s527 (by decide)
  have e593 : pf58 = G568 129 n5 13 := rs_val r566 s539 e551 s528 (by decide)
  have e594 : pf58 = G568 142 this 9 := rs_val r566 s539 e552 s527 (by decide)
  have e595 : (Ad E 0) = G568 158 n62 1 := rs_val r566 s539 e553 s534 (by decide)
  have e596 : n62 = G568 142 this 10 := rs_val r566 s539 e554 s527 (by decide)
  have e597 : (Ad E 0) = G568 159 n132 1 := rs_val r566 s539 e555 s535 (by decide)
  have e598 : n132 = G568 142 this 11 := rs_val r566 s539 e556 s527 (by decide)
  have e599 : n208 = G568 142 this 12 := rs_val r566 s539 e557 s527 (by decide)
  have e600 : n246 = G568 142 this 13 := rs_val r566 s539 e558 s527 (by decide)
  have e601 : n361 = G568 142 this 14 := rs_val r566 s539 e559 s527 (by decide)
  have g602 : Gr [93, 94, 95, 96, 97, 98, 99, 105, 106, 107, 108, 109, 110, 111, 112, 113, 114, 115, 116, 117, 118, 129, 130, 131, 132, 134, 143, 144, 145, 146, 148, 153, 154, 155, 156, 157, 158, 159] [(142, 4), (142, 5), (142, 6), (142, 7), (142, 8), (142, 9), (142, 10), (142, 11), (142, 12), (142, 13), (142, 14), (142, 15), (142, 16), (142, 17), (142, 18), (143, 0), (143, 1), (143, 3), (143, 4), (143, 5), (143, 6), (143, 7), (143, 8), (143, 9), (143, 10), (143, 11), (143, 12), (143, 13), (143, 14), (143, 17), (143, 18), (143, 19), (144, 1), (144, 2), (144, 3), (144, 4), (144, 5), (144, 6), (144, 7), (144, 8), (144, 9), (144, 10), (144, 11), (144, 12), (144, 13), (144, 14), (144, 15), (144, 16), (144, 17), (145, 1), (145, 2), (145, 3), (145, 12), (145, 15), (145, 16), (146, 5), (146, 6), (146, 7), (146, 8), (146, 9), (146, 10), (146, 11), (146, 13), (146, 14), (146, 15), (146, 16), (148, 1), (148, 3), (148, 4), (148, 5), (153, 0), (153, 1)] S G S567 G568 := gr_rs g560 r566 z486 rfl
  have u603 : UqL [159, 158, 129, 157, 156, 155, 154, 130] S567 := uq_rsN u561 r566 rfl
  have u604 : EmL E [159, 158, 157, 156, 155, 154] S567 G568 := em_rsN u563 r566 rfl
  have u605 : No [128, 131, 132, 136, 138] S567 := no_rs u562 r566 rfl
  refine r_putFN hX hP rfl rfl fq_X11_65_142 s570 (by decide) (Or.inr r566.1) (fun h606 => ?_)
  refine r_ex hX hP 1 (pc' := 139) (st' := [(2, this)]) (lo' := [(0, (2, this))]) rfl ?_
  have u607 : EmL E [159, 158, 157, 156, 155, 154] S567 (up G568 142 this 15 n482) := (em_up u604 rfl)
  have g608 : Gr [93, 94, 95, 96, 97, 98, 99, 105, 106, 107, 108, 109, 110, 111, 112, 113, 114, 115, 116, 117, 118, 129, 130, 131, 132, 134, 143, 144, 145, 146, 148, 153, 154, 155, 156, 157, 158, 159] [(142, 4), (142, 5), (142, 6), (142, 7), (142, 8), (142, 9), (142, 10), (142, 11), (142, 12), (142, 13), (142, 14), (142, 15), (142, 16), (142, 17), (142, 18), (143, 0), (143, 1), (143, 3), (143, 4), (143, 5), (143, 6), (143, 7), (143, 8), (143, 9), (143, 10), (143, 11), (143, 12), (143, 13), (143, 14), (143, 17), (143, 18), (143, 19), (144, 1), (144, 2), (144, 3), (144, 4), (144, 5), (144, 6), (144, 7), (144, 8), (144, 9), (144, 10), (144, 11), (144, 12), (144, 13), (144, 14), (144, 15), (144, 16), (144, 17), (145, 1), (145, 2), (145, 3), (145, 12), (145, 15), (145, 16), (146, 5), (146, 6), (146, 7), (146, 8), (146, 9), (146, 10), (146, 11), (146, 13), (146, 14), (146, 15), (146, 16), (148, 1), (148, 3), (148, 4), (148, 5), (153, 0), (153, 1)] S G S567 (up G568 142 this 15 n482) := (gr_up g602 rfl)
  refine r_newA hX hP rfl (L := 145) (N := 17) nw_X11_68_145 (by omega) (by omega) (fun n609 S610 G611 n609z n609n n609l g612 n609v => ?_)
  have z613 : S n609 = 0 := gr_zero g608 n609z
  have s614 : S610 this = 142 := gr_lab g612 s570 (by decide)
  have s615 : S610 n5 = 129 := gr_lab g612 s571 (by decide)
  have s616 : S610 ach19 = 130 := gr_lab g612 s572 (by decide)
  have s617 : S610 if52 = 154 := gr_lab g612 s573 (by decide)
  have s618 : S610 tf54 = 155 := gr_lab g612 s574 (by decide)
  have s619 : S610 ef56 = 156 := gr_lab g612 s575 (by decide)
  have s620 : S610 pf58 = 157 := gr_lab g612 s576 (by decide)
  have s621 : S610 n62 = 158 := gr_lab g612 s577 (by decide)
  have s622 : S610 n132 = 159 := gr_lab g612 s578 (by decide)
  have s623 : S610 n208 = 94 := gr_lab g612 s579 (by decide)
  have s624 : S610 n246 = 134 := gr_lab g612 s580 (by decide)
  have s625 : S610 n361 = 134 := gr_lab g612 s581 (by decide)
  have s626 : S610 n482 = 134 := gr_lab g612 r566.1 (by decide)
  have e627 : 1 = G611 142 this 4 := gr_val g612 e582 s570 (by decide) rfl
  have e628 : ach19 = G611 129 n5 9 := gr_val g612 e583 s571 (by decide) rfl
  have e629 : 0 = G611 130 ach19 0 := gr_val g612 e584 s572 (by decide) rfl
  have e630 : n5 = G611 142 this 17 := gr_val g612 e585 s570 (by decide) rfl
  have e631 : ach19 = G611 142 this 5 := gr_val g612 e586 s570 (by decide) rfl
  have e632 : if52 = G611 129 n5 10 := gr_val g612 e587 s571 (by decide) rfl
  have e633 : if52 = G611 142 this 6 := gr_val g612 e588 s570 (by decide) rfl
  have e634 : tf54 = G611 129 n5 11 := gr_val g612 e589 s571 (by decide) rfl
  have e635 : tf54 = G611 142 this 7 := gr_val g612 e590 s570 (by decide) rfl
  have e636 : ef56 = G611 129 n5 12 := gr_val g612 e591 s571 (by decide) rfl
  have e637 : ef56 = G611 142 this 8 := gr_val g612 e592 s570 (by decide) rfl
  have e638 : pf58 = G611 129 n5 13 := gr_val g612 e593 s571 (by decide) rfl
  have e639 : pf58 = G611 142 this 9 := gr_val g612 e594 s570 (by decide) rfl
  have e640 : (Ad E 0) = G611 158 n62 1 := gr_val g612 e595 s577 (by decide) rfl
  have e641 : n62 = G611 142 this 10 := gr_val g612 e596 s570 (by decide) rfl
  have e642 : (Ad E 0) = G611 159 n132 1 := gr_val g612 e597 s578 (by decide) rfl
  have e643 : n132 = G611 142 this 11 := gr_val g612 e598 s570 (by decide) rfl
  have e644 : n208 = G611 142 this 12 := gr_val g612 e599 s570 (by decide) rfl
  have e645 : n246 = G611 142 this 13 := gr_val g612 e600 s570 (by decide) rfl
  have e646 : n361 = G611 142 this 14 := gr_val g612 e601 s570 (by decide) rfl
  have e647 : n482 = G611 142 this 15 := gr_val g612 h606 s570 (by decide) rfl
  have g648 : Gr [93, 94, 95, 96, 97, 98, 99, 105, 106, 107, 108, 109, 110, 111, 112, 113, 114, 115, 116, 117, 118, 129, 130, 131, 132, 134, 143, 144, 145, 146, 148, 153, 154, 155, 156, 157, 158, 159] [(142, 4), (142, 5), (142, 6), (142, 7), (142, 8), (142, 9), (142, 10), (142, 11), (142, 12), (142, 13), (142, 14), (142, 15), (142, 16), (142, 17), (142, 18), (143, 0), (143, 1), (143, 3), (143, 4), (143, 5), (143, 6), (143, 7), (143, 8), (143, 9), (143, 10), (143, 11), (143, 12), (143, 13), (143, 14), (143, 17), (143, 18), (143, 19), (144, 1), (144, 2), (144, 3), (144, 4), (144, 5), (144, 6), (144, 7), (144, 8), (144, 9), (144, 10), (144, 11), (144, 12), (144, 13), (144, 14), (144, 15), (144, 16), (144, 17), (145, 1), (145, 2), (145, 3), (145, 12), (145, 15), (145, 16), (146, 5), (146, 6), (146, 7), (146, 8), (146, 9), (146, 10), (146, 11), (146, 13), (146, 14), (146, 15), (146, 16), (148, 1), (148, 3), (148, 4), (148, 5), (153, 0), (153, 1)] S G S610 G611 := gr_call g608 g612 rfl rfl
  have u649 : UqL [159, 158, 129, 157, 156, 155, 154, 130] S610 := uq_gr u603 g612 rfl
  have u650 : No [128, 131, 132, 136, 138] S610 := no_gr (no_sub u605 rfl) g612 rfl
  have u651 : EmL E [159, 158, 157, 156, 155, 154] S610 G611 := em_gr u607 g612 rfl
  have e652 : 0 = G611 145 n609 0 := (n609v 0).symm
  have e653 : (-1) = G611 145 n609 9 := (n609v 9).symm
  refine r_ex hX hP 1 (pc' := 143) (st' := [(2, n609), (2, n609), (2, this)]) (lo' := [(0, (2, this))]) rfl ?_
  refine r_callIN gd hX hP rfl cn_X11_70 n609n (d' := 3) (mc' := 4) (ms' := 409) (as' := []) (st := [(2, n609), (2, this)]) (by omega) (by omega) (by omega) rfl rfl (Nat.le_of_ble_eq_true rfl) (c_X6_initZ E S610 G611 n609  n609l) ?_
  rintro _ S654 G655 ⟨g656, rfl, flh657, flh657e, plh658, plh658e, f659, f660, hf661⟩
  have s662 : S654 this = 142 := gr_lab g656 s614 (by decide)
  have s663 : S654 n5 = 129 := gr_lab g656 s615 (by decide)
  have s664 : S654 ach19 = 130 := gr_lab g656 s616 (by decide)
  have s665 : S654 if52 = 154 := gr_lab g656 s617 (by decide)
  have s666 : S654 tf54 = 155 := gr_lab g656 s618 (by decide)
  have s667 : S654 ef56 = 156 := gr_lab g656 s619 (by decide)
  have s668 : S654 pf58 = 157 := gr_lab g656 s620 (by decide)
  have s669 : S654 n62 = 158 := gr_lab g656 s621 (by decide)
  have s670 : S654 n132 = 159 := gr_lab g656 s622 (by decide)
  have s671 : S654 n208 = 94 := gr_lab g656 s623 (by decide)
  have s672 : S654 n246 = 134 := gr_lab g656 s624 (by decide)
  have s673 : S654 n361 = 134 := gr_lab g656 s625 (by decide)
  have s674 : S654 n482 = 134 := gr_lab g656 s626 (by decide)
  have s675 : S654 n609 = 145 := gr_lab g656 n609l (by decide)
  have e676 : 1 = G655 142 this 4 := gr_val g656 e627 s614 (by decide) rfl
  have e677 : ach19 = G655 129 n5 9 := gr_val g656 e628 s615 (by decide) rfl
  have e678 : 0 = G655 130 ach19 0 := gr_val g656 e629 s616 (by decide) rfl
  have e679 : n5 = G655 142 this 17 := gr_val g656 e630 s614 (by decide) rfl
  have e680 : ach19 = G655 142 this 5 := gr_val g656 e631 s614 (by decide) rfl
  have e681 : if52 = G655 129 n5 10 := gr_val g656 e632 s615 (by decide) rfl
  have e682 : if52 = G655 142 this 6 := gr_val g656 e633 s614 (by decide) rfl
  have e683 : tf54 = G655 129 n5 11 := gr_val g656 e634 s615 (by decide) rfl
  have e684 : tf54 = G655 142 this 7 := gr_val g656 e635 s614 (by decide) rfl
  have e685 : ef56 = G655 129 n5 12 := gr_val g656 e636 s615 (by decide) rfl
  have e686 : ef56 = G655 142 this 8 := gr_val g656 e637 s614 (by decide) rfl
  have e687 : pf58 = G655 129 n5 13 := gr_val g656 e638 s615 (by decide) rfl
  have e688 : pf58 = G655 142 this 9 := gr_val g656 e639 s614 (by decide) rfl
  have e689 : (Ad E 0) = G655 158 n62 1 := gr_val g656 e640 s621 (by decide) rfl
  have e690 : n62 = G655 142 this 10 := gr_val g656 e641 s614 (by decide) rfl
  have e691 : (Ad E 0) = G655 159 n132 1 := gr_val g656 e642 s622 (by decide) rfl
  have e692 : n132 = G655 142 this 11 := gr_val g656 e643 s614 (by decide) rfl
  have e693 : n208 = G655 142 this 12 := gr_val g656 e644 s614 (by decide) rfl
  have e694 : n246 = G655 142 this 13 := gr_val g656 e645 s614 (by decide) rfl
  have e695 : n361 = G655 142 this 14 := gr_val g656 e646 s614 (by decide) rfl
  have e696 : n482 = G655 142 this 15 := gr_val g656 e647 s614 (by decide) rfl
  have e697 : 0 = G655 145 n609 0 := gr_val g656 e652 n609l (by decide) rfl
  have e698 : (-1) = G655 145 n609 9 := gr_val g656 e653 n609l (by decide) rfl
  have g699 : Gr [93, 94, 95, 96, 97, 98, 99, 105, 106, 107, 108, 109, 110, 111, 112, 113, 114, 115, 116, 117, 118, 129, 130, 131, 132, 134, 143, 144, 145, 146, 148, 153, 154, 155, 156, 157, 158, 159] [(142, 4), (142, 5), (142, 6), (142, 7), (142, 8), (142, 9), (142, 10), (142, 11), (142, 12), (142, 13), (142, 14), (142, 15), (142, 16), (142, 17), (142, 18), (143, 0), (143, 1), (143, 3), (143, 4), (143, 5), (143, 6), (143, 7), (143, 8), (143, 9), (143, 10), (143, 11), (143, 12), (143, 13), (143, 14), (143, 17), (143, 18), (143, 19), (144, 1), (144, 2), (144, 3), (144, 4), (144, 5), (144, 6), (144, 7), (144, 8), (144, 9), (144, 10), (144, 11), (144, 12), (144, 13), (144, 14), (144, 15), (144, 16), (144, 17), (145, 1), (145, 2), (145, 3), (145, 12), (145, 15), (145, 16), (146, 5), (146, 6), (146, 7), (146, 8), (146, 9), (146, 10), (146, 11), (146, 13), (146, 14), (146, 15), (146, 16), (148, 1), (148, 3), (148, 4), (148, 5), (153, 0), (153, 1)] S G S654 G655 := gr_call g648 g656 rfl rfl
  have u700 : UqL [159, 158, 129, 157, 156, 155, 154, 130] S654 := uq_gr u649 g656 rfl
  have u701 : No [128, 131, 132, 136, 138] S654 := no_gr (no_sub u650 rfl) g656 rfl
  have u702 : EmL E [159, 158, 157, 156, 155, 154] S654 G655 := em_gr u651 g656 rfl
  refine r_peekI hX (tl_145 1 rfl (by decide)) s675 (fun o703 o703e o703a o703b => ?_)
  obtain rfl : flh657 = o703 := flh657e.trans o703e.symm
  refine r_peekI hX (tl_145 2 rfl (by decide)) s675 (fun o704 o704e o704a o704b => ?_)
  obtain rfl : plh658 = o704 := plh658e.trans o704e.symm
  have e705 : ((-1) : Int) = G655 145 n609 1 := by rw [← f659]; exact flh657e
  have e706 : ((-1) : Int) = G655 145 n609 2 := by rw [← f660]; exact plh658e
  refine r_finA hX (L := 145) (ci := 7) (fs := fs_145) rfl s675 (by decide) (fun hr707 => ?_)
  refine r_relabF hX (L := 145) (L' := 131) (ci := 7) (fs := fs_145) (fs' := fs_131) rfl rfl rfl (by decide) (by decide) nf_145 (by decide) s675 hf661 (fun S710 G711 r709 => ?_)
  have s713 : S710 this = 142 := r709.lab s675 s662 (by decide)
  have s714 : S710 n5 = 129 := r709.lab s675 s663 (by decide)
  have s715 : S710 ach19 = 130 := r709.lab s675 s664 (by decide)
  have s716 : S710 if52 = 154 := r709.lab s675 s665 (by decide)
  have s717 : S710 tf54 = 155 := r709.lab s675 s666 (by decide)
  have s718 : S710 ef56 = 156 := r709.lab s675 s667 (by decide)
  have s719 : S710 pf58 = 157 := r709.lab s675 s668 (by decide)
  have s720 : S710 n62 = 158 := r709.lab s675 s669 (by decide)
  have s721 : S710 n132 = 159 := r709.lab s675 s670 (by decide)
  have s722 : S710 n208 = 94 := r709.lab s675 s671 (by decide)
  have s723 : S710 n246 = 134 := r709.lab s675 s672 (by decide)
  have s724 : S710 n361 = 134 := r709.lab s675 s673 (by decide)
  have s725 : S710 n482 = 134 := r709.lab s675 s674 (by decide)
  have e726 : 1 = G711 142 this 4 := rs_val r709 s675 e676 s662 (by decide)
  have e727 : ach19 = G711 129 n5 9 := rs_val r709 s675 e677 s663 (by decide)
  have e728 : 0 = G711 130 ach19 0 := rs_val r709 s675 e678 s664 (by decide)
  have e729 : n5 = G711 142 this 17 := rs_val r709 s675 e679 s662 (by decide)
  have e730 : ach19 = G711 142 this 5 := rs_val r709 s675 e680 s662 (by decide)
  have e731 : if52 = G711 129 n5 10 := rs_val r709 s675 e681 s663 (by decide)
  have e732 : if52 = G711 142 this 6 := rs_val r709 s675 e682 s662 (by decide)
  have e733 : tf54 = G711 129 n5 11 := rs_val r709 s675 e683 s663 (by decide)
  have e734 : tf54 = G711 142 this 7 := rs_val r709 s675 e684 s662 (by decide)
  have e735 : ef56 = G711 129 n5 12 := rs_val r709 s675 e685 s663 (by decide)
  have e736 : ef56 = G711 142 this 8 := rs_val r709 s675 e686 s662 (by decide)
  have e737 : pf58 = G711 129 n5 13 := rs_val r709 s675 e687 s663 (by decide)
  have e738 : pf58 = G711 142 this 9 := rs_val r709 s675 e688 s662 (by decide)
  have e739 : (Ad E 0) = G711 158 n62 1 := rs_val r709 s675 e689 s669 (by decide)
  have e740 : n62 = G711 142 this 10 := rs_val r709 s675 e690 s662 (by decide)
  have e741 : (Ad E 0) = G711 159 n132 1 := rs_val r709 s675 e691 s670 (by decide)
  have e742 : n132 = G711 142 this 11 := rs_val r709 s675 e692 s662 (by decide)
  have e743 : n208 = G711 142 this 12 := rs_val r709 s675 e693 s662 (by decide)
  have e744 : n246 = G711 142 this 13 := rs_val r709 s675 e694 s662 (by decide)
  have e745 : n361 = G711 142 this 14 := rs_val r709 s675 e695 s662 (by decide)
  have e746 : n482 = G711 142 this 15 := rs_val r709 s675 e696 s662 (by decide)
  have e747 : 0 = G711 131 n609 0 := e697.trans (r709.2.2.1 0).symm
  have e748 : (-1) = G711 131 n609 9 := e698.trans (r709.2.2.1 9).symm
  have e749 : (-1) = G711 131 n609 1 := e705.trans (r709.2.2.1 1).symm
  have e750 : (-1) = G711 131 n609 2 := e706.trans (r709.2.2.1 2).symm
  have g751 : Gr [93, 94, 95, 96, 97, 98, 99, 105, 106, 107, 108, 109, 110, 111, 112, 113, 114, 115, 116, 117, 118, 129, 130, 131, 132, 134, 143, 144, 145, 146, 148, 153, 154, 155, 156, 157, 158, 159] [(142, 4), (142, 5), (142, 6), (142, 7), (142, 8), (142, 9), (142, 10), (142, 11), (142, 12), (142, 13), (142, 14), (142, 15), (142, 16), (142, 17), (142, 18), (143, 0), (143, 1), (143, 3), (143, 4), (143, 5), (143, 6), (143, 7), (143, 8), (143, 9), (143, 10), (143, 11), (143, 12), (143, 13), (143, 14), (143, 17), (143, 18), (143, 19), (144, 1), (144, 2), (144, 3), (144, 4), (144, 5), (144, 6), (144, 7), (144, 8), (144, 9), (144, 10), (144, 11), (144, 12), (144, 13), (144, 14), (144, 15), (144, 16), (144, 17), (145, 1), (145, 2), (145, 3), (145, 12), (145, 15), (145, 16), (146, 5), (146, 6), (146, 7), (146, 8), (146, 9), (146, 10), (146, 11), (146, 13), (146, 14), (146, 15), (146, 16), (148, 1), (148, 3), (148, 4), (148, 5), (153, 0), (153, 1)] S G S710 G711 := gr_rs g699 r709 z613 rfl
  have u752 : UqL [131, 159, 158, 129, 157, 156, 155, 154, 130] S710 := uq_rs u700 (no_sub u701 rfl) r709 rfl
  have u753 : EmL E [159, 158, 157, 156, 155, 154] S710 G711 := em_rsN u702 r709 rfl
  have u754 : No [128, 132, 136, 138] S710 := no_rs u701 r709 rfl
  refine r_putFN hX hP rfl rfl fq_X11_71_142 s713 (by decide) (Or.inr r709.1) (fun h755 => ?_)
  refine r_ex hX hP 1 (pc' := 150) (st' := [(2, this)]) (lo' := [(0, (2, this))]) rfl ?_
  have u756 : EmL E [159, 158, 157, 156, 155, 154] S710 (up G711 142 this 16 n609) := (em_up u753 rfl)
  have g757 : Gr [93, 94, 95, 96, 97, 98, 99, 105, 106, 107, 108, 109, 110, 111, 112, 113, 114, 115, 116, 117, 118, 129, 130, 131, 132, 134, 143, 144, 145, 146, 148, 153, 154, 155, 156, 157, 158, 159] [(142, 4), (142, 5), (142, 6), (142, 7), (142, 8), (142, 9), (142, 10), (142, 11), (142, 12), (142, 13), (142, 14), (142, 15), (142, 16), (142, 17), (142, 18), (143, 0), (143, 1), (143, 3), (143, 4), (143, 5), (143, 6), (143, 7), (143, 8), (143, 9), (143, 10), (143, 11), (143, 12), (143, 13), (143, 14), (143, 17), (143, 18), (143, 19), (144, 1), (144, 2), (144, 3), (144, 4), (144, 5), (144, 6), (144, 7), (144, 8), (144, 9), (144, 10), (144, 11), (144, 12), (144, 13), (144, 14), (144, 15), (144, 16), (144, 17), (145, 1), (145, 2), (145, 3), (145, 12), (145, 15), (145, 16), (146, 5), (146, 6), (146, 7), (146, 8), (146, 9), (146, 10), (146, 11), (146, 13), (146, 14), (146, 15), (146, 16), (148, 1), (148, 3), (148, 4), (148, 5), (153, 0), (153, 1)] S G S710 (up G711 142 this 16 n609) := (gr_up g751 rfl)
  refine r_newA hX hP rfl (L := 146) (N := 17) nw_X11_75_146 (by omega) (by omega) (fun n758 S759 G760 n758z n758n n758l g761 n758v => ?_)
  have z762 : S n758 = 0 := gr_zero g757 n758z
  have s763 : S759 this = 142 := gr_lab g761 s713 (by decide)
  have s764 : S759 n5 = 129 := gr_lab g761 s714 (by decide)
  have s765 : S759 ach19 = 130 := gr_lab g761 s715 (by decide)
  have s766 : S759 if52 = 154 := gr_lab g761 s716 (by decide)
  have s767 : S759 tf54 = 155 := gr_lab g761 s717 (by decide)
  have s768 : S759 ef56 = 156 := gr_lab g761 s718 (by decide)
  have s769 : S759 pf58 = 157 := gr_lab g761 s719 (by decide)
  have s770 : S759 n62 = 158 := gr_lab g761 s720 (by decide)
  have s771 : S759 n132 = 159 := gr_lab g761 s721 (by decide)
  have s772 : S759 n208 = 94 := gr_lab g761 s722 (by decide)
  have s773 : S759 n246 = 134 := gr_lab g761 s723 (by decide)
  have s774 : S759 n361 = 134 := gr_lab g761 s724 (by decide)
  have s775 : S759 n482 = 134 := gr_lab g761 s725 (by decide)
  have s776 : S759 n609 = 131 := gr_lab g761 r709.1 (by decide)
  have e777 : 1 = G760 142 this 4 := gr_val g761 e726 s713 (by decide) rfl
  have e778 : ach19 = G760 129 n5 9 := gr_val g761 e727 s714 (by decide) rfl
  have e779 : 0 = G760 130 ach19 0 := gr_val g761 e728 s715 (by decide) rfl
  have e780 : n5 = G760 142 this 17 := gr_val g761 e729 s713 (by decide) rfl
  have e781 : ach19 = G760 142 this 5 := gr_val g761 e730 s713 (by decide) rfl
  have e782 : if52 = G760 129 n5 10 := gr_val g761 e731 s714 (by decide) rfl
  have e783 : if52 = G760 142 this 6 := gr_val g761 e732 s713 (by decide) rfl
  have e784 : tf54 = G760 129 n5 11 := gr_val g761 e733 s714 (by decide) rfl
  have e785 : tf54 = G760 142 this 7 := gr_val g761 e734 s713 (by decide) rfl
  have e786 : ef56 = G760 129 n5 12 := gr_val g761 e735 s714 (by decide) rfl
  have e787 : ef56 = G760 142 this 8 := gr_val g761 e736 s713 (by decide) rfl
  have e788 : pf58 = G760 129 n5 13 := gr_val g761 e737 s714 (by decide) rfl
  have e789 : pf58 = G760 142 this 9 := gr_val g761 e738 s713 (by decide) rfl
  have e790 : (Ad E 0) = G760 158 n62 1 := gr_val g761 e739 s720 (by decide) rfl
  have e791 : n62 = G760 142 this 10 := gr_val g761 e740 s713 (by decide) rfl
  have e792 : (Ad E 0) = G760 159 n132 1 := gr_val g761 e741 s721 (by decide) rfl
  have e793 : n132 = G760 142 this 11 := gr_val g761 e742 s713 (by decide) rfl
  have e794 : n208 = G760 142 this 12 := gr_val g761 e743 s713 (by decide) rfl
  have e795 : n246 = G760 142 this 13 := gr_val g761 e744 s713 (by decide) rfl
  have e796 : n361 = G760 142 this 14 := gr_val g761 e745 s713 (by decide) rfl
  have e797 : n482 = G760 142 this 15 := gr_val g761 e746 s713 (by decide) rfl
  have e798 : 0 = G760 131 n609 0 := gr_val g761 e747 r709.1 (by decide) rfl
  have e799 : (-1) = G760 131 n609 9 := gr_val g761 e748 r709.1 (by decide) rfl
  have e800 : (-1) = G760 131 n609 1 := gr_val g761 e749 r709.1 (by decide) rfl
  have e801 : (-1) = G760 131 n609 2 := gr_val g761 e750 r709.1 (by decide) rfl
  have e802 : n609 = G760 142 this 16 := gr_val g761 h755 s713 (by decide) rfl
  have g803 : Gr [93, 94, 95, 96, 97, 98, 99, 105, 106, 107, 108, 109, 110, 111, 112, 113, 114, 115, 116, 117, 118, 129, 130, 131, 132, 134, 143, 144, 145, 146, 148, 153, 154, 155, 156, 157, 158, 159] [(142, 4), (142, 5), (142, 6), (142, 7), (142, 8), (142, 9), (142, 10), (142, 11), (142, 12), (142, 13), (142, 14), (142, 15), (142, 16), (142, 17), (142, 18), (143, 0), (143, 1), (143, 3), (143, 4), (143, 5), (143, 6), (143, 7), (143, 8), (143, 9), (143, 10), (143, 11), (143, 12), (143, 13), (143, 14), (143, 17), (143, 18), (143, 19), (144, 1), (144, 2), (144, 3), (144, 4), (144, 5), (144, 6), (144, 7), (144, 8), (144, 9), (144, 10), (144, 11), (144, 12), (144, 13), (144, 14), (144, 15), (144, 16), (144, 17), (145, 1), (145, 2), (145, 3), (145, 12), (145, 15), (145, 16), (146, 5), (146, 6), (146, 7), (146, 8), (146, 9), (146, 10), (146, 11), (146, 13), (146, 14), (146, 15), (146, 16), (148, 1), (148, 3), (148, 4), (148, 5), (153, 0), (153, 1)] S G S759 G760 := gr_call g757 g761 rfl rfl
  have u804 : UqL [131, 159, 158, 129, 157, 156, 155, 154, 130] S759 := uq_gr u752 g761 rfl
  have u805 : No [128, 132, 136, 138] S759 := no_gr (no_sub u754 rfl) g761 rfl
  have u806 : EmL E [159, 158, 157, 156, 155, 154] S759 G760 := em_gr u756 g761 rfl
  have e807 : 0 = G760 146 n758 0 := (n758v 0).symm
  refine r_ex hX hP 1 (pc' := 154) (st' := [(2, n758), (2, n758), (2, this)]) (lo' := [(0, (2, this))]) rfl ?_
  refine r_callIN gd hX hP rfl cn_X11_77 n758n (d' := 3) (mc' := 11) (ms' := 136) (as' := []) (st := [(2, n758), (2, this)]) (by omega) (by omega) (by omega) rfl rfl (Nat.le_of_ble_eq_true rfl) (c_X7_init E S759 G760 n758  n758l) ?_
  rintro _ S808 G809 ⟨g810, rfl, hf811⟩
  have s812 : S808 this = 142 := gr_lab g810 s763 (by decide)
  have s813 : S808 n5 = 129 := gr_lab g810 s764 (by decide)
  have s814 : S808 ach19 = 130 := gr_lab g810 s765 (by decide)
  have s815 : S808 if52 = 154 := gr_lab g810 s766 (by decide)
  have s816 : S808 tf54 = 155 := gr_lab g810 s767 (by decide)
  have s817 : S808 ef56 = 156 := gr_lab g810 s768 (by decide)
  have s818 : S808 pf58 = 157 := gr_lab g810 s769 (by decide)
  have s819 : S808 n62 = 158 := gr_lab g810 s770 (by decide)
  have s820 : S808 n132 = 159 := gr_lab g810 s771 (by decide)
  have s821 : S808 n208 = 94 := gr_lab g810 s772 (by decide)
  have s822 : S808 n246 = 134 := gr_lab g810 s773 (by decide)
  have s823 : S808 n361 = 134 := gr_lab g810 s774 (by decide)
  have s824 : S808 n482 = 134 := gr_lab g810 s775 (by decide)
  have s825 : S808 n609 = 131 := gr_lab g810 s776 (by decide)
  have s826 : S808 n758 = 146 := gr_lab g810 n758l (by decide)
  have e827 : 1 = G809 142 this 4 := gr_val g810 e777 s763 (by decide) rfl
  have e828 : ach19 = G809 129 n5 9 := gr_val g810 e778 s764 (by decide) rfl
  have e829 : 0 = G809 130 ach19 0 := gr_val g810 e779 s765 (by decide) rfl
  have e830 : n5 = G809 142 this 17 := gr_val g810 e780 s763 (by decide) rfl
  have e831 : ach19 = G809 142 this 5 := gr_val g810 e781 s763 (by decide) rfl
  have e832 : if52 = G809 129 n5 10 := gr_val g810 e782 s764 (by decide) rfl
  have e833 : if52 = G809 142 this 6 := gr_val g810 e783 s763 (by decide) rfl
  have e834 : tf54 = G809 129 n5 11 := gr_val g810 e784 s764 (by decide) rfl
  have e835 : tf54 = G809 142 this 7 := gr_val g810 e785 s763 (by decide) rfl
  have e836 : ef56 = G809 129 n5 12 := gr_val g810 e786 s764 (by decide) rfl
  have e837 : ef56 = G809 142 this 8 := gr_val g810 e787 s763 (by decide) rfl
  have e838 : pf58 = G809 129 n5 13 := gr_val g810 e788 s764 (by decide) rfl
  have e839 : pf58 = G809 142 this 9 := gr_val g810 e789 s763 (by decide) rfl
  have e840 : (Ad E 0) = G809 158 n62 1 := gr_val g810 e790 s770 (by decide) rfl
  have e841 : n62 = G809 142 this 10 := gr_val g810 e791 s763 (by decide) rfl
  have e842 : (Ad E 0) = G809 159 n132 1 := gr_val g810 e792 s771 (by decide) rfl
  have e843 : n132 = G809 142 this 11 := gr_val g810 e793 s763 (by decide) rfl
  have e844 : n208 = G809 142 this 12 := gr_val g810 e794 s763 (by decide) rfl
  have e845 : n246 = G809 142 this 13 := gr_val g810 e795 s763 (by decide) rfl
  have e846 : n361 = G809 142 this 14 := gr_val g810 e796 s763 (by decide) rfl
  have e847 : n482 = G809 142 this 15 := gr_val g810 e797 s763 (by decide) rfl
  have e848 : 0 = G809 131 n609 0 := gr_val g810 e798 s776 (by decide) rfl
  have e849 : (-1) = G809 131 n609 9 := gr_val g810 e799 s776 (by decide) rfl
  have e850 : (-1) = G809 131 n609 1 := gr_val g810 e800 s776 (by decide) rfl
  have e851 : (-1) = G809 131 n609 2 := gr_val g810 e801 s776 (by decide) rfl
  have e852 : n609 = G809 142 this 16 := gr_val g810 e802 s763 (by decide) rfl
  have e853 : 0 = G809 146 n758 0 := gr_val g810 e807 n758l (by decide) rfl
  have g854 : Gr [93, 94, 95, 96, 97, 98, 99, 105, 106, 107, 108, 109, 110, 111, 112, 113, 114, 115, 116, 117, 118, 129, 130, 131, 132, 134, 143, 144, 145, 146, 148, 153, 154, 155, 156, 157, 158, 159] [(142, 4), (142, 5), (142, 6), (142, 7), (142, 8), (142, 9), (142, 10), (142, 11), (142, 12), (142, 13), (142, 14), (142, 15), (142, 16), (142, 17), (142, 18), (143, 0), (143, 1), (143, 3), (143, 4), (143, 5), (143, 6), (143, 7), (143, 8), (143, 9), (143, 10), (143, 11), (143, 12), (143, 13), (143, 14), (143, 17), (143, 18), (143, 19), (144, 1), (144, 2), (144, 3), (144, 4), (144, 5), (144, 6), (144, 7), (144, 8), (144, 9), (144, 10), (144, 11), (144, 12), (144, 13), (144, 14), (144, 15), (144, 16), (144, 17), (145, 1), (145, 2), (145, 3), (145, 12), (145, 15), (145, 16), (146, 5), (146, 6), (146, 7), (146, 8), (146, 9), (146, 10), (146, 11), (146, 13), (146, 14), (146, 15), (146, 16), (148, 1), (148, 3), (148, 4), (148, 5), (153, 0), (153, 1)] S G S808 G809 := gr_call g803 g810 rfl rfl
  have u855 : UqL [131, 159, 158, 129, 157, 156, 155, 154, 130] S808 := uq_gr u804 g810 rfl
  have u856 : No [128, 132, 136, 138] S808 := no_gr (no_sub u805 rfl) g810 rfl
  have u857 : EmL E [159, 158, 157, 156, 155, 154] S808 G809 := em_gr u806 g810 rfl
  refine r_finA hX (L := 146) (ci := 8) (fs := fs_146) rfl s826 (by decide) (fun hr858 => ?_)
  refine r_relabF hX (L := 146) (L' := 132) (ci := 8) (fs := fs_146) (fs' := fs_132) rfl rfl rfl (by decide) (by decide) nf_146 (by decide) s826 hf811 (fun S861 G862 r860 => ?_)
  have s864 : S861 this = 142 := r860.lab s826 s812 (by decide)
  have s865 : S861 n5 = 129 := r860.lab s826 s813 (by decide)
  have s866 : S861 ach19 = 130 := r860.lab s826 s814 (by decide)
  have s867 : S861 if52 = 154 := r860.lab s826 s815 (by decide)
  have s868 : S861 tf54 = 155 := r860.lab s826 s816 (by decide)
  have s869 : S861 ef56 = 156 := r860.lab s826 s817 (by decide)
  have s870 : S861 pf58 = 157 := r860.lab s826 s818 (by decide)
  have s871 : S861 n62 = 158 := r860.lab s826 s819 (by decide)
  have s872 : S861 n132 = 159 := r860.lab s826 s820 (by decide)
  have s873 : S861 n208 = 94 := r860.lab s826 s821 (by decide)
  have s874 : S861 n246 = 134 := r860.lab s826 s822 (by decide)
  have s875 : S861 n361 = 134 := r860.lab s826 s823 (by decide)
  have s876 : S861 n482 = 134 := r860.lab s826 s824 (by decide)
  have s877 : S861 n609 = 131 := r860.lab s826 s825 (by decide)
  have e878 : 1 = G862 142 this 4 := rs_val r860 s826 e827 s812 (by decide)
  have e879 : ach19 = G862 129 n5 9 := rs_val r860 s826 e828 s813 (by decide)
  have e880 : 0 = G862 130 ach19 0 := rs_val r860 s826 e829 s814 (by decide)
  have e881 : n5 = G862 142 this 17 := rs_val r860 s826 e830 s812 (by decide)
  have e882 : ach19 = G862 142 this 5 := rs_val r860 s826 e831 s812 (by decide)
  have e883 : if52 = G862 129 n5 10 := rs_val r860 s826 e832 s813 (by decide)
  have e884 : if52 = G862 142 this 6 := rs_val r860 s826 e833 s812 (by decide)
  have e885 : tf54 = G862 129 n5 11 := rs_val r860 s826 e834 s813 (by decide)
  have e886 : tf54 = G862 142 this 7 := rs_val r860 s826 e835 s812 (by decide)
  have e887 : ef56 = G862 129 n5 12 := rs_val r860 s826 e836 s813 (by decide)
  have e888 : ef56 = G862 142 this 8 := rs_val r860 s826 e837 s812 (by decide)
  have e889 : pf58 = G862 129 n5 13 := rs_val r860 s826 e838 s813 (by decide)
  have e890 : pf58 = G862 142 this 9 := rs_val r860 s826 e839 s812 (by decide)
  have e891 : (Ad E 0) = G862 158 n62 1 := rs_val r860 s826 e840 s819 (by decide)
  have e892 : n62 = G862 142 this 10 := rs_val r860 s826 e841 s812 (by decide)
  have e893 : (Ad E 0) = G862 159 n132 1 := rs_val r860 s826 e842 s820 (by decide)
  have e894 : n132 = G862 142 this 11 := rs_val r860 s826 e843 s812 (by decide)
  have e895 : n208 = G862 142 this 12 := rs_val r860 s826 e844 s812 (by decide)
  have e896 : n246 = G862 142 this 13 := rs_val r860 s826 e845 s812 (by decide)
  have e897 : n361 = G862 142 this 14 := rs_val r860 s826 e846 s812 (by decide)
  have e898 : n482 = G862 142 this 15 := rs_val r860 s826 e847 s812 (by decide)
  have e899 : 0 = G862 131 n609 0 := rs_val r860 s826 e848 s825 (by decide)
  have e900 : (-1) = G862 131 n609 9 := rs_val r860 s826 e849 s825 (by decide)
  have e901 : (-1) = G862 131 n609 1 := rs_val r860 s826 e850 s825 (by decide)
  have e902 : (-1) = G862 131 n609 2 := rs_val r860 s826 e851 s825 (by decide)
  have e903 : n609 = G862 142 this 16 := rs_val r860 s826 e852 s812 (by decide)
  have e904 : 0 = G862 132 n758 0 := e853.trans (r860.2.2.1 0).symm
  have g905 : Gr [93, 94, 95, 96, 97, 98, 99, 105, 106, 107, 108, 109, 110, 111, 112, 113, 114, 115, 116, 117, 118, 129, 130, 131, 132, 134, 143, 144, 145, 146, 148, 153, 154, 155, 156, 157, 158, 159] [(142, 4), (142, 5), (142, 6), (142, 7), (142, 8), (142, 9), (142, 10), (142, 11), (142, 12), (142, 13), (142, 14), (142, 15), (142, 16), (142, 17), (142, 18), (143, 0), (143, 1), (143, 3), (143, 4), (143, 5), (143, 6), (143, 7), (143, 8), (143, 9), (143, 10), (143, 11), (143, 12), (143, 13), (143, 14), (143, 17), (143, 18), (143, 19), (144, 1), (144, 2), (144, 3), (144, 4), (144, 5), (144, 6), (144, 7), (144, 8), (144, 9), (144, 10), (144, 11), (144, 12), (144, 13), (144, 14), (144, 15), (144, 16), (144, 17), (145, 1), (145, 2), (145, 3), (145, 12), (145, 15), (145, 16), (146, 5), (146, 6), (146, 7), (146, 8), (146, 9), (146, 10), (146, 11), (146, 13), (146, 14), (146, 15), (146, 16), (148, 1), (148, 3), (148, 4), (148, 5), (153, 0), (153, 1)] S G S861 G862 := gr_rs g854 r860 z762 rfl
  have u906 : UqL [132, 131, 159, 158, 129, 157, 156, 155, 154, 130] S861 := uq_rs u855 (no_sub u856 rfl) r860 rfl
  have u907 : EmL E [159, 158, 157, 156, 155, 154] S861 G862 := em_rsN u857 r860 rfl
  have u908 : No [128, 136, 138] S861 := no_rs u856 r860 rfl
  refine r_putFN hX hP rfl rfl fq_X11_78_142 s864 (by decide) (Or.inr r860.1) (fun h909 => ?_)
  refine r_finA hX (L := 142) (ci := 11) (fs := fs_142) rfl s864 (by decide) (fun hr910 => ?_)
  have hf911 : Fnl E fs_128 142 S861 (up G862 142 this 18 n758) this := by
    intro j hj
    rcases (by have : j < 20 := hj; omega : j = 0 ∨ j = 1 ∨ j = 2 ∨ j = 3 ∨ j = 4 ∨ j = 5 ∨ j = 6 ∨ j = 7 ∨ j = 8 ∨ j = 9 ∨ j = 10 ∨ j = 11 ∨ j = 12 ∨ j = 13 ∨ j = 14 ∨ j = 15 ∨ j = 16 ∨ j = 17 ∨ j = 18 ∨ j = 19) with rfl | rfl | rfl | rfl | rfl | rfl | rfl | rfl | rfl | rfl | rfl | rfl | rfl | rfl | rfl | rfl | rfl | rfl | rfl | rfl
    · exact hr910 0 (by decide)
    · exact hr910 1 (by decide)
    · exact hr910 2 (by decide)
    · exact hr910 3 (by decide)
    · exact hr910 4 (by decide)
    · exact ⟨lab_of e882 s866, by decide⟩
    · exact ⟨lab_of e884 s867, by decide⟩
    · exact ⟨lab_of e886 s868, by decide⟩
    · exact ⟨lab_of e888 s869, by decide⟩
    · exact ⟨lab_of e890 s870, by decide⟩
    · exact ⟨lab_of e892 s871, by decide⟩
    · exact ⟨lab_of e894 s872, by decide⟩
    · exact ⟨lab_of e895 s873, by decide⟩
    · exact ⟨lab_of e896 s874, by decide⟩
    · exact ⟨lab_of e897 s875, by decide⟩
    · exact ⟨lab_of e898 s876, by decide⟩
    · exact ⟨lab_of e903 s877, by decide⟩
    · exact ⟨lab_of e881 s865, by decide⟩
    · exact ⟨lab_of h909 r860.1, by decide⟩
    · exact hr910 19 (by decide)
  have u912 : EmL E [159, 158, 157, 156, 155, 154] S861 (up G862 142 this 18 n758) := (em_up u907 rfl)
  have g913 : Gr [93, 94, 95, 96, 97, 98, 99, 105, 106, 107, 108, 109, 110, 111, 112, 113, 114, 115, 116, 117, 118, 129, 130, 131, 132, 134, 143, 144, 145, 146, 148, 153, 154, 155, 156, 157, 158, 159] [(142, 4), (142, 5), (142, 6), (142, 7), (142, 8), (142, 9), (142, 10), (142, 11), (142, 12), (142, 13), (142, 14), (142, 15), (142, 16), (142, 17), (142, 18), (143, 0), (143, 1), (143, 3), (143, 4), (143, 5), (143, 6), (143, 7), (143, 8), (143, 9), (143, 10), (143, 11), (143, 12), (143, 13), (143, 14), (143, 17), (143, 18), (143, 19), (144, 1), (144, 2), (144, 3), (144, 4), (144, 5), (144, 6), (144, 7), (144, 8), (144, 9), (144, 10), (144, 11), (144, 12), (144, 13), (144, 14), (144, 15), (144, 16), (144, 17), (145, 1), (145, 2), (145, 3), (145, 12), (145, 15), (145, 16), (146, 5), (146, 6), (146, 7), (146, 8), (146, 9), (146, 10), (146, 11), (146, 13), (146, 14), (146, 15), (146, 16), (148, 1), (148, 3), (148, 4), (148, 5), (153, 0), (153, 1)] S G S861 (up G862 142 this 18 n758) := (gr_up g905 rfl)
  exact r_retV hX hP rfl rfl (by omega) (by omega) ⟨g913, rfl, u906, u912, (no_sub u908 rfl), (zat e882 e880), (zat h909 e904), (zat e903 e899), (zat e903 e901), (zat e903 e902), (zat e903 e900), (lab_of e882 s866), (lab_of h909 r860.1), (lab_of e903 s877), hf911⟩
