theorem zat {G : Gh} {L K t i j A v : Int} (e : A = G K t j) (h : v = G L A i) : G L (G K t j) i = v := by rw [← e]; exact h.symm
theorem zne {G : Gh} {L K t i A j k a b : Int} (e : A = G K t i) (h1 : a = G L A j) (h2 : b = G L A k) (n : a ≠ b) : G L (G K t i) j ≠ G L (G K t i) k := by rw [← e, ← h1, ← h2]; exact n
theorem tl_143 (j : Nat) {t : Ty} (h : fs_143.getD j (0, 0, 0) = t) (hj : j < fs_143.length) : Tl 143 j t := ⟨9, fs_143, rfl, hj, h, by decide⟩
theorem tl_145 (j : Nat) {t : Ty} (h : fs_145.getD j (0, 0, 0) = t) (hj : j < fs_145.length) : Tl 145 j t := ⟨7, fs_145, rfl, hj, h, by decide⟩
set_option maxRecDepth 100000 in
set_option maxHeartbeats 4000000 in
theorem c_X6_initZ (E : En) (S : Sg) (G : Gh) (this : Int) (hS : S this = 145) : Calls E mX6_init [(2, this)] S G 3 4 409 (fun r S' G' => Gr [105, 106, 107] [(145, 1), (145, 2), (145, 3), (145, 12), (145, 15), (145, 16)] S G S' G' ∧ r = none ∧ ∃ fw : Int, fw = G' 145 this 1 ∧ ∃ pw : Int, pw = G' 145 this 2 ∧ fw = -1 ∧ pw = -1 ∧ G' 145 this 15 ≠ G' 145 this 16 ∧ Fnl E fs_131 145 S' G' this) := by
  refine calls_by [(0, (2, this))] rfl rfl (Nat.le_of_ble_eq_true rfl) (fun X hX => ?_)
  have hP := hPX6_init
  refine r_ex hX hP 1 (pc' := 1) (st' := [(2, this)]) (lo' := [(0, (2, this))]) rfl ?_
  refine r_nn hX hS (by decide) (fun p1 => ?_)
  refine r_objI hX hP rfl (tbg sg2 29 rfl rfl) (tbg sg1 33 rfl rfl) (tbg sg1 34 rfl rfl) p1 (by first | decide | omega) (Nat.le_of_ble_eq_true rfl) ?_
  refine r_ex hX hP 2 (pc' := 6) (st' := [(0, (-1)), (2, this)]) (lo' := [(0, (2, this))]) rfl ?_
  refine r_putIK hX hP rfl fp_X6_9_145 hS (by first | decide | omega) (by first | decide | omega) (fun h2 => ?_)
  refine r_ex hX hP 2 (pc' := 11) (st' := [(0, (-1)), (2, this)]) (lo' := [(0, (2, this))]) rfl ?_
  refine r_putIK hX hP rfl fp_X6_15_145 hS (by first | decide | omega) (by first | decide | omega) (fun h3 => ?_)
  refine r_ex hX hP 2 (pc' := 18) (st' := [(0, 400), (2, this)]) (lo' := [(0, (2, this))]) rfl ?_
  have g4 : Gr [105, 106, 107] [(145, 1), (145, 2), (145, 3), (145, 12), (145, 15), (145, 16)] S G S (up (up G 145 this 1 (-1)) 145 this 2 (-1)) := (gr_up (gr_up (gr_refl [105, 106, 107] [(145, 1), (145, 2), (145, 3), (145, 12), (145, 15), (145, 16)] S G) rfl) rfl)
  refine r_newarrA hX hP rfl (L := 105) (n := 400) al_105 (by decide) rfl rfl rfl (tbg sg1 124 rfl rfl) (by decide) (by first | decide | omega) (by first | decide | omega) (fun n5 S6 G7 n5z n5n n5l g8 n5v => ?_)
  have z9 : S n5 = 0 := gr_zero g4 n5z
  have s10 : S6 this = 145 := gr_lab g8 hS (by decide)
  have e11 : (-1) = G7 145 this 1 := gr_val g8 h2 hS (by decide) rfl
  have e12 : (-1) = G7 145 this 2 := gr_val g8 h3 hS (by decide) rfl
  have g13 : Gr [105, 106, 107] [(145, 1), (145, 2), (145, 3), (145, 12), (145, 15), (145, 16)] S G S6 G7 := gr_call g4 g8 rfl rfl
  refine r_putFN hX hP rfl rfl fq_X6_18_145 s10 (by decide) (Or.inr n5l) (fun h14 => ?_)
  refine r_ex hX hP 2 (pc' := 25) (st' := [(0, 3), (2, this)]) (lo' := [(0, (2, this))]) rfl ?_
  have g15 : Gr [105, 106, 107] [(145, 1), (145, 2), (145, 3), (145, 12), (145, 15), (145, 16)] S G S6 (up G7 145 this 3 n5) := (gr_up g13 rfl)
  refine r_newarrA hX hP rfl (L := 106) (n := 3) al_106 (by decide) rfl rfl rfl (tbg sg1 124 rfl rfl) (by decide) (by first | decide | omega) (by first | decide | omega) (fun n16 S17 G18 n16z n16n n16l g19 n16v => ?_)
  have z20 : S n16 = 0 := gr_zero g15 n16z
  have s21 : S17 this = 145 := gr_lab g19 s10 (by decide)
  have s22 : S17 n5 = 105 := gr_lab g19 n5l (by decide)
  have e23 : (-1) = G18 145 this 1 := gr_val g19 e11 s10 (by decide) rfl
  have e24 : (-1) = G18 145 this 2 := gr_val g19 e12 s10 (by decide) rfl
  have e25 : n5 = G18 145 this 3 := gr_val g19 h14 s10 (by decide) rfl
  have g26 : Gr [105, 106, 107] [(145, 1), (145, 2), (145, 3), (145, 12), (145, 15), (145, 16)] S G S17 G18 := gr_call g15 g19 rfl rfl
  refine r_putFN hX hP rfl rfl fq_X6_22_145 s21 (by decide) (Or.inr n16l) (fun h27 => ?_)
  refine r_ex hX hP 2 (pc' := 32) (st' := [(0, 3), (2, this)]) (lo' := [(0, (2, this))]) rfl ?_
  have g28 : Gr [105, 106, 107] [(145, 1), (145, 2), (145, 3), (145, 12), (145, 15), (145, 16)] S G S17 (up G18 145 this 12 n16) := (gr_up g26 rfl)
  refine r_newarrA hX hP rfl (L := 107) (n := 3) al_107 (by decide) rfl rfl rfl (tbg sg1 124 rfl rfl) (by decide) (by first | decide | omega) (by first | decide | omega) (fun n29 S30 G31 n29z n29n n29l g32 n29v => ?_)
  have z33 : S n29 = 0 := gr_zero g28 n29z
  have s34 : S30 this = 145 := gr_lab g32 s21 (by decide)
  have s35 : S30 n5 = 105 := gr_lab g32 s22 (by decide)
  have s36 : S30 n16 = 106 := gr_lab g32 n16l (by decide)
  have e37 : (-1) = G31 145 this 1 := gr_val g32 e23 s21 (by decide) rfl
  have e38 : (-1) = G31 145 this 2 := gr_val g32 e24 s21 (by decide) rfl
  have e39 : n5 = G31 145 this 3 := gr_val g32 e25 s21 (by decide) rfl
  have e40 : n16 = G31 145 this 12 := gr_val g32 h27 s21 (by decide) rfl
  have g41 : Gr [105, 106, 107] [(145, 1), (145, 2), (145, 3), (145, 12), (145, 15), (145, 16)] S G S30 G31 := gr_call g28 g32 rfl rfl
  refine r_putFN hX hP rfl rfl fq_X6_25_145 s34 (by decide) (Or.inr n29l) (fun h42 => ?_)
  refine r_ex hX hP 2 (pc' := 39) (st' := [(0, 3), (2, this)]) (lo' := [(0, (2, this))]) rfl ?_
  have g43 : Gr [105, 106, 107] [(145, 1), (145, 2), (145, 3), (145, 12), (145, 15), (145, 16)] S G S30 (up G31 145 this 15 n29) := (gr_up g41 rfl)
  refine r_newarrA hX hP rfl (L := 107) (n := 3) al_107 (by decide) rfl rfl rfl (tbg sg1 124 rfl rfl) (by decide) (by first | decide | omega) (by first | decide | omega) (fun n44 S45 G46 n44z n44n n44l g47 n44v => ?_)
  have z48 : S n44 = 0 := gr_zero g43 n44z
  have s49 : S45 this = 145 := gr_lab g47 s34 (by decide)
  have s50 : S45 n5 = 105 := gr_lab g47 s35 (by decide)
  have s51 : S45 n16 = 106 := gr_lab g47 s36 (by decide)
  have s52 : S45 n29 = 107 := gr_lab g47 n29l (by decide)
  have e53 : (-1) = G46 145 this 1 := gr_val g47 e37 s34 (by decide) rfl
  have e54 : (-1) = G46 145 this 2 := gr_val g47 e38 s34 (by decide) rfl
  have e55 : n5 = G46 145 this 3 := gr_val g47 e39 s34 (by decide) rfl
  have e56 : n16 = G46 145 this 12 := gr_val g47 e40 s34 (by decide) rfl
  have e57 : n29 = G46 145 this 15 := gr_val g47 h42 s34 (by decide) rfl
  have g58 : Gr [105, 106, 107] [(145, 1), (145, 2), (145, 3), (145, 12), (145, 15), (145, 16)] S G S45 G46 := gr_call g43 g47 rfl rfl
  have neq : n29 ≠ n44 := fun q => by have h := n29l; rw [q, n44z] at h; exact absurd h (by decide)
  refine r_putFN hX hP rfl rfl fq_X6_28_145 s49 (by decide) (Or.inr n44l) (fun h59 => ?_)
  refine r_finA hX (L := 145) (ci := 7) (fs := fs_145) rfl s49 (by decide) (fun hr60 => ?_)
  have hf61 : Fnl E fs_131 145 S45 (up G46 145 this 16 n44) this := by
    intro j hj
    rcases (by have : j < 17 := hj; omega : j = 0 ∨ j = 1 ∨ j = 2 ∨ j = 3 ∨ j = 4 ∨ j = 5 ∨ j = 6 ∨ j = 7 ∨ j = 8 ∨ j = 9 ∨ j = 10 ∨ j = 11 ∨ j = 12 ∨ j = 13 ∨ j = 14 ∨ j = 15 ∨ j = 16) with rfl | rfl | rfl | rfl | rfl | rfl | rfl | rfl | rfl | rfl | rfl | rfl | rfl | rfl | rfl | rfl | rfl
    · exact hr60 0 (by decide)
    · exact hr60 1 (by decide)
    · exact hr60 2 (by decide)
    · exact ⟨lab_of e55 s50, by decide⟩
    · exact hr60 4 (by decide)
    · exact hr60 5 (by decide)
    · exact hr60 6 (by decide)
    · exact hr60 7 (by decide)
    · exact hr60 8 (by decide)
    · exact hr60 9 (by decide)
    · exact hr60 10 (by decide)
    · exact hr60 11 (by decide)
    · exact ⟨lab_of e56 s51, by decide⟩
    · exact hr60 13 (by decide)
    · exact hr60 14 (by decide)
    · exact ⟨lab_of e57 s52, by decide⟩
    · exact ⟨lab_of h59 n44l, by decide⟩
  have g62 : Gr [105, 106, 107] [(145, 1), (145, 2), (145, 3), (145, 12), (145, 15), (145, 16)] S G S45 (up G46 145 this 16 n44) := (gr_up g58 rfl)
  exact r_retV hX hP rfl rfl (by first | decide | omega) (by first | decide | omega) ⟨g62, rfl, (-1), e53, (-1), e54, (by first | decide | omega), (by first | decide | omega), (fun q => neq ((e57.trans q).trans h59.symm)), hf61⟩
set_option maxRecDepth 100000 in
set_option maxHeartbeats 4000000 in
theorem c_X8_initZ (E : En) (S : Sg) (G : Gh) (this : Int) (hS : S this = 143) (uno : No [130, 154, 155, 156, 157] S) : Calls E mX8_init [(2, this)] S G 6 96 2554 (fun r S' G' => Gr [93, 94, 95, 96, 97, 98, 114, 115, 116, 117, 118, 130, 144, 153, 154, 155, 156, 157] [(143, 0), (143, 1), (143, 3), (143, 4), (143, 5), (143, 6), (143, 7), (143, 8), (143, 9), (143, 10), (143, 11), (143, 12), (143, 13), (143, 14), (143, 17), (143, 18), (143, 19), (144, 1), (144, 2), (144, 3), (144, 4), (144, 5), (144, 6), (144, 7), (144, 8), (144, 9), (144, 10), (144, 11), (144, 12), (144, 13), (144, 14), (144, 15), (144, 16), (144, 17), (153, 0), (153, 1)] S G S' G' ∧ r = none ∧ ∃ ac : Int, ac = G' 143 this 9 ∧ ∃ aw : Int, aw = G' 143 this 0 ∧ aw = 40000 ∧ UqL [157, 156, 155, 154, 130] S' ∧ EmL E [157, 156, 155, 154] S' G' ∧ S' ac = 130 ∧ G' 130 ac 0 = 0 ∧ Fnl E fs_129 143 S' G' this) := by
  refine calls_by [(0, (2, this))] rfl rfl (Nat.le_of_ble_eq_true rfl) (fun X hX => ?_)
  have hP := hPX8_init
  refine r_ex hX hP 1 (pc' := 1) (st' := [(2, this)]) (lo' := [(0, (2, this))]) rfl ?_
  refine r_nn hX hS (by decide) (fun p1 => ?_)
  refine r_objI hX hP rfl (tbg sg1 40 rfl rfl) (tbg sg1 33 rfl rfl) (tbg sg1 34 rfl rfl) p1 (by first | decide | omega) (Nat.le_of_ble_eq_true rfl) ?_
  refine r_ex hX hP 1 (pc' := 5) (st' := [(2, this)]) (lo' := [(0, (2, this))]) rfl ?_
  refine r_ldc hX hP rfl (v := 40000) (tbg sg1 41 rfl rfl) ?_
  refine r_putIK hX hP rfl fp_X8_10_143 hS (by first | decide | omega) (by first | decide | omega) (fun h2 => ?_)
  refine r_ex hX hP 2 (pc' := 12) (st' := [(0, 1), (2, this)]) (lo' := [(0, (2, this))]) rfl ?_
  refine r_putIK hX hP rfl fp_X8_16_143 hS (by first | decide | omega) (by first | decide | omega) (fun h3 => ?_)
  refine r_ex hX hP 3 (pc' := 20) (st' := [(0, 20), (0, 20), (2, this)]) (lo' := [(0, (2, this))]) rfl ?_
  have u4 : EmL E [] S (up (up G 143 this 0 40000) 143 this 1 1) := (em_up (em_up (em_nil E S G) rfl) rfl)
  have g5 : Gr [93, 94, 95, 96, 97, 98, 114, 115, 116, 117, 118, 130, 144, 153, 154, 155, 156, 157] [(143, 0), (143, 1), (143, 3), (143, 4), (143, 5), (143, 6), (143, 7), (143, 8), (143, 9), (143, 10), (143, 11), (143, 12), (143, 13), (143, 14), (143, 17), (143, 18), (143, 19), (144, 1), (144, 2), (144, 3), (144, 4), (144, 5), (144, 6), (144, 7), (144, 8), (144, 9), (144, 10), (144, 11), (144, 12), (144, 13), (144, 14), (144, 15), (144, 16), (144, 17), (153, 0), (153, 1)] S G S (up (up G 143 this 0 40000) 143 this 1 1) := (gr_up (gr_up (gr_refl [93, 94, 95, 96, 97, 98, 114, 115, 116, 117, 118, 130, 144, 153, 154, 155, 156, 157] [(143, 0), (143, 1), (143, 3), (143, 4), (143, 5), (143, 6), (143, 7), (143, 8), (143, 9), (143, 10), (143, 11), (143, 12), (143, 13), (143, 14), (143, 17), (143, 18), (143, 19), (144, 1), (144, 2), (144, 3), (144, 4), (144, 5), (144, 6), (144, 7), (144, 8), (144, 9), (144, 10), (144, 11), (144, 12), (144, 13), (144, 14), (144, 15), (144, 16), (144, 17), (153, 0), (153, 1)] S G) rfl) rfl)
  refine r_multiA hX hP rfl (L := 114) (L2 := 95) (n := 20) (k := 20) al_114 al_95 (by decide) (by decide) (by decide) (tbg sg1 42 rfl rfl) (tbg sg1 123 rfl rfl) (by decide) (by decide) (by first | decide | omega) (by first | decide | omega) (fun n6 S7 G8 n6z n6n n6l g9 => ?_)
  have z10 : S n6 = 0 := gr_zero g5 n6z
  have s11 : S7 this = 143 := gr_lab g9 hS (by decide)
  have e12 : 40000 = G8 143 this 0 := gr_val g9 h2 hS (by decide) rfl
  have e13 : 1 = G8 143 this 1 := gr_val g9 h3 hS (by decide) rfl
  have g14 : Gr [93, 94, 95, 96, 97, 98, 114, 115, 116, 117, 118, 130, 144, 153, 154, 155, 156, 157] [(143, 0), (143, 1), (143, 3), (143, 4), (143, 5), (143, 6), (143, 7), (143, 8), (143, 9), (143, 10), (143, 11), (143, 12), (143, 13), (143, 14), (143, 17), (143, 18), (143, 19), (144, 1), (144, 2), (144, 3), (144, 4), (144, 5), (144, 6), (144, 7), (144, 8), (144, 9), (144, 10), (144, 11), (144, 12), (144, 13), (144, 14), (144, 15), (144, 16), (144, 17), (153, 0), (153, 1)] S G S7 G8 := gr_call g5 g9 rfl rfl
  have u15 : UqL [] S7 := uq_gr (uq_nil S) g9 rfl
  have u16 : No [130, 154, 155, 156, 157] S7 := no_gr (no_sub uno rfl) g9 rfl
  have u17 : EmL E [] S7 G8 := em_gr u4 g9 rfl
  refine r_putFN hX hP rfl rfl fq_X8_22_143 s11 (by decide) (Or.inr n6l) (fun h18 => ?_)
  refine r_ex hX hP 3 (pc' := 32) (st' := [(0, 20), (0, 20), (2, this)]) (lo' := [(0, (2, this))]) rfl ?_
  have u19 : EmL E [] S7 (up G8 143 this 3 n6) := (em_up u17 rfl)
  have g20 : Gr [93, 94, 95, 96, 97, 98, 114, 115, 116, 117, 118, 130, 144, 153, 154, 155, 156, 157] [(143, 0), (143, 1), (143, 3), (143, 4), (143, 5), (143, 6), (143, 7), (143, 8), (143, 9), (143, 10), (143, 11), (143, 12), (143, 13), (143, 14), (143, 17), (143, 18), (143, 19), (144, 1), (144, 2), (144, 3), (144, 4), (144, 5), (144, 6), (144, 7), (144, 8), (144, 9), (144, 10), (144, 11), (144, 12), (144, 13), (144, 14), (144, 15), (144, 16), (144, 17), (153, 0), (153, 1)] S G S7 (up G8 143 this 3 n6) := (gr_up g14 rfl)
  refine r_multiA hX hP rfl (L := 114) (L2 := 95) (n := 20) (k := 20) al_114 al_95 (by decide) (by decide) (by decide) (tbg sg1 42 rfl rfl) (tbg sg1 123 rfl rfl) (by decide) (by decide) (by first | decide | omega) (by first | decide | omega) (fun n21 S22 G23 n21z n21n n21l g24 => ?_)
  have z25 : S n21 = 0 := gr_zero g20 n21z
  have s26 : S22 this = 143 := gr_lab g24 s11 (by decide)
  have s27 : S22 n6 = 114 := gr_lab g24 n6l (by decide)
  have e28 : 40000 = G23 143 this 0 := gr_val g24 e12 s11 (by decide) rfl
  have e29 : 1 = G23 143 this 1 := gr_val g24 e13 s11 (by decide) rfl
  have e30 : n6 = G23 143 this 3 := gr_val g24 h18 s11 (by decide) rfl
  have g31 : Gr [93, 94, 95, 96, 97, 98, 114, 115, 116, 117, 118, 130, 144, 153, 154, 155, 156, 157] [(143, 0), (143, 1), (143, 3), (143, 4), (143, 5), (143, 6), (143, 7), (143, 8), (143, 9), (143, 10), (143, 11), (143, 12), (143, 13), (143, 14), (143, 17), (143, 18), (143, 19), (144, 1), (144, 2), (144, 3), (144, 4), (144, 5), (144, 6), (144, 7), (144, 8), (144, 9), (144, 10), (144, 11), (144, 12), (144, 13), (144, 14), (144, 15), (144, 16), (144, 17), (153, 0), (153, 1)] S G S22 G23 := gr_call g20 g24 rfl rfl
  have u32 : UqL [] S22 := uq_gr u15 g24 rfl
  have u33 : No [130, 154, 155, 156, 157] S22 := no_gr (no_sub u16 rfl) g24 rfl
  have u34 : EmL E [] S22 G23 := em_gr u19 g24 rfl
  refine r_putFN hX hP rfl rfl fq_X8_25_143 s26 (by decide) (Or.inr n21l) (fun h35 => ?_)
  refine r_ex hX hP 2 (pc' := 42) (st' := [(0, 20), (2, this)]) (lo' := [(0, (2, this))]) rfl ?_
  have u36 : EmL E [] S22 (up G23 143 this 4 n21) := (em_up u34 rfl)
  have g37 : Gr [93, 94, 95, 96, 97, 98, 114, 115, 116, 117, 118, 130, 144, 153, 154, 155, 156, 157] [(143, 0), (143, 1), (143, 3), (143, 4), (143, 5), (143, 6), (143, 7), (143, 8), (143, 9), (143, 10), (143, 11), (143, 12), (143, 13), (143, 14), (143, 17), (143, 18), (143, 19), (144, 1), (144, 2), (144, 3), (144, 4), (144, 5), (144, 6), (144, 7), (144, 8), (144, 9), (144, 10), (144, 11), (144, 12), (144, 13), (144, 14), (144, 15), (144, 16), (144, 17), (153, 0), (153, 1)] S G S22 (up G23 143 this 4 n21) := (gr_up g31 rfl)
  refine r_newarrA hX hP rfl (L := 95) (n := 20) al_95 (by decide) rfl rfl rfl (tbg sg1 123 rfl rfl) (by decide) (by first | decide | omega) (by first | decide | omega) (fun n38 S39 G40 n38z n38n n38l g41 n38v => ?_)
  have z42 : S n38 = 0 := gr_zero g37 n38z
  have s43 : S39 this = 143 := gr_lab g41 s26 (by decide)
  have s44 : S39 n6 = 114 := gr_lab g41 s27 (by decide)
  have s45 : S39 n21 = 114 := gr_lab g41 n21l (by decide)
  have e46 : 40000 = G40 143 this 0 := gr_val g41 e28 s26 (by decide) rfl
  have e47 : 1 = G40 143 this 1 := gr_val g41 e29 s26 (by decide) rfl
  have e48 : n6 = G40 143 this 3 := gr_val g41 e30 s26 (by decide) rfl
  have e49 : n21 = G40 143 this 4 := gr_val g41 h35 s26 (by decide) rfl
  have g50 : Gr [93, 94, 95, 96, 97, 98, 114, 115, 116, 117, 118, 130, 144, 153, 154, 155, 156, 157] [(143, 0), (143, 1), (143, 3), (143, 4), (143, 5), (143, 6), (143, 7), (143, 8), (143, 9), (143, 10), (143, 11), (143, 12), (143, 13), (143, 14), (143, 17), (143, 18), (143, 19), (144, 1), (144, 2), (144, 3), (144, 4), (144, 5), (144, 6), (144, 7), (144, 8), (144, 9), (144, 10), (144, 11), (144, 12), (144, 13), (144, 14), (144, 15), (144, 16), (144, 17), (153, 0), (153, 1)] S G S39 G40 := gr_call g37 g41 rfl rfl
  have u51 : UqL [] S39 := uq_gr u32 g41 rfl
  have u52 : No [130, 154, 155, 156, 157] S39 := no_gr (no_sub u33 rfl) g41 rfl
  have u53 : EmL E [] S39 G40 := em_gr u36 g41 rfl
  refine r_putFN hX hP rfl rfl fq_X8_28_143 s43 (by decide) (Or.inr n38l) (fun h54 => ?_)
  refine r_ex hX hP 2 (pc' := 50) (st' := [(0, 20), (2, this)]) (lo' := [(0, (2, this))]) rfl ?_
  have u55 : EmL E [] S39 (up G40 143 this 5 n38) := (em_up u53 rfl)
  have g56 : Gr [93, 94, 95, 96, 97, 98, 114, 115, 116, 117, 118, 130, 144, 153, 154, 155, 156, 157] [(143, 0), (143, 1), (143, 3), (143, 4), (143, 5), (143, 6), (143, 7), (143, 8), (143, 9), (143, 10), (143, 11), (143, 12), (143, 13), (143, 14), (143, 17), (143, 18), (143, 19), (144, 1), (144, 2), (144, 3), (144, 4), (144, 5), (144, 6), (144, 7), (144, 8), (144, 9), (144, 10), (144, 11), (144, 12), (144, 13), (144, 14), (144, 15), (144, 16), (144, 17), (153, 0), (153, 1)] S G S39 (up G40 143 this 5 n38) := (gr_up g50 rfl)
  refine r_newarrA hX hP rfl (L := 95) (n := 20) al_95 (by decide) rfl rfl rfl (tbg sg1 123 rfl rfl) (by decide) (by first | decide | omega) (by first | decide | omega) (fun n57 S58 G59 n57z n57n n57l g60 n57v => ?_)
  have z61 : S n57 = 0 := gr_zero g56 n57z
  have s62 : S58 this = 143 := gr_lab g60 s43 (by decide)
  have s63 : S58 n6 = 114 := gr_lab g60 s44 (by decide)
  have s64 : S58 n21 = 114 := gr_lab g60 s45 (by decide)
  have s65 : S58 n38 = 95 := gr_lab g60 n38l (by decide)
  have e66 : 40000 = G59 143 this 0 := gr_val g60 e46 s43 (by decide) rfl
  have e67 : 1 = G59 143 this 1 := gr_val g60 e47 s43 (by decide) rfl
  have e68 : n6 = G59 143 this 3 := gr_val g60 e48 s43 (by decide) rfl
  have e69 : n21 = G59 143 this 4 := gr_val g60 e49 s43 (by decide) rfl
  have e70 : n38 = G59 143 this 5 := gr_val g60 h54 s43 (by decide) rfl
  have g71 : Gr [93, 94, 95, 96, 97, 98, 114, 115, 116, 117, 118, 130, 144, 153, 154, 155, 156, 157] [(143, 0), (143, 1), (143, 3), (143, 4), (143, 5), (143, 6), (143, 7), (143, 8), (143, 9), (143, 10), (143, 11), (143, 12), (143, 13), (143, 14), (143, 17), (143, 18), (143, 19), (144, 1), (144, 2), (144, 3), (144, 4), (144, 5), (144, 6), (144, 7), (144, 8), (144, 9), (144, 10), (144, 11), (144, 12), (144, 13), (144, 14), (144, 15), (144, 16), (144, 17), (153, 0), (153, 1)] S G S58 G59 := gr_call g56 g60 rfl rfl
  have u72 : UqL [] S58 := uq_gr u51 g60 rfl
  have u73 : No [130, 154, 155, 156, 157] S58 := no_gr (no_sub u52 rfl) g60 rfl
  have u74 : EmL E [] S58 G59 := em_gr u55 g60 rfl
  refine r_putFN hX hP rfl rfl fq_X8_32_143 s62 (by decide) (Or.inr n57l) (fun h75 => ?_)
  refine r_ex hX hP 2 (pc' := 58) (st' := [(0, 40), (2, this)]) (lo' := [(0, (2, this))]) rfl ?_
  have u76 : EmL E [] S58 (up G59 143 this 6 n57) := (em_up u74 rfl)
  have g77 : Gr [93, 94, 95, 96, 97, 98, 114, 115, 116, 117, 118, 130, 144, 153, 154, 155, 156, 157] [(143, 0), (143, 1), (143, 3), (143, 4), (143, 5), (143, 6), (143, 7), (143, 8), (143, 9), (143, 10), (143, 11), (143, 12), (143, 13), (143, 14), (143, 17), (143, 18), (143, 19), (144, 1), (144, 2), (144, 3), (144, 4), (144, 5), (144, 6), (144, 7), (144, 8), (144, 9), (144, 10), (144, 11), (144, 12), (144, 13), (144, 14), (144, 15), (144, 16), (144, 17), (153, 0), (153, 1)] S G S58 (up G59 143 this 6 n57) := (gr_up g71 rfl)
  refine r_newarrA hX hP rfl (L := 115) (n := 40) al_115 (by decide) rfl rfl rfl (tbg sg1 124 rfl rfl) (by decide) (by first | decide | omega) (by first | decide | omega) (fun n78 S79 G80 n78z n78n n78l g81 n78v => ?_)
  have z82 : S n78 = 0 := gr_zero g77 n78z
  have s83 : S79 this = 143 := gr_lab g81 s62 (by decide)
  have s84 : S79 n6 = 114 := gr_lab g81 s63 (by decide)
  have s85 : S79 n21 = 114 := gr_lab g81 s64 (by decide)
  have s86 : S79 n38 = 95 := gr_lab g81 s65 (by decide)
  have s87 : S79 n57 = 95 := gr_lab g81 n57l (by decide)
  have e88 : 40000 = G80 143 this 0 := gr_val g81 e66 s62 (by decide) rfl
  have e89 : 1 = G80 143 this 1 := gr_val g81 e67 s62 (by decide) rfl
  have e90 : n6 = G80 143 this 3 := gr_val g81 e68 s62 (by decide) rfl
  have e91 : n21 = G80 143 this 4 := gr_val g81 e69 s62 (by decide) rfl
  have e92 : n38 = G80 143 this 5 := gr_val g81 e70 s62 (by decide) rfl
  have e93 : n57 = G80 143 this 6 := gr_val g81 h75 s62 (by decide) rfl
  have g94 : Gr [93, 94, 95, 96, 97, 98, 114, 115, 116, 117, 118, 130, 144, 153, 154, 155, 156, 157] [(143, 0), (143, 1), (143, 3), (143, 4), (143, 5), (143, 6), (143, 7), (143, 8), (143, 9), (143, 10), (143, 11), (143, 12), (143, 13), (143, 14), (143, 17), (143, 18), (143, 19), (144, 1), (144, 2), (144, 3), (144, 4), (144, 5), (144, 6), (144, 7), (144, 8), (144, 9), (144, 10), (144, 11), (144, 12), (144, 13), (144, 14), (144, 15), (144, 16), (144, 17), (153, 0), (153, 1)] S G S79 G80 := gr_call g77 g81 rfl rfl
  have u95 : UqL [] S79 := uq_gr u72 g81 rfl
  have u96 : No [130, 154, 155, 156, 157] S79 := no_gr (no_sub u73 rfl) g81 rfl
  have u97 : EmL E [] S79 G80 := em_gr u76 g81 rfl
  refine r_putFN hX hP rfl rfl fq_X8_35_143 s83 (by decide) (Or.inr n78l) (fun h98 => ?_)
  refine r_ex hX hP 3 (pc' := 68) (st' := [(0, 60), (0, 16), (2, this)]) (lo' := [(0, (2, this))]) rfl ?_
  have u99 : EmL E [] S79 (up G80 143 this 7 n78) := (em_up u97 rfl)
  have g100 : Gr [93, 94, 95, 96, 97, 98, 114, 115, 116, 117, 118, 130, 144, 153, 154, 155, 156, 157] [(143, 0), (143, 1), (143, 3), (143, 4), (143, 5), (143, 6), (143, 7), (143, 8), (143, 9), (143, 10), (143, 11), (143, 12), (143, 13), (143, 14), (143, 17), (143, 18), (143, 19), (144, 1), (144, 2), (144, 3), (144, 4), (144, 5), (144, 6), (144, 7), (144, 8), (144, 9), (144, 10), (144, 11), (144, 12), (144, 13), (144, 14), (144, 15), (144, 16), (144, 17), (153, 0), (153, 1)] S G S79 (up G80 143 this 7 n78) := (gr_up g94 rfl)
  refine r_multiA hX hP rfl (L := 117) (L2 := 116) (n := 16) (k := 60) al_117 al_116 (by decide) (by decide) (by decide) (tbg sg1 42 rfl rfl) (tbg sg1 123 rfl rfl) (by decide) (by decide) (by first | decide | omega) (by first | decide | omega) (fun n101 S102 G103 n101z n101n n101l g104 => ?_)
  have z105 : S n101 = 0 := gr_zero g100 n101z
  have s106 : S102 this = 143 := gr_lab g104 s83 (by decide)
  have s107 : S102 n6 = 114 := gr_lab g104 s84 (by decide)
  have s108 : S102 n21 = 114 := gr_lab g104 s85 (by decide)
  have s109 : S102 n38 = 95 := gr_lab g104 s86 (by decide)
  have s110 : S102 n57 = 95 := gr_lab g104 s87 (by decide)
  have s111 : S102 n78 = 115 := gr_lab g104 n78l (by decide)
  have e112 : 40000 = G103 143 this 0 := gr_val g104 e88 s83 (by decide) rfl
  have e113 : 1 = G103 143 this 1 := gr_val g104 e89 s83 (by decide) rfl
  have e114 : n6 = G103 143 this 3 := gr_val g104 e90 s83 (by decide) rfl
  have e115 : n21 = G103 143 this 4 := gr_val g104 e91 s83 (by decide) rfl
  have e116 : n38 = G103 143 this 5 := gr_val g104 e92 s83 (by decide) rfl
  have e117 : n57 = G103 143 this 6 := gr_val g104 e93 s83 (by decide) rfl
  have e118 : n78 = G103 143 this 7 := gr_val g104 h98 s83 (by decide) rfl
  have g119 : Gr [93, 94, 95, 96, 97, 98, 114, 115, 116, 117, 118, 130, 144, 153, 154, 155, 156, 157] [(143, 0), (143, 1), (143, 3), (143, 4), (143, 5), (143, 6), (143, 7), (143, 8), (143, 9), (143, 10), (143, 11), (143, 12), (143, 13), (143, 14), (143, 17), (143, 18), (143, 19), (144, 1), (144, 2), (144, 3), (144, 4), (144, 5), (144, 6), (144, 7), (144, 8), (144, 9), (144, 10), (144, 11), (144, 12), (144, 13), (144, 14), (144, 15), (144, 16), (144, 17), (153, 0), (153, 1)] S G S102 G103 := gr_call g100 g104 rfl rfl
  have u120 : UqL [] S102 := uq_gr u95 g104 rfl
  have u121 : No [130, 154, 155, 156, 157] S102 := no_gr (no_sub u96 rfl) g104 rfl
  have u122 : EmL E [] S102 G103 := em_gr u99 g104 rfl
  refine r_putFN hX hP rfl rfl fq_X8_39_143 s106 (by decide) (Or.inr n101l) (fun h123 => ?_)
  refine r_ex hX hP 1 (pc' := 76) (st' := [(2, this)]) (lo' := [(0, (2, this))]) rfl ?_
  have u124 : EmL E [] S102 (up G103 143 this 8 n101) := (em_up u122 rfl)
  have g125 : Gr [93, 94, 95, 96, 97, 98, 114, 115, 116, 117, 118, 130, 144, 153, 154, 155, 156, 157] [(143, 0), (143, 1), (143, 3), (143, 4), (143, 5), (143, 6), (143, 7), (143, 8), (143, 9), (143, 10), (143, 11), (143, 12), (143, 13), (143, 14), (143, 17), (143, 18), (143, 19), (144, 1), (144, 2), (144, 3), (144, 4), (144, 5), (144, 6), (144, 7), (144, 8), (144, 9), (144, 10), (144, 11), (144, 12), (144, 13), (144, 14), (144, 15), (144, 16), (144, 17), (153, 0), (153, 1)] S G S102 (up G103 143 this 8 n101) := (gr_up g119 rfl)
  refine r_newA hX hP rfl (L := 144) (N := 18) nw_X8_42_144 (by first | decide | omega) (by first | decide | omega) (fun n126 S127 G128 n126z n126n n126l g129 n126v => ?_)
  have z130 : S n126 = 0 := gr_zero g125 n126z
  have s131 : S127 this = 143 := gr_lab g129 s106 (by decide)
  have s132 : S127 n6 = 114 := gr_lab g129 s107 (by decide)
  have s133 : S127 n21 = 114 := gr_lab g129 s108 (by decide)
  have s134 : S127 n38 = 95 := gr_lab g129 s109 (by decide)
  have s135 : S127 n57 = 95 := gr_lab g129 s110 (by decide)
  have s136 : S127 n78 = 115 := gr_lab g129 s111 (by decide)
  have s137 : S127 n101 = 117 := gr_lab g129 n101l (by decide)
  have e138 : 40000 = G128 143 this 0 := gr_val g129 e112 s106 (by decide) rfl
  have e139 : 1 = G128 143 this 1 := gr_val g129 e113 s106 (by decide) rfl
  have e140 : n6 = G128 143 this 3 := gr_val g129 e114 s106 (by decide) rfl
  have e141 : n21 = G128 143 this 4 := gr_val g129 e115 s106 (by decide) rfl
  have e142 : n38 = G128 143 this 5 := gr_val g129 e116 s106 (by decide) rfl
  have e143 : n57 = G128 143 this 6 := gr_val g129 e117 s106 (by decide) rfl
  have e144 : n78 = G128 143 this 7 := gr_val g129 e118 s106 (by decide) rfl
  have e145 : n101 = G128 143 this 8 := gr_val g129 h123 s106 (by decide) rfl
  have g146 : Gr [93, 94, 95, 96, 97, 98, 114, 115, 116, 117, 118, 130, 144, 153, 154, 155, 156, 157] [(143, 0), (143, 1), (143, 3), (143, 4), (143, 5), (143, 6), (143, 7), (143, 8), (143, 9), (143, 10), (143, 11), (143, 12), (143, 13), (143, 14), (143, 17), (143, 18), (143, 19), (144, 1), (144, 2), (144, 3), (144, 4), (144, 5), (144, 6), (144, 7), (144, 8), (144, 9), (144, 10), (144, 11), (144, 12), (144, 13), (144, 14), (144, 15), (144, 16), (144, 17), (153, 0), (153, 1)] S G S127 G128 := gr_call g125 g129 rfl rfl
  have u147 : UqL [] S127 := uq_gr u120 g129 rfl
  have u148 : No [130, 154, 155, 156, 157] S127 := no_gr (no_sub u121 rfl) g129 rfl
  have u149 : EmL E [] S127 G128 := em_gr u124 g129 rfl
  have e150 : 0 = G128 144 n126 0 := (n126v 0).symm
  refine r_ex hX hP 1 (pc' := 80) (st' := [(2, n126), (2, n126), (2, this)]) (lo' := [(0, (2, this))]) rfl ?_
  refine r_callIN gd hX hP rfl cn_X8_44 n126n (d' := 3) (mc' := 25) (ms' := 472) (as' := []) (st := [(2, n126), (2, this)]) (by first | decide | omega) (by first | decide | omega) (by first | decide | omega) rfl rfl (Nat.le_of_ble_eq_true rfl) (c_X0_init E S127 G128 n126  n126l) ?_
  rintro _ S151 G152 ⟨g153, rfl, hf154⟩
  have s155 : S151 this = 143 := gr_lab g153 s131 (by decide)
  have s156 : S151 n6 = 114 := gr_lab g153 s132 (by decide)
  have s157 : S151 n21 = 114 := gr_lab g153 s133 (by decide)
  have s158 : S151 n38 = 95 := gr_lab g153 s134 (by decide)
  have s159 : S151 n57 = 95 := gr_lab g153 s135 (by decide)
  have s160 : S151 n78 = 115 := gr_lab g153 s136 (by decide)
  have s161 : S151 n101 = 117 := gr_lab g153 s137 (by decide)
  have s162 : S151 n126 = 144 := gr_lab g153 n126l (by decide)
  have e163 : 40000 = G152 143 this 0 := gr_val g153 e138 s131 (by decide) rfl
  have e164 : 1 = G152 143 this 1 := gr_val g153 e139 s131 (by decide) rfl
  have e165 : n6 = G152 143 this 3 := gr_val g153 e140 s131 (by decide) rfl
  have e166 : n21 = G152 143 this 4 := gr_val g153 e141 s131 (by decide) rfl
  have e167 : n38 = G152 143 this 5 := gr_val g153 e142 s131 (by decide) rfl
  have e168 : n57 = G152 143 this 6 := gr_val g153 e143 s131 (by decide) rfl
  have e169 : n78 = G152 143 this 7 := gr_val g153 e144 s131 (by decide) rfl
  have e170 : n101 = G152 143 this 8 := gr_val g153 e145 s131 (by decide) rfl
  have e171 : 0 = G152 144 n126 0 := gr_val g153 e150 n126l (by decide) rfl
  have g172 : Gr [93, 94, 95, 96, 97, 98, 114, 115, 116, 117, 118, 130, 144, 153, 154, 155, 156, 157] [(143, 0), (143, 1), (143, 3), (143, 4), (143, 5), (143, 6), (143, 7), (143, 8), (143, 9), (143, 10), (143, 11), (143, 12), (143, 13), (143, 14), (143, 17), (143, 18), (143, 19), (144, 1), (144, 2), (144, 3), (144, 4), (144, 5), (144, 6), (144, 7), (144, 8), (144, 9), (144, 10), (144, 11), (144, 12), (144, 13), (144, 14), (144, 15), (144, 16), (144, 17), (153, 0), (153, 1)] S G S151 G152 := gr_call g146 g153 rfl rfl
  have u173 : UqL [] S151 := uq_gr u147 g153 rfl
  have u174 : No [130, 154, 155, 156, 157] S151 := no_gr (no_sub u148 rfl) g153 rfl
  have u175 : EmL E [] S151 G152 := em_gr u149 g153 rfl
  refine r_finA hX (L := 144) (ci := 1) (fs := fs_144) rfl s162 (by decide) (fun hr176 => ?_)
  refine r_relabF hX (L := 144) (L' := 130) (ci := 1) (fs := fs_144) (fs' := fs_130) rfl rfl rfl (by decide) (by decide) nf_144 (by decide) s162 hf154 (fun S179 G180 r178 => ?_)
  have s182 : S179 this = 143 := r178.lab s162 s155 (by decide)
  have s183 : S179 n6 = 114 := r178.lab s162 s156 (by decide)
  have s184 : S179 n21 = 114 := r178.lab s162 s157 (by decide)
  have s185 : S179 n38 = 95 := r178.lab s162 s158 (by decide)
  have s186 : S179 n57 = 95 := r178.lab s162 s159 (by decide)
  have s187 : S179 n78 = 115 := r178.lab s162 s160 (by decide)
  have s188 : S179 n101 = 117 := r178.lab s162 s161 (by decide)
  have e189 : 40000 = G180 143 this 0 := rs_val r178 s162 e163 s155 (by decide)
  have e190 : 1 = G180 143 this 1 := rs_val r178 s162 e164 s155 (by decide)
  have e191 : n6 = G180 143 this 3 := rs_val r178 s162 e165 s155 (by decide)
  have e192 : n21 = G180 143 this 4 := rs_val r178 s162 e166 s155 (by decide)
  have e193 : n38 = G180 143 this 5 := rs_val r178 s162 e167 s155 (by decide)
  have e194 : n57 = G180 143 this 6 := rs_val r178 s162 e168 s155 (by decide)
  have e195 : n78 = G180 143 this 7 := rs_val r178 s162 e169 s155 (by decide)
  have e196 : n101 = G180 143 this 8 := rs_val r178 s162 e170 s155 (by decide)
  have e197 : 0 = G180 130 n126 0 := e171.trans (r178.2.2.1 0).symm
  have g198 : Gr [93, 94, 95, 96, 97, 98, 114, 115, 116, 117, 118, 130, 144, 153, 154, 155, 156, 157] [(143, 0), (143, 1), (143, 3), (143, 4), (143, 5), (143, 6), (143, 7), (143, 8), (143, 9), (143, 10), (143, 11), (143, 12), (143, 13), (143, 14), (143, 17), (143, 18), (143, 19), (144, 1), (144, 2), (144, 3), (144, 4), (144, 5), (144, 6), (144, 7), (144, 8), (144, 9), (144, 10), (144, 11), (144, 12), (144, 13), (144, 14), (144, 15), (144, 16), (144, 17), (153, 0), (153, 1)] S G S179 G180 := gr_rs g172 r178 z130 rfl
  have u199 : UqL [130] S179 := uq_rs u173 (no_sub u174 rfl) r178 rfl
  have u200 : EmL E [] S179 G180 := em_rsN u175 r178 rfl
  have u201 : No [154, 155, 156, 157] S179 := no_rs u174 r178 rfl
  refine r_putFN hX hP rfl rfl fq_X8_45_143 s182 (by decide) (Or.inr r178.1) (fun h202 => ?_)
  refine r_ex hX hP 1 (pc' := 87) (st' := [(2, this)]) (lo' := [(0, (2, this))]) rfl ?_
  have u203 : EmL E [] S179 (up G180 143 this 9 n126) := (em_up u200 rfl)
  have g204 : Gr [93, 94, 95, 96, 97, 98, 114, 115, 116, 117, 118, 130, 144, 153, 154, 155, 156, 157] [(143, 0), (143, 1), (143, 3), (143, 4), (143, 5), (143, 6), (143, 7), (143, 8), (143, 9), (143, 10), (143, 11), (143, 12), (143, 13), (143, 14), (143, 17), (143, 18), (143, 19), (144, 1), (144, 2), (144, 3), (144, 4), (144, 5), (144, 6), (144, 7), (144, 8), (144, 9), (144, 10), (144, 11), (144, 12), (144, 13), (144, 14), (144, 15), (144, 16), (144, 17), (153, 0), (153, 1)] S G S179 (up G180 143 this 9 n126) := (gr_up g198 rfl)
  refine r_newA hX hP rfl (L := 153) (N := 3) nw_X8_49_153 (by first | decide | omega) (by first | decide | omega) (fun n205 S206 G207 n205z n205n n205l g208 n205v => ?_)
  have z209 : S n205 = 0 := gr_zero g204 n205z
  have s210 : S206 this = 143 := gr_lab g208 s182 (by decide)
  have s211 : S206 n6 = 114 := gr_lab g208 s183 (by decide)
  have s212 : S206 n21 = 114 := gr_lab g208 s184 (by decide)
  have s213 : S206 n38 = 95 := gr_lab g208 s185 (by decide)
  have s214 : S206 n57 = 95 := gr_lab g208 s186 (by decide)
  have s215 : S206 n78 = 115 := gr_lab g208 s187 (by decide)
  have s216 : S206 n101 = 117 := gr_lab g208 s188 (by decide)
  have s217 : S206 n126 = 130 := gr_lab g208 r178.1 (by decide)
  have e218 : 40000 = G207 143 this 0 := gr_val g208 e189 s182 (by decide) rfl
  have e219 : 1 = G207 143 this 1 := gr_val g208 e190 s182 (by decide) rfl
  have e220 : n6 = G207 143 this 3 := gr_val g208 e191 s182 (by decide) rfl
  have e221 : n21 = G207 143 this 4 := gr_val g208 e192 s182 (by decide) rfl
  have e222 : n38 = G207 143 this 5 := gr_val g208 e193 s182 (by decide) rfl
  have e223 : n57 = G207 143 this 6 := gr_val g208 e194 s182 (by decide) rfl
  have e224 : n78 = G207 143 this 7 := gr_val g208 e195 s182 (by decide) rfl
  have e225 : n101 = G207 143 this 8 := gr_val g208 e196 s182 (by decide) rfl
  have e226 : 0 = G207 130 n126 0 := gr_val g208 e197 r178.1 (by decide) rfl
  have e227 : n126 = G207 143 this 9 := gr_val g208 h202 s182 (by decide) rfl
  have g228 : Gr [93, 94, 95, 96, 97, 98, 114, 115, 116, 117, 118, 130, 144, 153, 154, 155, 156, 157] [(143, 0), (143, 1), (143, 3), (143, 4), (143, 5), (143, 6), (143, 7), (143, 8), (143, 9), (143, 10), (143, 11), (143, 12), (143, 13), (143, 14), (143, 17), (143, 18), (143, 19), (144, 1), (144, 2), (144, 3), (144, 4), (144, 5), (144, 6), (144, 7), (144, 8), (144, 9), (144, 10), (144, 11), (144, 12), (144, 13), (144, 14), (144, 15), (144, 16), (144, 17), (153, 0), (153, 1)] S G S206 G207 := gr_call g204 g208 rfl rfl
  have u229 : UqL [130] S206 := uq_gr u199 g208 rfl
  have u230 : No [154, 155, 156, 157] S206 := no_gr (no_sub u201 rfl) g208 rfl
  have u231 : EmL E [] S206 G207 := em_gr u203 g208 rfl
  refine r_ex hX hP 1 (pc' := 91) (st' := [(2, n205), (2, n205), (2, this)]) (lo' := [(0, (2, this))]) rfl ?_
  refine r_callI gd hX hP rfl ci_X8_51 n205n (d' := 5) (mc' := 0) (ms' := 0) (as' := []) (st := [(2, n205), (2, this)]) (by first | decide | omega) (by first | decide | omega) (by first | decide | omega) rfl rfl (Nat.le_of_ble_eq_true rfl) (c_Jx4a65c_init_da8c8 E S206 G207 n205  n205l) ?_
  rintro _ _ _ ⟨rfl, ⟨G232, rfl⟩, rfl, elh233, elh233e, f234⟩
  have e236 : Ad E 0 = (hw [(153, 0), (153, 1)] G207 G232) 153 n205 1 := by rw [← f234]; exact elh233e
  have u237 : EmL E [] S206 (hw [(153, 0), (153, 1)] G207 G232) := (em_hw u231 rfl)
  have g238 : Gr [93, 94, 95, 96, 97, 98, 114, 115, 116, 117, 118, 130, 144, 153, 154, 155, 156, 157] [(143, 0), (143, 1), (143, 3), (143, 4), (143, 5), (143, 6), (143, 7), (143, 8), (143, 9), (143, 10), (143, 11), (143, 12), (143, 13), (143, 14), (143, 17), (143, 18), (143, 19), (144, 1), (144, 2), (144, 3), (144, 4), (144, 5), (144, 6), (144, 7), (144, 8), (144, 9), (144, 10), (144, 11), (144, 12), (144, 13), (144, 14), (144, 15), (144, 16), (144, 17), (153, 0), (153, 1)] S G S206 (hw [(153, 0), (153, 1)] G207 G232) := (gr_hw g228 rfl)
  refine r_finA hX (L := 153) (ci := 0) (fs := fs_153) rfl n205l (by decide) (fun hr239 => ?_)
  have hf240 : Fnl E fs_154 153 S206 (hw [(153, 0), (153, 1)] G207 G232) n205 := by
    intro j hj
    rcases (by have : j < 3 := hj; omega : j = 0 ∨ j = 1 ∨ j = 2) with rfl | rfl | rfl
    · exact hr239 0 (by decide)
    · exact Or.inl e236.symm
    · have e : (0 : Int) ≤ (hw [(153, 0), (153, 1)] G207 G232) 153 n205 2 ∧ (hw [(153, 0), (153, 1)] G207 G232) 153 n205 2 ≤ 0 := hr239 2 (by decide); show (0 : Int) ≤ (hw [(153, 0), (153, 1)] G207 G232) 153 n205 2 ∧ (hw [(153, 0), (153, 1)] G207 G232) 153 n205 2 ≤ 40; omega
  refine r_relabF hX (L := 153) (L' := 154) (ci := 0) (fs := fs_153) (fs' := fs_154) rfl rfl rfl (by decide) (by decide) nf_153 (by decide) n205l hf240 (fun S242 G243 r241 => ?_)
  have s245 : S242 this = 143 := r241.lab n205l s210 (by decide)
  have s246 : S242 n6 = 114 := r241.lab n205l s211 (by decide)
  have s247 : S242 n21 = 114 := r241.lab n205l s212 (by decide)
  have s248 : S242 n38 = 95 := r241.lab n205l s213 (by decide)
  have s249 : S242 n57 = 95 := r241.lab n205l s214 (by decide)
  have s250 : S242 n78 = 115 := r241.lab n205l s215 (by decide)
  have s251 : S242 n101 = 117 := r241.lab n205l s216 (by decide)
  have s252 : S242 n126 = 130 := r241.lab n205l s217 (by decide)
  have e253 : 40000 = G243 143 this 0 := rs_val r241 n205l e218 s210 (by decide)
  have e254 : 1 = G243 143 this 1 := rs_val r241 n205l e219 s210 (by decide)
  have e255 : n6 = G243 143 this 3 := rs_val r241 n205l e220 s210 (by decide)
  have e256 : n21 = G243 143 this 4 := rs_val r241 n205l e221 s210 (by decide)
  have e257 : n38 = G243 143 this 5 := rs_val r241 n205l e222 s210 (by decide)
  have e258 : n57 = G243 143 this 6 := rs_val r241 n205l e223 s210 (by decide)
  have e259 : n78 = G243 143 this 7 := rs_val r241 n205l e224 s210 (by decide)
  have e260 : n101 = G243 143 this 8 := rs_val r241 n205l e225 s210 (by decide)
  have e261 : 0 = G243 130 n126 0 := rs_val r241 n205l e226 s217 (by decide)
  have e262 : n126 = G243 143 this 9 := rs_val r241 n205l e227 s210 (by decide)
  have e263 : (Ad E 0) = G243 154 n205 1 := e236.trans (r241.2.2.1 1).symm
  have g264 : Gr [93, 94, 95, 96, 97, 98, 114, 115, 116, 117, 118, 130, 144, 153, 154, 155, 156, 157] [(143, 0), (143, 1), (143, 3), (143, 4), (143, 5), (143, 6), (143, 7), (143, 8), (143, 9), (143, 10), (143, 11), (143, 12), (143, 13), (143, 14), (143, 17), (143, 18), (143, 19), (144, 1), (144, 2), (144, 3), (144, 4), (144, 5), (144, 6), (144, 7), (144, 8), (144, 9), (144, 10), (144, 11), (144, 12), (144, 13), (144, 14), (144, 15), (144, 16), (144, 17), (153, 0), (153, 1)] S G S242 G243 := gr_rs g238 r241 z209 rfl
  have u265 : UqL [154, 130] S242 := uq_rs u229 (no_sub u230 rfl) r241 rfl
  have u266 : EmL E [154] S242 G243 := em_rs u237 (no_sub u230 rfl) r241 e236 (by have e : (0 : Int) ≤ (hw [(153, 0), (153, 1)] G207 G232) 153 n205 2 ∧ (hw [(153, 0), (153, 1)] G207 G232) 153 n205 2 ≤ 0 := hr239 2 (by decide); omega) rfl
  have u267 : No [155, 156, 157] S242 := no_rs u230 r241 rfl
  refine r_putFN hX hP rfl rfl fq_X8_52_143 s245 (by decide) (Or.inr r241.1) (fun h268 => ?_)
  refine r_ex hX hP 1 (pc' := 98) (st' := [(2, this)]) (lo' := [(0, (2, this))]) rfl ?_
  have u269 : EmL E [154] S242 (up G243 143 this 10 n205) := (em_up u266 rfl)
  have g270 : Gr [93, 94, 95, 96, 97, 98, 114, 115, 116, 117, 118, 130, 144, 153, 154, 155, 156, 157] [(143, 0), (143, 1), (143, 3), (143, 4), (143, 5), (143, 6), (143, 7), (143, 8), (143, 9), (143, 10), (143, 11), (143, 12), (143, 13), (143, 14), (143, 17), (143, 18), (143, 19), (144, 1), (144, 2), (144, 3), (144, 4), (144, 5), (144, 6), (144, 7), (144, 8), (144, 9), (144, 10), (144, 11), (144, 12), (144, 13), (144, 14), (144, 15), (144, 16), (144, 17), (153, 0), (153, 1)] S G S242 (up G243 143 this 10 n205) := (gr_up g264 rfl)
  refine r_newA hX hP rfl (L := 153) (N := 3) nw_X8_49_153 (by first | decide | omega) (by first | decide | omega) (fun n271 S272 G273 n271z n271n n271l g274 n271v => ?_)
  have z275 : S n271 = 0 := gr_zero g270 n271z
  have s276 : S272 this = 143 := gr_lab g274 s245 (by decide)
  have s277 : S272 n6 = 114 := gr_lab g274 s246 (by decide)
  have s278 : S272 n21 = 114 := gr_lab g274 s247 (by decide)
  have s279 : S272 n38 = 95 := gr_lab g274 s248 (by decide)
  have s280 : S272 n57 = 95 := gr_lab g274 s249 (by decide)
  have s281 : S272 n78 = 115 := gr_lab g274 s250 (by decide)
  have s282 : S272 n101 = 117 := gr_lab g274 s251 (by decide)
  have s283 : S272 n126 = 130 := gr_lab g274 s252 (by decide)
  have s284 : S272 n205 = 154 := gr_lab g274 r241.1 (by decide)
  have e285 : 40000 = G273 143 this 0 := gr_val g274 e253 s245 (by decide) rfl
  have e286 : 1 = G273 143 this 1 := gr_val g274 e254 s245 (by decide) rfl
  have e287 : n6 = G273 143 this 3 := gr_val g274 e255 s245 (by decide) rfl
  have e288 : n21 = G273 143 this 4 := gr_val g274 e256 s245 (by decide) rfl
  have e289 : n38 = G273 143 this 5 := gr_val g274 e257 s245 (by decide) rfl
  have e290 : n57 = G273 143 this 6 := gr_val g274 e258 s245 (by decide) rfl
  have e291 : n78 = G273 143 this 7 := gr_val g274 e259 s245 (by decide) rfl
  have e292 : n101 = G273 143 this 8 := gr_val g274 e260 s245 (by decide) rfl
  have e293 : 0 = G273 130 n126 0 := gr_val g274 e261 s252 (by decide) rfl
  have e294 : n126 = G273 143 this 9 := gr_val g274 e262 s245 (by decide) rfl
  have e295 : (Ad E 0) = G273 154 n205 1 := gr_val g274 e263 r241.1 (by decide) rfl
  have e296 : n205 = G273 143 this 10 := gr_val g274 h268 s245 (by decide) rfl
  have g297 : Gr [93, 94, 95, 96, 97, 98, 114, 115, 116, 117, 118, 130, 144, 153, 154, 155, 156, 157] [(143, 0), (143, 1), (143, 3), (143, 4), (143, 5), (143, 6), (143, 7), (143, 8), (143, 9), (143, 10), (143, 11), (143, 12), (143, 13), (143, 14), (143, 17), (143, 18), (143, 19), (144, 1), (144, 2), (144, 3), (144, 4), (144, 5), (144, 6), (144, 7), (144, 8), (144, 9), (144, 10), (144, 11), (144, 12), (144, 13), (144, 14), (144, 15), (144, 16), (144, 17), (153, 0), (153, 1)] S G S272 G273 := gr_call g270 g274 rfl rfl
  have u298 : UqL [154, 130] S272 := uq_gr u265 g274 rfl
  have u299 : No [155, 156, 157] S272 := no_gr (no_sub u267 rfl) g274 rfl
  have u300 : EmL E [154] S272 G273 := em_gr u269 g274 rfl
  refine r_ex hX hP 1 (pc' := 102) (st' := [(2, n271), (2, n271), (2, this)]) (lo' := [(0, (2, this))]) rfl ?_
  refine r_callI gd hX hP rfl ci_X8_51 n271n (d' := 5) (mc' := 0) (ms' := 0) (as' := []) (st := [(2, n271), (2, this)]) (by first | decide | omega) (by first | decide | omega) (by first | decide | omega) rfl rfl (Nat.le_of_ble_eq_true rfl) (c_Jx4a65c_init_da8c8 E S272 G273 n271  n271l) ?_
  rintro _ _ _ ⟨rfl, ⟨G301, rfl⟩, rfl, elh302, elh302e, f303⟩
  have e305 : Ad E 0 = (hw [(153, 0), (153, 1)] G273 G301) 153 n271 1 := by rw [← f303]; exact elh302e
  have u306 : EmL E [154] S272 (hw [(153, 0), (153, 1)] G273 G301) := (em_hw u300 rfl)
  have g307 : Gr [93, 94, 95, 96, 97, 98, 114, 115, 116, 117, 118, 130, 144, 153, 154, 155, 156, 157] [(143, 0), (143, 1), (143, 3), (143, 4), (143, 5), (143, 6), (143, 7), (143, 8), (143, 9), (143, 10), (143, 11), (143, 12), (143, 13), (143, 14), (143, 17), (143, 18), (143, 19), (144, 1), (144, 2), (144, 3), (144, 4), (144, 5), (144, 6), (144, 7), (144, 8), (144, 9), (144, 10), (144, 11), (144, 12), (144, 13), (144, 14), (144, 15), (144, 16), (144, 17), (153, 0), (153, 1)] S G S272 (hw [(153, 0), (153, 1)] G273 G301) := (gr_hw g297 rfl)
  refine r_finA hX (L := 153) (ci := 0) (fs := fs_153) rfl n271l (by decide) (fun hr308 => ?_)
  have hf309 : Fnl E fs_155 153 S272 (hw [(153, 0), (153, 1)] G273 G301) n271 := by
    intro j hj
    rcases (by have : j < 3 := hj; omega : j = 0 ∨ j = 1 ∨ j = 2) with rfl | rfl | rfl
    · exact hr308 0 (by decide)
    · exact Or.inl e305.symm
    · have e : (0 : Int) ≤ (hw [(153, 0), (153, 1)] G273 G301) 153 n271 2 ∧ (hw [(153, 0), (153, 1)] G273 G301) 153 n271 2 ≤ 0 := hr308 2 (by decide); show (0 : Int) ≤ (hw [(153, 0), (153, 1)] G273 G301) 153 n271 2 ∧ (hw [(153, 0), (153, 1)] G273 G301) 153 n271 2 ≤ 40; omega
  refine r_relabF hX (L := 153) (L' := 155) (ci := 0) (fs := fs_153) (fs' := fs_155) rfl rfl rfl (by decide) (by decide) nf_153 (by decide) n271l hf309 (fun S311 G312 r310 => ?_)
  have s314 : S311 this = 143 := r310.lab n271l s276 (by decide)
  have s315 : S311 n6 = 114 := r310.lab n271l s277 (by decide)
  have s316 : S311 n21 = 114 := r310.lab n271l s278 (by decide)
  have s317 : S311 n38 = 95 := r310.lab n271l s279 (by decide)
  have s318 : S311 n57 = 95 := r310.lab n271l s280 (by decide)
  have s319 : S311 n78 = 115 := r310.lab n271l s281 (by decide)
  have s320 : S311 n101 = 117 := r310.lab n271l s282 (by decide)
  have s321 : S311 n126 = 130 := r310.lab n271l s283 (by decide)
  have s322 : S311 n205 = 154 := r310.lab n271l s284 (by decide)
  have e323 : 40000 = G312 143 this 0 := rs_val r310 n271l e285 s276 (by decide)
  have e324 : 1 = G312 143 this 1 := rs_val r310 n271l e286 s276 (by decide)
  have e325 : n6 = G312 143 this 3 := rs_val r310 n271l e287 s276 (by decide)
  have e326 : n21 = G312 143 this 4 := rs_val r310 n271l e288 s276 (by decide)
  have e327 : n38 = G312 143 this 5 := rs_val r310 n271l e289 s276 (by decide)
  have e328 : n57 = G312 143 this 6 := rs_val r310 n271l e290 s276 (by decide)
  have e329 : n78 = G312 143 this 7 := rs_val r310 n271l e291 s276 (by decide)
  have e330 : n101 = G312 143 this 8 := rs_val r310 n271l e292 s276 (by decide)
  have e331 : 0 = G312 130 n126 0 := rs_val r310 n271l e293 s283 (by decide)
  have e332 : n126 = G312 143 this 9 := rs_val r310 n271l e294 s276 (by decide)
  have e333 : (Ad E 0) = G312 154 n205 1 := rs_val r310 n271l e295 s284 (by decide)
  have e334 : n205 = G312 143 this 10 := rs_val r310 n271l e296 s276 (by decide)
  have e335 : (Ad E 0) = G312 155 n271 1 := e305.trans (r310.2.2.1 1).symm
  have g336 : Gr [93, 94, 95, 96, 97, 98, 114, 115, 116, 117, 118, 130, 144, 153, 154, 155, 156, 157] [(143, 0), (143, 1), (143, 3), (143, 4), (143, 5), (143, 6), (143, 7), (143, 8), (143, 9), (143, 10), (143, 11), (143, 12), (143, 13), (143, 14), (143, 17), (143, 18), (143, 19), (144, 1), (144, 2), (144, 3), (144, 4), (144, 5), (144, 6), (144, 7), (144, 8), (144, 9), (144, 10), (144, 11), (144, 12), (144, 13), (144, 14), (144, 15), (144, 16), (144, 17), (153, 0), (153, 1)] S G S311 G312 := gr_rs g307 r310 z275 rfl
  have u337 : UqL [155, 154, 130] S311 := uq_rs u298 (no_sub u299 rfl) r310 rfl
  have u338 : EmL E [155, 154] S311 G312 := em_rs u306 (no_sub u299 rfl) r310 e305 (by have e : (0 : Int) ≤ (hw [(153, 0), (153, 1)] G273 G301) 153 n271 2 ∧ (hw [(153, 0), (153, 1)] G273 G301) 153 n271 2 ≤ 0 := hr308 2 (by decide); omega) rfl
  have u339 : No [156, 157] S311 := no_rs u299 r310 rfl
  refine r_putFN hX hP rfl rfl fq_X8_56_143 s314 (by decide) (Or.inr r310.1) (fun h340 => ?_)
  refine r_ex hX hP 1 (pc' := 109) (st' := [(2, this)]) (lo' := [(0, (2, this))]) rfl ?_
  have u341 : EmL E [155, 154] S311 (up G312 143 this 11 n271) := (em_up u338 rfl)
  have g342 : Gr [93, 94, 95, 96, 97, 98, 114, 115, 116, 117, 118, 130, 144, 153, 154, 155, 156, 157] [(143, 0), (143, 1), (143, 3), (143, 4), (143, 5), (143, 6), (143, 7), (143, 8), (143, 9), (143, 10), (143, 11), (143, 12), (143, 13), (143, 14), (143, 17), (143, 18), (143, 19), (144, 1), (144, 2), (144, 3), (144, 4), (144, 5), (144, 6), (144, 7), (144, 8), (144, 9), (144, 10), (144, 11), (144, 12), (144, 13), (144, 14), (144, 15), (144, 16), (144, 17), (153, 0), (153, 1)] S G S311 (up G312 143 this 11 n271) := (gr_up g336 rfl)
  refine r_newA hX hP rfl (L := 153) (N := 3) nw_X8_49_153 (by first | decide | omega) (by first | decide | omega) (fun n343 S344 G345 n343z n343n n343l g346 n343v => ?_)
  have z347 : S n343 = 0 := gr_zero g342 n343z
  have s348 : S344 this = 143 := gr_lab g346 s314 (by decide)
  have s349 : S344 n6 = 114 := gr_lab g346 s315 (by decide)
  have s350 : S344 n21 = 114 := gr_lab g346 s316 (by decide)
  have s351 : S344 n38 = 95 := gr_lab g346 s317 (by decide)
  have s352 : S344 n57 = 95 := gr_lab g346 s318 (by decide)
  have s353 : S344 n78 = 115 := gr_lab g346 s319 (by decide)
  have s354 : S344 n101 = 117 := gr_lab g346 s320 (by decide)
  have s355 : S344 n126 = 130 := gr_lab g346 s321 (by decide)
  have s356 : S344 n205 = 154 := gr_lab g346 s322 (by decide)
  have s357 : S344 n271 = 155 := gr_lab g346 r310.1 (by decide)
  have e358 : 40000 = G345 143 this 0 := gr_val g346 e323 s314 (by decide) rfl
  have e359 : 1 = G345 143 this 1 := gr_val g346 e324 s314 (by decide) rfl
  have e360 : n6 = G345 143 this 3 := gr_val g346 e325 s314 (by decide) rfl
  have e361 : n21 = G345 143 this 4 := gr_val g346 e326 s314 (by decide) rfl
  have e362 : n38 = G345 143 this 5 := gr_val g346 e327 s314 (by decide) rfl
  have e363 : n57 = G345 143 this 6 := gr_val g346 e328 s314 (by decide) rfl
  have e364 : n78 = G345 143 this 7 := gr_val g346 e329 s314 (by decide) rfl
  have e365 : n101 = G345 143 this 8 := gr_val g346 e330 s314 (by decide) rfl
  have e366 : 0 = G345 130 n126 0 := gr_val g346 e331 s321 (by decide) rfl
  have e367 : n126 = G345 143 this 9 := gr_val g346 e332 s314 (by decide) rfl
  have e368 : (Ad E 0) = G345 154 n205 1 := gr_val g346 e333 s322 (by decide) rfl
  have e369 : n205 = G345 143 this 10 := gr_val g346 e334 s314 (by decide) rfl
  have e370 : (Ad E 0) = G345 155 n271 1 := gr_val g346 e335 r310.1 (by decide) rfl
  have e371 : n271 = G345 143 this 11 := gr_val g346 h340 s314 (by decide) rfl
  have g372 : Gr [93, 94, 95, 96, 97, 98, 114, 115, 116, 117, 118, 130, 144, 153, 154, 155, 156, 157] [(143, 0), (143, 1), (143, 3), (143, 4), (143, 5), (143, 6), (143, 7), (143, 8), (143, 9), (143, 10), (143, 11), (143, 12), (143, 13), (143, 14), (143, 17), (143, 18), (143, 19), (144, 1), (144, 2), (144, 3), (144, 4), (144, 5), (144, 6), (144, 7), (144, 8), (144, 9), (144, 10), (144, 11), (144, 12), (144, 13), (144, 14), (144, 15), (144, 16), (144, 17), (153, 0), (153, 1)] S G S344 G345 := gr_call g342 g346 rfl rfl
  have u373 : UqL [155, 154, 130] S344 := uq_gr u337 g346 rfl
  have u374 : No [156, 157] S344 := no_gr (no_sub u339 rfl) g346 rfl
  have u375 : EmL E [155, 154] S344 G345 := em_gr u341 g346 rfl
  refine r_ex hX hP 1 (pc' := 113) (st' := [(2, n343), (2, n343), (2, this)]) (lo' := [(0, (2, this))]) rfl ?_
  refine r_callI gd hX hP rfl ci_X8_51 n343n (d' := 5) (mc' := 0) (ms' := 0) (as' := []) (st := [(2, n343), (2, this)]) (by first | decide | omega) (by first | decide | omega) (by first | decide | omega) rfl rfl (Nat.le_of_ble_eq_true rfl) (c_Jx4a65c_init_da8c8 E S344 G345 n343  n343l) ?_
  rintro _ _ _ ⟨rfl, ⟨G376, rfl⟩, rfl, elh377, elh377e, f378⟩
  have e380 : Ad E 0 = (hw [(153, 0), (153, 1)] G345 G376) 153 n343 1 := by rw [← f378]; exact elh377e
  have u381 : EmL E [155, 154] S344 (hw [(153, 0), (153, 1)] G345 G376) := (em_hw u375 rfl)
  have g382 : Gr [93, 94, 95, 96, 97, 98, 114, 115, 116, 117, 118, 130, 144, 153, 154, 155, 156, 157] [(143, 0), (143, 1), (143, 3), (143, 4), (143, 5), (143, 6), (143, 7), (143, 8), (143, 9), (143, 10), (143, 11), (143, 12), (143, 13), (143, 14), (143, 17), (143, 18), (143, 19), (144, 1), (144, 2), (144, 3), (144, 4), (144, 5), (144, 6), (144, 7), (144, 8), (144, 9), (144, 10), (144, 11), (144, 12), (144, 13), (144, 14), (144, 15), (144, 16), (144, 17), (153, 0), (153, 1)] S G S344 (hw [(153, 0), (153, 1)] G345 G376) := (gr_hw g372 rfl)
  refine r_finA hX (L := 153) (ci := 0) (fs := fs_153) rfl n343l (by decide) (fun hr383 => ?_)
  have hf384 : Fnl E fs_156 153 S344 (hw [(153, 0), (153, 1)] G345 G376) n343 := by
    intro j hj
    rcases (by have : j < 3 := hj; omega : j = 0 ∨ j = 1 ∨ j = 2) with rfl | rfl | rfl
    · exact hr383 0 (by decide)
    · exact Or.inl e380.symm
    · have e : (0 : Int) ≤ (hw [(153, 0), (153, 1)] G345 G376) 153 n343 2 ∧ (hw [(153, 0), (153, 1)] G345 G376) 153 n343 2 ≤ 0 := hr383 2 (by decide); show (0 : Int) ≤ (hw [(153, 0), (153, 1)] G345 G376) 153 n343 2 ∧ (hw [(153, 0), (153, 1)] G345 G376) 153 n343 2 ≤ 16; omega
  refine r_relabF hX (L := 153) (L' := 156) (ci := 0) (fs := fs_153) (fs' := fs_156) rfl rfl rfl (by decide) (by decide) nf_153 (by decide) n343l hf384 (fun S386 G387 r385 => ?_)
  have s389 : S386 this = 143 := r385.lab n343l s348 (by decide)
  have s390 : S386 n6 = 114 := r385.lab n343l s349 (by decide)
  have s391 : S386 n21 = 114 := r385.lab n343l s350 (by decide)
  have s392 : S386 n38 = 95 := r385.lab n343l s351 (by decide)
  have s393 : S386 n57 = 95 := r385.lab n343l s352 (by decide)
  have s394 : S386 n78 = 115 := r385.lab n343l s353 (by decide)
  have s395 : S386 n101 = 117 := r385.lab n343l s354 (by decide)
  have s396 : S386 n126 = 130 := r385.lab n343l s355 (by decide)
  have s397 : S386 n205 = 154 := r385.lab n343l s356 (by decide)
  have s398 : S386 n271 = 155 := r385.lab n343l s357 (by decide)
  have e399 : 40000 = G387 143 this 0 := rs_val r385 n343l e358 s348 (by decide)
  have e400 : 1 = G387 143 this 1 := rs_val r385 n343l e359 s348 (by decide)
  have e401 : n6 = G387 143 this 3 := rs_val r385 n343l e360 s348 (by decide)
  have e402 : n21 = G387 143 this 4 := rs_val r385 n343l e361 s348 (by decide)
  have e403 : n38 = G387 143 this 5 := rs_val r385 n343l e362 s348 (by decide)
  have e404 : n57 = G387 143 this 6 := rs_val r385 n343l e363 s348 (by decide)
  have e405 : n78 = G387 143 this 7 := rs_val r385 n343l e364 s348 (by decide)
  have e406 : n101 = G387 143 this 8 := rs_val r385 n343l e365 s348 (by decide)
  have e407 : 0 = G387 130 n126 0 := rs_val r385 n343l e366 s355 (by decide)
  have e408 : n126 = G387 143 this 9 := rs_val r385 n343l e367 s348 (by decide)
  have e409 : (Ad E 0) = G387 154 n205 1 := rs_val r385 n343l e368 s356 (by decide)
  have e410 : n205 = G387 143 this 10 := rs_val r385 n343l e369 s348 (by decide)
  have e411 : (Ad E 0) = G387 155 n271 1 := rs_val r385 n343l e370 s357 (by decide)
  have e412 : n271 = G387 143 this 11 := rs_val r385 n343l e371 s348 (by decide)
  have e413 : (Ad E 0) = G387 156 n343 1 := e380.trans (r385.2.2.1 1).symm
  have g414 : Gr [93, 94, 95, 96, 97, 98, 114, 115, 116, 117, 118, 130, 144, 153, 154, 155, 156, 157] [(143, 0), (143, 1), (143, 3), (143, 4), (143, 5), (143, 6), (143, 7), (143, 8), (143, 9), (143, 10), (143, 11), (143, 12), (143, 13), (143, 14), (143, 17), (143, 18), (143, 19), (144, 1), (144, 2), (144, 3), (144, 4), (144, 5), (144, 6), (144, 7), (144, 8), (144, 9), (144, 10), (144, 11), (144, 12), (144, 13), (144, 14), (144, 15), (144, 16), (144, 17), (153, 0), (153, 1)] S G S386 G387 := gr_rs g382 r385 z347 rfl
  have u415 : UqL [156, 155, 154, 130] S386 := uq_rs u373 (no_sub u374 rfl) r385 rfl
  have u416 : EmL E [156, 155, 154] S386 G387 := em_rs u381 (no_sub u374 rfl) r385 e380 (by have e : (0 : Int) ≤ (hw [(153, 0), (153, 1)] G345 G376) 153 n343 2 ∧ (hw [(153, 0), (153, 1)] G345 G376) 153 n343 2 ≤ 0 := hr383 2 (by decide); omega) rfl
  have u417 : No [157] S386 := no_rs u374 r385 rfl
  refine r_putFN hX hP rfl rfl fq_X8_59_143 s389 (by decide) (Or.inr r385.1) (fun h418 => ?_)
  refine r_ex hX hP 1 (pc' := 120) (st' := [(2, this)]) (lo' := [(0, (2, this))]) rfl ?_
  have u419 : EmL E [156, 155, 154] S386 (up G387 143 this 12 n343) := (em_up u416 rfl)
  have g420 : Gr [93, 94, 95, 96, 97, 98, 114, 115, 116, 117, 118, 130, 144, 153, 154, 155, 156, 157] [(143, 0), (143, 1), (143, 3), (143, 4), (143, 5), (143, 6), (143, 7), (143, 8), (143, 9), (143, 10), (143, 11), (143, 12), (143, 13), (143, 14), (143, 17), (143, 18), (143, 19), (144, 1), (144, 2), (144, 3), (144, 4), (144, 5), (144, 6), (144, 7), (144, 8), (144, 9), (144, 10), (144, 11), (144, 12), (144, 13), (144, 14), (144, 15), (144, 16), (144, 17), (153, 0), (153, 1)] S G S386 (up G387 143 this 12 n343) := (gr_up g414 rfl)
  refine r_newA hX hP rfl (L := 153) (N := 3) nw_X8_49_153 (by first | decide | omega) (by first | decide | omega) (fun n421 S422 G423 n421z n421n n421l g424 n421v => ?_)
  have z425 : S n421 = 0 := gr_zero g420 n421z
  have s426 : S422 this = 143 := gr_lab g424 s389 (by decide)
  have s427 : S422 n6 = 114 := gr_lab g424 s390 (by decide)
  have s428 : S422 n21 = 114 := gr_lab g424 s391 (by decide)
  have s429 : S422 n38 = 95 := gr_lab g424 s392 (by decide)
  have s430 : S422 n57 = 95 := gr_lab g424 s393 (by decide)
  have s431 : S422 n78 = 115 := gr_lab g424 s394 (by decide)
  have s432 : S422 n101 = 117 := gr_lab g424 s395 (by decide)
  have s433 : S422 n126 = 130 := gr_lab g424 s396 (by decide)
  have s434 : S422 n205 = 154 := gr_lab g424 s397 (by decide)
  have s435 : S422 n271 = 155 := gr_lab g424 s398 (by decide)
  have s436 : S422 n343 = 156 := gr_lab g424 r385.1 (by decide)
  have e437 : 40000 = G423 143 this 0 := gr_val g424 e399 s389 (by decide) rfl
  have e438 : 1 = G423 143 this 1 := gr_val g424 e400 s389 (by decide) rfl
  have e439 : n6 = G423 143 this 3 := gr_val g424 e401 s389 (by decide) rfl
  have e440 : n21 = G423 143 this 4 := gr_val g424 e402 s389 (by decide) rfl
  have e441 : n38 = G423 143 this 5 := gr_val g424 e403 s389 (by decide) rfl
  have e442 : n57 = G423 143 this 6 := gr_val g424 e404 s389 (by decide) rfl
  have e443 : n78 = G423 143 this 7 := gr_val g424 e405 s389 (by decide) rfl
  have e444 : n101 = G423 143 this 8 := gr_val g424 e406 s389 (by decide) rfl
  have e445 : 0 = G423 130 n126 0 := gr_val g424 e407 s396 (by decide) rfl
  have e446 : n126 = G423 143 this 9 := gr_val g424 e408 s389 (by decide) rfl
  have e447 : (Ad E 0) = G423 154 n205 1 := gr_val g424 e409 s397 (by decide) rfl
  have e448 : n205 = G423 143 this 10 := gr_val g424 e410 s389 (by decide) rfl
  have e449 : (Ad E 0) = G423 155 n271 1 := gr_val g424 e411 s398 (by decide) rfl
  have e450 : n271 = G423 143 this 11 := gr_val g424 e412 s389 (by decide) rfl
  have e451 : (Ad E 0) = G423 156 n343 1 := gr_val g424 e413 r385.1 (by decide) rfl
  have e452 : n343 = G423 143 this 12 := gr_val g424 h418 s389 (by decide) rfl
  have g453 : Gr [93, 94, 95, 96, 97, 98, 114, 115, 116, 117, 118, 130, 144, 153, 154, 155, 156, 157] [(143, 0), (143, 1), (143, 3), (143, 4), (143, 5), (143, 6), (143, 7), (143, 8), (143, 9), (143, 10), (143, 11), (143, 12), (143, 13), (143, 14), (143, 17), (143, 18), (143, 19), (144, 1), (144, 2), (144, 3), (144, 4), (144, 5), (144, 6), (144, 7), (144, 8), (144, 9), (144, 10), (144, 11), (144, 12), (144, 13), (144, 14), (144, 15), (144, 16), (144, 17), (153, 0), (153, 1)] S G S422 G423 := gr_call g420 g424 rfl rfl
  have u454 : UqL [156, 155, 154, 130] S422 := uq_gr u415 g424 rfl
  have u455 : No [157] S422 := no_gr (no_sub u417 rfl) g424 rfl
  have u456 : EmL E [156, 155, 154] S422 G423 := em_gr u419 g424 rfl
  refine r_ex hX hP 1 (pc' := 124) (st' := [(2, n421), (2, n421), (2, this)]) (lo' := [(0, (2, this))]) rfl ?_
  refine r_callI gd hX hP rfl ci_X8_51 n421n (d' := 5) (mc' := 0) (ms' := 0) (as' := []) (st := [(2, n421), (2, this)]) (by first | decide | omega) (by first | decide | omega) (by first | decide | omega) rfl rfl (Nat.le_of_ble_eq_true rfl) (c_Jx4a65c_init_da8c8 E S422 G423 n421  n421l) ?_
  rintro _ _ _ ⟨rfl, ⟨G457, rfl⟩, rfl, elh458, elh458e, f459⟩
  have e461 : Ad E 0 = (hw [(153, 0), (153, 1)] G423 G457) 153 n421 1 := by rw [← f459]; exact elh458e
  have u462 : EmL E [156, 155, 154] S422 (hw [(153, 0), (153, 1)] G423 G457) := (em_hw u456 rfl)
  have g463 : Gr [93, 94, 95, 96, 97, 98, 114, 115, 116, 117, 118, 130, 144, 153, 154, 155, 156, 157] [(143, 0), (143, 1), (143, 3), (143, 4), (143, 5), (143, 6), (143, 7), (143, 8), (143, 9), (143, 10), (143, 11), (143, 12), (143, 13), (143, 14), (143, 17), (143, 18), (143, 19), (144, 1), (144, 2), (144, 3), (144, 4), (144, 5), (144, 6), (144, 7), (144, 8), (144, 9), (144, 10), (144, 11), (144, 12), (144, 13), (144, 14), (144, 15), (144, 16), (144, 17), (153, 0), (153, 1)] S G S422 (hw [(153, 0), (153, 1)] G423 G457) := (gr_hw g453 rfl)
  refine r_finA hX (L := 153) (ci := 0) (fs := fs_153) rfl n421l (by decide) (fun hr464 => ?_)
  have hf465 : Fnl E fs_157 153 S422 (hw [(153, 0), (153, 1)] G423 G457) n421 := by
    intro j hj
    rcases (by have : j < 3 := hj; omega : j = 0 ∨ j = 1 ∨ j = 2) with rfl | rfl | rfl
    · exact hr464 0 (by decide)
    · exact Or.inl e461.symm
    · have e : (0 : Int) ≤ (hw [(153, 0), (153, 1)] G423 G457) 153 n421 2 ∧ (hw [(153, 0), (153, 1)] G423 G457) 153 n421 2 ≤ 0 := hr464 2 (by decide); show (0 : Int) ≤ (hw [(153, 0), (153, 1)] G423 G457) 153 n421 2 ∧ (hw [(153, 0), (153, 1)] G423 G457) 153 n421 2 ≤ 60; omega
  refine r_relabF hX (L := 153) (L' := 157) (ci := 0) (fs := fs_153) (fs' := fs_157) rfl rfl rfl (by decide) (by decide) nf_153 (by decide) n421l hf465 (fun S467 G468 r466 => ?_)
  have s470 : S467 this = 143 := r466.lab n421l s426 (by decide)
  have s471 : S467 n6 = 114 := r466.lab n421l s427 (by decide)
  have s472 : S467 n21 = 114 := r466.lab n421l s428 (by decide)
  have s473 : S467 n38 = 95 := r466.lab n421l s429 (by decide)
  have s474 : S467 n57 = 95 := r466.lab n421l s430 (by decide)
  have s475 : S467 n78 = 115 := r466.lab n421l s431 (by decide)
  have s476 : S467 n101 = 117 := r466.lab n421l s432 (by decide)
  have s477 : S467 n126 = 130 := r466.lab n421l s433 (by decide)
  have s478 : S467 n205 = 154 := r466.lab n421l s434 (by decide)
  have s479 : S467 n271 = 155 := r466.lab n421l s435 (by decide)
  have s480 : S467 n343 = 156 := r466.lab n421l s436 (by decide)
  have e481 : 40000 = G468 143 this 0 := rs_val r466 n421l e437 s426 (by decide)
  have e482 : 1 = G468 143 this 1 := rs_val r466 n421l e438 s426 (by decide)
  have e483 : n6 = G468 143 this 3 := rs_val r466 n421l e439 s426 (by decide)
  have e484 : n21 = G468 143 this 4 := rs_val r466 n421l e440 s426 (by decide)
  have e485 : n38 = G468 143 this 5 := rs_val r466 n421l e441 s426 (by decide)
  have e486 : n57 = G468 143 this 6 := rs_val r466 n421l e442 s426 (by decide)
  have e487 : n78 = G468 143 this 7 := rs_val r466 n421l e443 s426 (by decide)
  have e488 : n101 = G468 143 this 8 := rs_val r466 n421l e444 s426 (by decide)
  have e489 : 0 = G468 130 n126 0 := rs_val r466 n421l e445 s433 (by decide)
  have e490 : n126 = G468 143 this 9 := rs_val r466 n421l e446 s426 (by decide)
  have e491 : (Ad E 0) = G468 154 n205 1 := rs_val r466 n421l e447 s434 (by decide)
  have e492 : n205 = G468 143 this 10 := rs_val r466 n421l e448 s426 (by decide)
  have e493 : (Ad E 0) = G468 155 n271 1 := rs_val r466 n421l e449 s435 (by decide)
  have e494 : n271 = G468 143 this 11 := rs_val r466 n421l e450 s426 (by decide)
  have e495 : (Ad E 0) = G468 156 n343 1 := rs_val r466 n421l e451 s436 (by decide)
  have e496 : n343 = G468 143 this 12 := rs_val r466 n421l e452 s426 (by decide)
  have e497 : (Ad E 0) = G468 157 n421 1 := e461.trans (r466.2.2.1 1).symm
  have g498 : Gr [93, 94, 95, 96, 97, 98, 114, 115, 116, 117, 118, 130, 144, 153, 154, 155, 156, 157] [(143, 0), (143, 1), (143, 3), (143, 4), (143, 5), (143, 6), (143, 7), (143, 8), (143, 9), (143, 10), (143, 11), (143, 12), (143, 13), (143, 14), (143, 17), (143, 18), (143, 19), (144, 1), (144, 2), (144, 3), (144, 4), (144, 5), (144, 6), (144, 7), (144, 8), (144, 9), (144, 10), (144, 11), (144, 12), (144, 13), (144, 14), (144, 15), (144, 16), (144, 17), (153, 0), (153, 1)] S G S467 G468 := gr_rs g463 r466 z425 rfl
  have u499 : UqL [157, 156, 155, 154, 130] S467 := uq_rs u454 (no_sub u455 rfl) r466 rfl
  have u500 : EmL E [157, 156, 155, 154] S467 G468 := em_rs u462 (no_sub u455 rfl) r466 e461 (by have e : (0 : Int) ≤ (hw [(153, 0), (153, 1)] G423 G457) 153 n421 2 ∧ (hw [(153, 0), (153, 1)] G423 G457) 153 n421 2 ≤ 0 := hr464 2 (by decide); omega) rfl
  have u501 : No [] S467 := no_rs u455 r466 rfl
  refine r_putFN hX hP rfl rfl fq_X8_62_143 s470 (by decide) (Or.inr r466.1) (fun h502 => ?_)
  refine r_ex hX hP 2 (pc' := 133) (st' := [(0, 96), (2, this)]) (lo' := [(0, (2, this))]) rfl ?_
  have u503 : EmL E [157, 156, 155, 154] S467 (up G468 143 this 13 n421) := (em_up u500 rfl)
  have g504 : Gr [93, 94, 95, 96, 97, 98, 114, 115, 116, 117, 118, 130, 144, 153, 154, 155, 156, 157] [(143, 0), (143, 1), (143, 3), (143, 4), (143, 5), (143, 6), (143, 7), (143, 8), (143, 9), (143, 10), (143, 11), (143, 12), (143, 13), (143, 14), (143, 17), (143, 18), (143, 19), (144, 1), (144, 2), (144, 3), (144, 4), (144, 5), (144, 6), (144, 7), (144, 8), (144, 9), (144, 10), (144, 11), (144, 12), (144, 13), (144, 14), (144, 15), (144, 16), (144, 17), (153, 0), (153, 1)] S G S467 (up G468 143 this 13 n421) := (gr_up g498 rfl)
  refine r_newarrA hX hP rfl (L := 118) (n := 96) al_118 (by decide) rfl rfl rfl (tbg sg1 124 rfl rfl) (by decide) (by first | decide | omega) (by first | decide | omega) (fun n505 S506 G507 n505z n505n n505l g508 n505v => ?_)
  have z509 : S n505 = 0 := gr_zero g504 n505z
  have s510 : S506 this = 143 := gr_lab g508 s470 (by decide)
  have s511 : S506 n6 = 114 := gr_lab g508 s471 (by decide)
  have s512 : S506 n21 = 114 := gr_lab g508 s472 (by decide)
  have s513 : S506 n38 = 95 := gr_lab g508 s473 (by decide)
  have s514 : S506 n57 = 95 := gr_lab g508 s474 (by decide)
  have s515 : S506 n78 = 115 := gr_lab g508 s475 (by decide)
  have s516 : S506 n101 = 117 := gr_lab g508 s476 (by decide)
  have s517 : S506 n126 = 130 := gr_lab g508 s477 (by decide)
  have s518 : S506 n205 = 154 := gr_lab g508 s478 (by decide)
  have s519 : S506 n271 = 155 := gr_lab g508 s479 (by decide)
  have s520 : S506 n343 = 156 := gr_lab g508 s480 (by decide)
  have s521 : S506 n421 = 157 := gr_lab g508 r466.1 (by decide)
  have e522 : 40000 = G507 143 this 0 := gr_val g508 e481 s470 (by decide) rfl
  have e523 : 1 = G507 143 this 1 := gr_val g508 e482 s470 (by decide) rfl
  have e524 : n6 = G507 143 this 3 := gr_val g508 e483 s470 (by decide) rfl
  have e525 : n21 = G507 143 this 4 := gr_val g508 e484 s470 (by decide) rfl
  have e526 : n38 = G507 143 this 5 := gr_val g508 e485 s470 (by decide) rfl
  have e527 : n57 = G507 143 this 6 := gr_val g508 e486 s470 (by decide) rfl
  have e528 : n78 = G507 143 this 7 := gr_val g508 e487 s470 (by decide) rfl
  have e529 : n101 = G507 143 this 8 := gr_val g508 e488 s470 (by decide) rfl
  have e530 : 0 = G507 130 n126 0 := gr_val g508 e489 s477 (by decide) rfl
  have e531 : n126 = G507 143 this 9 := gr_val g508 e490 s470 (by decide) rfl
  have e532 : (Ad E 0) = G507 154 n205 1 := gr_val g508 e491 s478 (by decide) rfl
  have e533 : n205 = G507 143 this 10 := gr_val g508 e492 s470 (by decide) rfl
  have e534 : (Ad E 0) = G507 155 n271 1 := gr_val g508 e493 s479 (by decide) rfl
  have e535 : n271 = G507 143 this 11 := gr_val g508 e494 s470 (by decide) rfl
  have e536 : (Ad E 0) = G507 156 n343 1 := gr_val g508 e495 s480 (by decide) rfl
  have e537 : n343 = G507 143 this 12 := gr_val g508 e496 s470 (by decide) rfl
  have e538 : (Ad E 0) = G507 157 n421 1 := gr_val g508 e497 r466.1 (by decide) rfl
  have e539 : n421 = G507 143 this 13 := gr_val g508 h502 s470 (by decide) rfl
  have g540 : Gr [93, 94, 95, 96, 97, 98, 114, 115, 116, 117, 118, 130, 144, 153, 154, 155, 156, 157] [(143, 0), (143, 1), (143, 3), (143, 4), (143, 5), (143, 6), (143, 7), (143, 8), (143, 9), (143, 10), (143, 11), (143, 12), (143, 13), (143, 14), (143, 17), (143, 18), (143, 19), (144, 1), (144, 2), (144, 3), (144, 4), (144, 5), (144, 6), (144, 7), (144, 8), (144, 9), (144, 10), (144, 11), (144, 12), (144, 13), (144, 14), (144, 15), (144, 16), (144, 17), (153, 0), (153, 1)] S G S506 G507 := gr_call g504 g508 rfl rfl
  have u541 : UqL [157, 156, 155, 154, 130] S506 := uq_gr u499 g508 rfl
  have u542 : No [] S506 := no_gr (no_sub u501 rfl) g508 rfl
  have u543 : EmL E [157, 156, 155, 154] S506 G507 := em_gr u503 g508 rfl
  refine r_putFN hX hP rfl rfl fq_X8_65_143 s510 (by decide) (Or.inr n505l) (fun h544 => ?_)
  refine r_ex hX hP 2 (pc' := 141) (st' := [(0, 20), (2, this)]) (lo' := [(0, (2, this))]) rfl ?_
  have u545 : EmL E [157, 156, 155, 154] S506 (up G507 143 this 14 n505) := (em_up u543 rfl)
  have g546 : Gr [93, 94, 95, 96, 97, 98, 114, 115, 116, 117, 118, 130, 144, 153, 154, 155, 156, 157] [(143, 0), (143, 1), (143, 3), (143, 4), (143, 5), (143, 6), (143, 7), (143, 8), (143, 9), (143, 10), (143, 11), (143, 12), (143, 13), (143, 14), (143, 17), (143, 18), (143, 19), (144, 1), (144, 2), (144, 3), (144, 4), (144, 5), (144, 6), (144, 7), (144, 8), (144, 9), (144, 10), (144, 11), (144, 12), (144, 13), (144, 14), (144, 15), (144, 16), (144, 17), (153, 0), (153, 1)] S G S506 (up G507 143 this 14 n505) := (gr_up g540 rfl)
  refine r_newarrA hX hP rfl (L := 95) (n := 20) al_95 (by decide) rfl rfl rfl (tbg sg1 123 rfl rfl) (by decide) (by first | decide | omega) (by first | decide | omega) (fun n547 S548 G549 n547z n547n n547l g550 n547v => ?_)
  have z551 : S n547 = 0 := gr_zero g546 n547z
  have s552 : S548 this = 143 := gr_lab g550 s510 (by decide)
  have s553 : S548 n6 = 114 := gr_lab g550 s511 (by decide)
  have s554 : S548 n21 = 114 := gr_lab g550 s512 (by decide)
  have s555 : S548 n38 = 95 := gr_lab g550 s513 (by decide)
  have s556 : S548 n57 = 95 := gr_lab g550 s514 (by decide)
  have s557 : S548 n78 = 115 := gr_lab g550 s515 (by decide)
  have s558 : S548 n101 = 117 := gr_lab g550 s516 (by decide)
  have s559 : S548 n126 = 130 := gr_lab g550 s517 (by decide)
  have s560 : S548 n205 = 154 := gr_lab g550 s518 (by decide)
  have s561 : S548 n271 = 155 := gr_lab g550 s519 (by decide)
  have s562 : S548 n343 = 156 := gr_lab g550 s520 (by decide)
  have s563 : S548 n421 = 157 := gr_lab g550 s521 (by decide)
  have s564 : S548 n505 = 118 := gr_lab g550 n505l (by decide)
  have e565 : 40000 = G549 143 this 0 := gr_val g550 e522 s510 (by decide) rfl
  have e566 : 1 = G549 143 this 1 := gr_val g550 e523 s510 (by decide) rfl
  have e567 : n6 = G549 143 this 3 := gr_val g550 e524 s510 (by decide) rfl
  have e568 : n21 = G549 143 this 4 := gr_val g550 e525 s510 (by decide) rfl
  have e569 : n38 = G549 143 this 5 := gr_val g550 e526 s510 (by decide) rfl
  have e570 : n57 = G549 143 this 6 := gr_val g550 e527 s510 (by decide) rfl
  have e571 : n78 = G549 143 this 7 := gr_val g550 e528 s510 (by decide) rfl
  have e572 : n101 = G549 143 this 8 := gr_val g550 e529 s510 (by decide) rfl
  have e573 : 0 = G549 130 n126 0 := gr_val g550 e530 s517 (by decide) rfl
  have e574 : n126 = G549 143 this 9 := gr_val g550 e531 s510 (by decide) rfl
  have e575 : (Ad E 0) = G549 154 n205 1 := gr_val g550 e532 s518 (by decide) rfl
  have e576 : n205 = G549 143 this 10 := gr_val g550 e533 s510 (by decide) rfl
  have e577 : (Ad E 0) = G549 155 n271 1 := gr_val g550 e534 s519 (by decide) rfl
  have e578 : n271 = G549 143 this 11 := gr_val g550 e535 s510 (by decide) rfl
  have e579 : (Ad E 0) = G549 156 n343 1 := gr_val g550 e536 s520 (by decide) rfl
  have e580 : n343 = G549 143 this 12 := gr_val g550 e537 s510 (by decide) rfl
  have e581 : (Ad E 0) = G549 157 n421 1 := gr_val g550 e538 s521 (by decide) rfl
  have e582 : n421 = G549 143 this 13 := gr_val g550 e539 s510 (by decide) rfl
  have e583 : n505 = G549 143 this 14 := gr_val g550 h544 s510 (by decide) rfl
  have g584 : Gr [93, 94, 95, 96, 97, 98, 114, 115, 116, 117, 118, 130, 144, 153, 154, 155, 156, 157] [(143, 0), (143, 1), (143, 3), (143, 4), (143, 5), (143, 6), (143, 7), (143, 8), (143, 9), (143, 10), (143, 11), (143, 12), (143, 13), (143, 14), (143, 17), (143, 18), (143, 19), (144, 1), (144, 2), (144, 3), (144, 4), (144, 5), (144, 6), (144, 7), (144, 8), (144, 9), (144, 10), (144, 11), (144, 12), (144, 13), (144, 14), (144, 15), (144, 16), (144, 17), (153, 0), (153, 1)] S G S548 G549 := gr_call g546 g550 rfl rfl
  have u585 : UqL [157, 156, 155, 154, 130] S548 := uq_gr u541 g550 rfl
  have u586 : No [] S548 := no_gr (no_sub u542 rfl) g550 rfl
  have u587 : EmL E [157, 156, 155, 154] S548 G549 := em_gr u545 g550 rfl
  refine r_putFN hX hP rfl rfl fq_X8_68_143 s552 (by decide) (Or.inr n547l) (fun h588 => ?_)
  refine r_ex hX hP 2 (pc' := 149) (st' := [(0, 20), (2, this)]) (lo' := [(0, (2, this))]) rfl ?_
  have u589 : EmL E [157, 156, 155, 154] S548 (up G549 143 this 17 n547) := (em_up u587 rfl)
  have g590 : Gr [93, 94, 95, 96, 97, 98, 114, 115, 116, 117, 118, 130, 144, 153, 154, 155, 156, 157] [(143, 0), (143, 1), (143, 3), (143, 4), (143, 5), (143, 6), (143, 7), (143, 8), (143, 9), (143, 10), (143, 11), (143, 12), (143, 13), (143, 14), (143, 17), (143, 18), (143, 19), (144, 1), (144, 2), (144, 3), (144, 4), (144, 5), (144, 6), (144, 7), (144, 8), (144, 9), (144, 10), (144, 11), (144, 12), (144, 13), (144, 14), (144, 15), (144, 16), (144, 17), (153, 0), (153, 1)] S G S548 (up G549 143 this 17 n547) := (gr_up g584 rfl)
  refine r_newarrA hX hP rfl (L := 95) (n := 20) al_95 (by decide) rfl rfl rfl (tbg sg1 123 rfl rfl) (by decide) (by first | decide | omega) (by first | decide | omega) (fun n591 S592 G593 n591z n591n n591l g594 n591v => ?_)
  have z595 : S n591 = 0 := gr_zero g590 n591z
  have s596 : S592 this = 143 := gr_lab g594 s552 (by decide)
  have s597 : S592 n6 = 114 := gr_lab g594 s553 (by decide)
  have s598 : S592 n21 = 114 := gr_lab g594 s554 (by decide)
  have s599 : S592 n38 = 95 := gr_lab g594 s555 (by decide)
  have s600 : S592 n57 = 95 := gr_lab g594 s556 (by decide)
  have s601 : S592 n78 = 115 := gr_lab g594 s557 (by decide)
  have s602 : S592 n101 = 117 := gr_lab g594 s558 (by decide)
  have s603 : S592 n126 = 130 := gr_lab g594 s559 (by decide)
  have s604 : S592 n205 = 154 := gr_lab g594 s560 (by decide)
  have s605 : S592 n271 = 155 := gr_lab g594 s561 (by decide)
  have s606 : S592 n343 = 156 := gr_lab g594 s562 (by decide)
  have s607 : S592 n421 = 157 := gr_lab g594 s563 (by decide)
  have s608 : S592 n505 = 118 := gr_lab g594 s564 (by decide)
  have s609 : S592 n547 = 95 := gr_lab g594 n547l (by decide)
  have e610 : 40000 = G593 143 this 0 := gr_val g594 e565 s552 (by decide) rfl
  have e611 : 1 = G593 143 this 1 := gr_val g594 e566 s552 (by decide) rfl
  have e612 : n6 = G593 143 this 3 := gr_val g594 e567 s552 (by decide) rfl
  have e613 : n21 = G593 143 this 4 := gr_val g594 e568 s552 (by decide) rfl
  have e614 : n38 = G593 143 this 5 := gr_val g594 e569 s552 (by decide) rfl
  have e615 : n57 = G593 143 this 6 := gr_val g594 e570 s552 (by decide) rfl
  have e616 : n78 = G593 143 this 7 := gr_val g594 e571 s552 (by decide) rfl
  have e617 : n101 = G593 143 this 8 := gr_val g594 e572 s552 (by decide) rfl
  have e618 : 0 = G593 130 n126 0 := gr_val g594 e573 s559 (by decide) rfl
  have e619 : n126 = G593 143 this 9 := gr_val g594 e574 s552 (by decide) rfl
  have e620 : (Ad E 0) = G593 154 n205 1 := gr_val g594 e575 s560 (by decide) rfl
  have e621 : n205 = G593 143 this 10 := gr_val g594 e576 s552 (by decide) rfl
  have e622 : (Ad E 0) = G593 155 n271 1 := gr_val g594 e577 s561 (by decide) rfl
  have e623 : n271 = G593 143 this 11 := gr_val g594 e578 s552 (by decide) rfl
  have e624 : (Ad E 0) = G593 156 n343 1 := gr_val g594 e579 s562 (by decide) rfl
  have e625 : n343 = G593 143 this 12 := gr_val g594 e580 s552 (by decide) rfl
  have e626 : (Ad E 0) = G593 157 n421 1 := gr_val g594 e581 s563 (by decide) rfl
  have e627 : n421 = G593 143 this 13 := gr_val g594 e582 s552 (by decide) rfl
  have e628 : n505 = G593 143 this 14 := gr_val g594 e583 s552 (by decide) rfl
  have e629 : n547 = G593 143 this 17 := gr_val g594 h588 s552 (by decide) rfl
  have g630 : Gr [93, 94, 95, 96, 97, 98, 114, 115, 116, 117, 118, 130, 144, 153, 154, 155, 156, 157] [(143, 0), (143, 1), (143, 3), (143, 4), (143, 5), (143, 6), (143, 7), (143, 8), (143, 9), (143, 10), (143, 11), (143, 12), (143, 13), (143, 14), (143, 17), (143, 18), (143, 19), (144, 1), (144, 2), (144, 3), (144, 4), (144, 5), (144, 6), (144, 7), (144, 8), (144, 9), (144, 10), (144, 11), (144, 12), (144, 13), (144, 14), (144, 15), (144, 16), (144, 17), (153, 0), (153, 1)] S G S592 G593 := gr_call g590 g594 rfl rfl
  have u631 : UqL [157, 156, 155, 154, 130] S592 := uq_gr u585 g594 rfl
  have u632 : No [] S592 := no_gr (no_sub u586 rfl) g594 rfl
  have u633 : EmL E [157, 156, 155, 154] S592 G593 := em_gr u589 g594 rfl
  refine r_putFN hX hP rfl rfl fq_X8_71_143 s596 (by decide) (Or.inr n591l) (fun h634 => ?_)
  refine r_ex hX hP 2 (pc' := 157) (st' := [(0, 20), (2, this)]) (lo' := [(0, (2, this))]) rfl ?_
  have u635 : EmL E [157, 156, 155, 154] S592 (up G593 143 this 18 n591) := (em_up u633 rfl)
  have g636 : Gr [93, 94, 95, 96, 97, 98, 114, 115, 116, 117, 118, 130, 144, 153, 154, 155, 156, 157] [(143, 0), (143, 1), (143, 3), (143, 4), (143, 5), (143, 6), (143, 7), (143, 8), (143, 9), (143, 10), (143, 11), (143, 12), (143, 13), (143, 14), (143, 17), (143, 18), (143, 19), (144, 1), (144, 2), (144, 3), (144, 4), (144, 5), (144, 6), (144, 7), (144, 8), (144, 9), (144, 10), (144, 11), (144, 12), (144, 13), (144, 14), (144, 15), (144, 16), (144, 17), (153, 0), (153, 1)] S G S592 (up G593 143 this 18 n591) := (gr_up g630 rfl)
  refine r_newarrA hX hP rfl (L := 93) (n := 20) al_93 (by decide) rfl rfl rfl (tbg sg1 124 rfl rfl) (by decide) (by first | decide | omega) (by first | decide | omega) (fun n637 S638 G639 n637z n637n n637l g640 n637v => ?_)
  have z641 : S n637 = 0 := gr_zero g636 n637z
  have s642 : S638 this = 143 := gr_lab g640 s596 (by decide)
  have s643 : S638 n6 = 114 := gr_lab g640 s597 (by decide)
  have s644 : S638 n21 = 114 := gr_lab g640 s598 (by decide)
  have s645 : S638 n38 = 95 := gr_lab g640 s599 (by decide)
  have s646 : S638 n57 = 95 := gr_lab g640 s600 (by decide)
  have s647 : S638 n78 = 115 := gr_lab g640 s601 (by decide)
  have s648 : S638 n101 = 117 := gr_lab g640 s602 (by decide)
  have s649 : S638 n126 = 130 := gr_lab g640 s603 (by decide)
  have s650 : S638 n205 = 154 := gr_lab g640 s604 (by decide)
  have s651 : S638 n271 = 155 := gr_lab g640 s605 (by decide)
  have s652 : S638 n343 = 156 := gr_lab g640 s606 (by decide)
  have s653 : S638 n421 = 157 := gr_lab g640 s607 (by decide)
  have s654 : S638 n505 = 118 := gr_lab g640 s608 (by decide)
  have s655 : S638 n547 = 95 := gr_lab g640 s609 (by decide)
  have s656 : S638 n591 = 95 := gr_lab g640 n591l (by decide)
  have e657 : 40000 = G639 143 this 0 := gr_val g640 e610 s596 (by decide) rfl
  have e658 : 1 = G639 143 this 1 := gr_val g640 e611 s596 (by decide) rfl
  have e659 : n6 = G639 143 this 3 := gr_val g640 e612 s596 (by decide) rfl
  have e660 : n21 = G639 143 this 4 := gr_val g640 e613 s596 (by decide) rfl
  have e661 : n38 = G639 143 this 5 := gr_val g640 e614 s596 (by decide) rfl
  have e662 : n57 = G639 143 this 6 := gr_val g640 e615 s596 (by decide) rfl
  have e663 : n78 = G639 143 this 7 := gr_val g640 e616 s596 (by decide) rfl
  have e664 : n101 = G639 143 this 8 := gr_val g640 e617 s596 (by decide) rfl
  have e665 : 0 = G639 130 n126 0 := gr_val g640 e618 s603 (by decide) rfl
  have e666 : n126 = G639 143 this 9 := gr_val g640 e619 s596 (by decide) rfl
  have e667 : (Ad E 0) = G639 154 n205 1 := gr_val g640 e620 s604 (by decide) rfl
  have e668 : n205 = G639 143 this 10 := gr_val g640 e621 s596 (by decide) rfl
  have e669 : (Ad E 0) = G639 155 n271 1 := gr_val g640 e622 s605 (by decide) rfl
  have e670 : n271 = G639 143 this 11 := gr_val g640 e623 s596 (by decide) rfl
  have e671 : (Ad E 0) = G639 156 n343 1 := gr_val g640 e624 s606 (by decide) rfl
  have e672 : n343 = G639 143 this 12 := gr_val g640 e625 s596 (by decide) rfl
  have e673 : (Ad E 0) = G639 157 n421 1 := gr_val g640 e626 s607 (by decide) rfl
  have e674 : n421 = G639 143 this 13 := gr_val g640 e627 s596 (by decide) rfl
  have e675 : n505 = G639 143 this 14 := gr_val g640 e628 s596 (by decide) rfl
  have e676 : n547 = G639 143 this 17 := gr_val g640 e629 s596 (by decide) rfl
  have e677 : n591 = G639 143 this 18 := gr_val g640 h634 s596 (by decide) rfl
  have g678 : Gr [93, 94, 95, 96, 97, 98, 114, 115, 116, 117, 118, 130, 144, 153, 154, 155, 156, 157] [(143, 0), (143, 1), (143, 3), (143, 4), (143, 5), (143, 6), (143, 7), (143, 8), (143, 9), (143, 10), (143, 11), (143, 12), (143, 13), (143, 14), (143, 17), (143, 18), (143, 19), (144, 1), (144, 2), (144, 3), (144, 4), (144, 5), (144, 6), (144, 7), (144, 8), (144, 9), (144, 10), (144, 11), (144, 12), (144, 13), (144, 14), (144, 15), (144, 16), (144, 17), (153, 0), (153, 1)] S G S638 G639 := gr_call g636 g640 rfl rfl
  have u679 : UqL [157, 156, 155, 154, 130] S638 := uq_gr u631 g640 rfl
  have u680 : No [] S638 := no_gr (no_sub u632 rfl) g640 rfl
  have u681 : EmL E [157, 156, 155, 154] S638 G639 := em_gr u635 g640 rfl
  refine r_putFN hX hP rfl rfl fq_X8_74_143 s642 (by decide) (Or.inr n637l) (fun h682 => ?_)
  refine r_finA hX (L := 143) (ci := 9) (fs := fs_143) rfl s642 (by decide) (fun hr683 => ?_)
  have hf684 : Fnl E fs_129 143 S638 (up G639 143 this 19 n637) this := by
    intro j hj
    rcases (by have : j < 20 := hj; omega : j = 0 ∨ j = 1 ∨ j = 2 ∨ j = 3 ∨ j = 4 ∨ j = 5 ∨ j = 6 ∨ j = 7 ∨ j = 8 ∨ j = 9 ∨ j = 10 ∨ j = 11 ∨ j = 12 ∨ j = 13 ∨ j = 14 ∨ j = 15 ∨ j = 16 ∨ j = 17 ∨ j = 18 ∨ j = 19) with rfl | rfl | rfl | rfl | rfl | rfl | rfl | rfl | rfl | rfl | rfl | rfl | rfl | rfl | rfl | rfl | rfl | rfl | rfl | rfl
    · exact hr683 0 (by decide)
    · exact hr683 1 (by decide)
    · exact hr683 2 (by decide)
    · exact ⟨lab_of e659 s643, by decide⟩
    · exact ⟨lab_of e660 s644, by decide⟩
    · exact ⟨lab_of e661 s645, by decide⟩
    · exact ⟨lab_of e662 s646, by decide⟩
    · exact ⟨lab_of e663 s647, by decide⟩
    · exact ⟨lab_of e664 s648, by decide⟩
    · exact ⟨lab_of e666 s649, by decide⟩
    · exact ⟨lab_of e668 s650, by decide⟩
    · exact ⟨lab_of e670 s651, by decide⟩
    · exact ⟨lab_of e672 s652, by decide⟩
    · exact ⟨lab_of e674 s653, by decide⟩
    · exact ⟨lab_of e675 s654, by decide⟩
    · exact hr683 15 (by decide)
    · exact hr683 16 (by decide)
    · exact ⟨lab_of e676 s655, by decide⟩
    · exact ⟨lab_of e677 s656, by decide⟩
    · exact ⟨lab_of h682 n637l, by decide⟩
  have u685 : EmL E [157, 156, 155, 154] S638 (up G639 143 this 19 n637) := (em_up u681 rfl)
  have g686 : Gr [93, 94, 95, 96, 97, 98, 114, 115, 116, 117, 118, 130, 144, 153, 154, 155, 156, 157] [(143, 0), (143, 1), (143, 3), (143, 4), (143, 5), (143, 6), (143, 7), (143, 8), (143, 9), (143, 10), (143, 11), (143, 12), (143, 13), (143, 14), (143, 17), (143, 18), (143, 19), (144, 1), (144, 2), (144, 3), (144, 4), (144, 5), (144, 6), (144, 7), (144, 8), (144, 9), (144, 10), (144, 11), (144, 12), (144, 13), (144, 14), (144, 15), (144, 16), (144, 17), (153, 0), (153, 1)] S G S638 (up G639 143 this 19 n637) := (gr_up g678 rfl)
  exact r_retV hX hP rfl rfl (by first | decide | omega) (by first | decide | omega) ⟨g686, rfl, n126, e666, 40000, e657, (by first | decide | omega), u679, u685, s649, (Eq.symm e665), hf684⟩
set_option maxRecDepth 100000 in
set_option maxHeartbeats 4000000 in
theorem c_X11_initZ (E : En) (S : Sg) (G : Gh) (this : Int) (hS : S this = 142) (uno : No [128, 129, 130, 131, 132, 154, 155, 156, 157, 158, 159, 136, 138] S) : Calls E mX11_init [(2, this)] S G 7 129 3278 (fun r S' G' => Gr [93, 94, 95, 96, 97, 98, 99, 105, 106, 107, 108, 109, 110, 111, 112, 113, 114, 115, 116, 117, 118, 129, 130, 131, 132, 134, 143, 144, 145, 146, 148, 153, 154, 155, 156, 157, 158, 159] [(142, 4), (142, 5), (142, 6), (142, 7), (142, 8), (142, 9), (142, 10), (142, 11), (142, 12), (142, 13), (142, 14), (142, 15), (142, 16), (142, 17), (142, 18), (143, 0), (143, 1), (143, 3), (143, 4), (143, 5), (143, 6), (143, 7), (143, 8), (143, 9), (143, 10), (143, 11), (143, 12), (143, 13), (143, 14), (143, 17), (143, 18), (143, 19), (144, 1), (144, 2), (144, 3), (144, 4), (144, 5), (144, 6), (144, 7), (144, 8), (144, 9), (144, 10), (144, 11), (144, 12), (144, 13), (144, 14), (144, 15), (144, 16), (144, 17), (145, 1), (145, 2), (145, 3), (145, 12), (145, 15), (145, 16), (146, 5), (146, 6), (146, 7), (146, 8), (146, 9), (146, 10), (146, 11), (146, 13), (146, 14), (146, 15), (146, 16), (148, 1), (148, 3), (148, 4), (148, 5), (153, 0), (153, 1)] S G S' G' ∧ r = none ∧ UqL [132, 131, 159, 158, 129, 157, 156, 155, 154, 130] S' ∧ EmL E [159, 158, 157, 156, 155, 154] S' G' ∧ No [128, 136, 138] S' ∧ G' 130 (G' 142 this 5) 0 = 0 ∧ G' 132 (G' 142 this 18) 0 = 0 ∧ G' 131 (G' 142 this 16) 0 = 0 ∧ G' 131 (G' 142 this 16) 1 = (-1) ∧ G' 131 (G' 142 this 16) 2 = (-1) ∧ G' 131 (G' 142 this 16) 9 = (-1) ∧ G' 129 (G' 142 this 17) 0 = 40000 ∧ S' (G' 142 this 5) = 130 ∧ S' (G' 142 this 18) = 132 ∧ S' (G' 142 this 16) = 131 ∧ S' (G' 142 this 17) = 129 ∧ G' 131 (G' 142 this 16) 15 ≠ G' 131 (G' 142 this 16) 16 ∧ Fnl E fs_128 142 S' G' this) := by
  refine calls_by [(0, (2, this))] rfl rfl (Nat.le_of_ble_eq_true rfl) (fun X hX => ?_)
  have hP := hPX11_init
  refine r_ex hX hP 1 (pc' := 1) (st' := [(2, this)]) (lo' := [(0, (2, this))]) rfl ?_
  refine r_nn hX hS (by decide) (fun p1 => ?_)
  refine r_objI hX hP rfl (tbg sg1 32 rfl rfl) (tbg sg1 33 rfl rfl) (tbg sg1 34 rfl rfl) p1 (by first | decide | omega) (Nat.le_of_ble_eq_true rfl) ?_
  refine r_ex hX hP 2 (pc' := 6) (st' := [(1, 1), (2, this)]) (lo' := [(0, (2, this))]) rfl ?_
  refine r_putLK hX hP rfl fp_X11_9_142 hS (by first | decide | omega) (by first | decide | omega) (fun h2 => ?_)
  refine r_ex hX hP 1 (pc' := 10) (st' := [(2, this)]) (lo' := [(0, (2, this))]) rfl ?_
  have u3 : EmL E [] S (up G 142 this 4 1) := (em_up (em_nil E S G) rfl)
  have g4 : Gr [93, 94, 95, 96, 97, 98, 99, 105, 106, 107, 108, 109, 110, 111, 112, 113, 114, 115, 116, 117, 118, 129, 130, 131, 132, 134, 143, 144, 145, 146, 148, 153, 154, 155, 156, 157, 158, 159] [(142, 4), (142, 5), (142, 6), (142, 7), (142, 8), (142, 9), (142, 10), (142, 11), (142, 12), (142, 13), (142, 14), (142, 15), (142, 16), (142, 17), (142, 18), (143, 0), (143, 1), (143, 3), (143, 4), (143, 5), (143, 6), (143, 7), (143, 8), (143, 9), (143, 10), (143, 11), (143, 12), (143, 13), (143, 14), (143, 17), (143, 18), (143, 19), (144, 1), (144, 2), (144, 3), (144, 4), (144, 5), (144, 6), (144, 7), (144, 8), (144, 9), (144, 10), (144, 11), (144, 12), (144, 13), (144, 14), (144, 15), (144, 16), (144, 17), (145, 1), (145, 2), (145, 3), (145, 12), (145, 15), (145, 16), (146, 5), (146, 6), (146, 7), (146, 8), (146, 9), (146, 10), (146, 11), (146, 13), (146, 14), (146, 15), (146, 16), (148, 1), (148, 3), (148, 4), (148, 5), (153, 0), (153, 1)] S G S (up G 142 this 4 1) := (gr_up (gr_refl [93, 94, 95, 96, 97, 98, 99, 105, 106, 107, 108, 109, 110, 111, 112, 113, 114, 115, 116, 117, 118, 129, 130, 131, 132, 134, 143, 144, 145, 146, 148, 153, 154, 155, 156, 157, 158, 159] [(142, 4), (142, 5), (142, 6), (142, 7), (142, 8), (142, 9), (142, 10), (142, 11), (142, 12), (142, 13), (142, 14), (142, 15), (142, 16), (142, 17), (142, 18), (143, 0), (143, 1), (143, 3), (143, 4), (143, 5), (143, 6), (143, 7), (143, 8), (143, 9), (143, 10), (143, 11), (143, 12), (143, 13), (143, 14), (143, 17), (143, 18), (143, 19), (144, 1), (144, 2), (144, 3), (144, 4), (144, 5), (144, 6), (144, 7), (144, 8), (144, 9), (144, 10), (144, 11), (144, 12), (144, 13), (144, 14), (144, 15), (144, 16), (144, 17), (145, 1), (145, 2), (145, 3), (145, 12), (145, 15), (145, 16), (146, 5), (146, 6), (146, 7), (146, 8), (146, 9), (146, 10), (146, 11), (146, 13), (146, 14), (146, 15), (146, 16), (148, 1), (148, 3), (148, 4), (148, 5), (153, 0), (153, 1)] S G) rfl)
  refine r_newA hX hP rfl (L := 143) (N := 20) nw_X11_13_143 (by first | decide | omega) (by first | decide | omega) (fun n5 S6 G7 n5z n5n n5l g8 n5v => ?_)
  have z9 : S n5 = 0 := gr_zero g4 n5z
  have s10 : S6 this = 142 := gr_lab g8 hS (by decide)
  have e11 : 1 = G7 142 this 4 := gr_val g8 h2 hS (by decide) rfl
  have g12 : Gr [93, 94, 95, 96, 97, 98, 99, 105, 106, 107, 108, 109, 110, 111, 112, 113, 114, 115, 116, 117, 118, 129, 130, 131, 132, 134, 143, 144, 145, 146, 148, 153, 154, 155, 156, 157, 158, 159] [(142, 4), (142, 5), (142, 6), (142, 7), (142, 8), (142, 9), (142, 10), (142, 11), (142, 12), (142, 13), (142, 14), (142, 15), (142, 16), (142, 17), (142, 18), (143, 0), (143, 1), (143, 3), (143, 4), (143, 5), (143, 6), (143, 7), (143, 8), (143, 9), (143, 10), (143, 11), (143, 12), (143, 13), (143, 14), (143, 17), (143, 18), (143, 19), (144, 1), (144, 2), (144, 3), (144, 4), (144, 5), (144, 6), (144, 7), (144, 8), (144, 9), (144, 10), (144, 11), (144, 12), (144, 13), (144, 14), (144, 15), (144, 16), (144, 17), (145, 1), (145, 2), (145, 3), (145, 12), (145, 15), (145, 16), (146, 5), (146, 6), (146, 7), (146, 8), (146, 9), (146, 10), (146, 11), (146, 13), (146, 14), (146, 15), (146, 16), (148, 1), (148, 3), (148, 4), (148, 5), (153, 0), (153, 1)] S G S6 G7 := gr_call g4 g8 rfl rfl
  have u13 : UqL [] S6 := uq_gr (uq_nil S) g8 rfl
  have u14 : No [128, 129, 130, 131, 132, 154, 155, 156, 157, 158, 159, 136, 138] S6 := no_gr (no_sub uno rfl) g8 rfl
  have u15 : EmL E [] S6 G7 := em_gr u3 g8 rfl
  refine r_ex hX hP 1 (pc' := 14) (st' := [(2, n5), (2, n5), (2, this)]) (lo' := [(0, (2, this))]) rfl ?_
  refine r_callIN gd hX hP rfl cn_X11_15 n5n (d' := 6) (mc' := 96) (ms' := 2554) (as' := []) (st := [(2, n5), (2, this)]) (by first | decide | omega) (by first | decide | omega) (by first | decide | omega) rfl rfl (Nat.le_of_ble_eq_true rfl) (c_X8_initZ E S6 G7 n5  n5l (no_sub u14 rfl)) ?_
  rintro _ S16 G17 ⟨g18, rfl, ach19, ach19e, ash20, ash20e, f21, q22, q23, q24, q25, hf26⟩
  have s27 : S16 this = 142 := gr_lab g18 s10 (by decide)
  have s28 : S16 n5 = 143 := gr_lab g18 n5l (by decide)
  have e29 : 1 = G17 142 this 4 := gr_val g18 e11 s10 (by decide) rfl
  have g30 : Gr [93, 94, 95, 96, 97, 98, 99, 105, 106, 107, 108, 109, 110, 111, 112, 113, 114, 115, 116, 117, 118, 129, 130, 131, 132, 134, 143, 144, 145, 146, 148, 153, 154, 155, 156, 157, 158, 159] [(142, 4), (142, 5), (142, 6), (142, 7), (142, 8), (142, 9), (142, 10), (142, 11), (142, 12), (142, 13), (142, 14), (142, 15), (142, 16), (142, 17), (142, 18), (143, 0), (143, 1), (143, 3), (143, 4), (143, 5), (143, 6), (143, 7), (143, 8), (143, 9), (143, 10), (143, 11), (143, 12), (143, 13), (143, 14), (143, 17), (143, 18), (143, 19), (144, 1), (144, 2), (144, 3), (144, 4), (144, 5), (144, 6), (144, 7), (144, 8), (144, 9), (144, 10), (144, 11), (144, 12), (144, 13), (144, 14), (144, 15), (144, 16), (144, 17), (145, 1), (145, 2), (145, 3), (145, 12), (145, 15), (145, 16), (146, 5), (146, 6), (146, 7), (146, 8), (146, 9), (146, 10), (146, 11), (146, 13), (146, 14), (146, 15), (146, 16), (148, 1), (148, 3), (148, 4), (148, 5), (153, 0), (153, 1)] S G S16 G17 := gr_call g12 g18 rfl rfl
  have u31 : UqL [] S16 := uq_gr u13 g18 rfl
  have u32 : No [128, 129, 131, 132, 158, 159, 136, 138] S16 := no_gr (no_sub u14 rfl) g18 rfl
  have u33 : EmL E [] S16 G17 := em_gr u15 g18 rfl
  refine r_peekI hX (tl_143 0 rfl (by decide)) s28 (fun o35 o35e o35a o35b => ?_)
  obtain rfl : ash20 = o35 := ash20e.trans o35e.symm
  have e36 : (40000 : Int) = G17 143 n5 0 := by rw [← f21]; exact ash20e
  have u37 : UqL [157, 156, 155, 154, 130] S16 := uq_app q22 u31
  have u38 : EmL E [157, 156, 155, 154] S16 G17 := em_app q23 u33
  refine r_finA hX (L := 143) (ci := 9) (fs := fs_143) rfl s28 (by decide) (fun hr39 => ?_)
  refine r_relabF hX (L := 143) (L' := 129) (ci := 9) (fs := fs_143) (fs' := fs_129) rfl rfl rfl (by decide) (by decide) nf_143 (by decide) s28 hf26 (fun S42 G43 r41 => ?_)
  have s45 : S42 this = 142 := r41.lab s28 s27 (by decide)
  have s46 : S42 ach19 = 130 := r41.lab s28 q24 (by decide)
  have e47 : 1 = G43 142 this 4 := rs_val r41 s28 e29 s27 (by decide)
  have e48 : ach19 = G43 129 n5 9 := ach19e.trans (r41.2.2.1 9).symm
  have e49 : 40000 = G43 129 n5 0 := e36.trans (r41.2.2.1 0).symm
  have e50 : 0 = G43 130 ach19 0 := rs_val r41 s28 (Eq.symm q25) q24 (by decide)
  have g51 : Gr [93, 94, 95, 96, 97, 98, 99, 105, 106, 107, 108, 109, 110, 111, 112, 113, 114, 115, 116, 117, 118, 129, 130, 131, 132, 134, 143, 144, 145, 146, 148, 153, 154, 155, 156, 157, 158, 159] [(142, 4), (142, 5), (142, 6), (142, 7), (142, 8), (142, 9), (142, 10), (142, 11), (142, 12), (142, 13), (142, 14), (142, 15), (142, 16), (142, 17), (142, 18), (143, 0), (143, 1), (143, 3), (143, 4), (143, 5), (143, 6), (143, 7), (143, 8), (143, 9), (143, 10), (143, 11), (143, 12), (143, 13), (143, 14), (143, 17), (143, 18), (143, 19), (144, 1), (144, 2), (144, 3), (144, 4), (144, 5), (144, 6), (144, 7), (144, 8), (144, 9), (144, 10), (144, 11), (144, 12), (144, 13), (144, 14), (144, 15), (144, 16), (144, 17), (145, 1), (145, 2), (145, 3), (145, 12), (145, 15), (145, 16), (146, 5), (146, 6), (146, 7), (146, 8), (146, 9), (146, 10), (146, 11), (146, 13), (146, 14), (146, 15), (146, 16), (148, 1), (148, 3), (148, 4), (148, 5), (153, 0), (153, 1)] S G S42 G43 := gr_rs g30 r41 z9 rfl
  have u52 : UqL [129, 157, 156, 155, 154, 130] S42 := uq_rs u37 (no_sub u32 rfl) r41 rfl
  have u53 : EmL E [157, 156, 155, 154] S42 G43 := em_rsN u38 r41 rfl
  have u54 : No [128, 131, 132, 158, 159, 136, 138] S42 := no_rs u32 r41 rfl
  refine r_putFN hX hP rfl rfl fq_X11_16_142 s45 (by decide) (Or.inr r41.1) (fun h55 => ?_)
  refine r_ex hX hP 2 (pc' := 22) (st' := [(2, this), (2, this)]) (lo' := [(0, (2, this))]) rfl ?_
  refine r_getKN hX hP rfl fl_X11_16_142 s45 (x := n5) h55 ?_
  refine r_getKR hX hP rfl fl_X11_20_129 r41.1 (x := ach19) e48 ?_
  refine r_putFN hX hP rfl rfl fq_X11_24_142 s45 (by decide) (Or.inr s46) (fun h56 => ?_)
  refine r_ex hX hP 2 (pc' := 33) (st' := [(2, this), (2, this)]) (lo' := [(0, (2, this))]) rfl ?_
  refine r_getKN hX hP rfl fl_X11_16_142 s45 (x := n5) h55 ?_
  refine r_getR hX hP rfl fl_X11_25_129 r41.1 (fun if57 if57e if57s => ?_)
  refine r_putFN hX hP rfl rfl fq_X11_29_142 s45 (by decide) (Or.inr if57s) (fun h58 => ?_)
  refine r_ex hX hP 2 (pc' := 44) (st' := [(2, this), (2, this)]) (lo' := [(0, (2, this))]) rfl ?_
  refine r_getKN hX hP rfl fl_X11_16_142 s45 (x := n5) h55 ?_
  refine r_getR hX hP rfl fl_X11_30_129 r41.1 (fun tf59 tf59e tf59s => ?_)
  refine r_putFN hX hP rfl rfl fq_X11_33_142 s45 (by decide) (Or.inr tf59s) (fun h60 => ?_)
  refine r_ex hX hP 2 (pc' := 55) (st' := [(2, this), (2, this)]) (lo' := [(0, (2, this))]) rfl ?_
  refine r_getKN hX hP rfl fl_X11_16_142 s45 (x := n5) h55 ?_
  refine r_getR hX hP rfl fl_X11_34_129 r41.1 (fun ef61 ef61e ef61s => ?_)
  refine r_putFN hX hP rfl rfl fq_X11_37_142 s45 (by decide) (Or.inr ef61s) (fun h62 => ?_)
  refine r_ex hX hP 2 (pc' := 66) (st' := [(2, this), (2, this)]) (lo' := [(0, (2, this))]) rfl ?_
  refine r_getKN hX hP rfl fl_X11_16_142 s45 (x := n5) h55 ?_
  refine r_getR hX hP rfl fl_X11_38_129 r41.1 (fun pf63 pf63e pf63s => ?_)
  refine r_putFN hX hP rfl rfl fq_X11_41_142 s45 (by decide) (Or.inr pf63s) (fun h64 => ?_)
  refine r_ex hX hP 1 (pc' := 76) (st' := [(2, this)]) (lo' := [(0, (2, this))]) rfl ?_
  have u65 : EmL E [157, 156, 155, 154] S42 (up (up (up (up (up (up G43 142 this 17 n5) 142 this 5 ach19) 142 this 6 if57) 142 this 7 tf59) 142 this 8 ef61) 142 this 9 pf63) := (em_up (em_up (em_up (em_up (em_up (em_up u53 rfl) rfl) rfl) rfl) rfl) rfl)
  have g66 : Gr [93, 94, 95, 96, 97, 98, 99, 105, 106, 107, 108, 109, 110, 111, 112, 113, 114, 115, 116, 117, 118, 129, 130, 131, 132, 134, 143, 144, 145, 146, 148, 153, 154, 155, 156, 157, 158, 159] [(142, 4), (142, 5), (142, 6), (142, 7), (142, 8), (142, 9), (142, 10), (142, 11), (142, 12), (142, 13), (142, 14), (142, 15), (142, 16), (142, 17), (142, 18), (143, 0), (143, 1), (143, 3), (143, 4), (143, 5), (143, 6), (143, 7), (143, 8), (143, 9), (143, 10), (143, 11), (143, 12), (143, 13), (143, 14), (143, 17), (143, 18), (143, 19), (144, 1), (144, 2), (144, 3), (144, 4), (144, 5), (144, 6), (144, 7), (144, 8), (144, 9), (144, 10), (144, 11), (144, 12), (144, 13), (144, 14), (144, 15), (144, 16), (144, 17), (145, 1), (145, 2), (145, 3), (145, 12), (145, 15), (145, 16), (146, 5), (146, 6), (146, 7), (146, 8), (146, 9), (146, 10), (146, 11), (146, 13), (146, 14), (146, 15), (146, 16), (148, 1), (148, 3), (148, 4), (148, 5), (153, 0), (153, 1)] S G S42 (up (up (up (up (up (up G43 142 this 17 n5) 142 this 5 ach19) 142 this 6 if57) 142 this 7 tf59) 142 this 8 ef61) 142 this 9 pf63) := (gr_up (gr_up (gr_up (gr_up (gr_up (gr_up g51 rfl) rfl) rfl) rfl) rfl) rfl)
  refine r_newA hX hP rfl (L := 153) (N := 3) nw_X11_42_153 (by first | decide | omega) (by first | decide | omega) (fun n67 S68 G69 n67z n67n n67l g70 n67v => ?_)
  have z71 : S n67 = 0 := gr_zero g66 n67z
  have s72 : S68 this = 142 := gr_lab g70 s45 (by decide)
  have s73 : S68 n5 = 129 := gr_lab g70 r41.1 (by decide)
  have s74 : S68 ach19 = 130 := gr_lab g70 s46 (by decide)
  have s75 : S68 if57 = 154 := gr_lab g70 if57s (by decide)
  have s76 : S68 tf59 = 155 := gr_lab g70 tf59s (by decide)
  have s77 : S68 ef61 = 156 := gr_lab g70 ef61s (by decide)
  have s78 : S68 pf63 = 157 := gr_lab g70 pf63s (by decide)
  have e79 : 1 = G69 142 this 4 := gr_val g70 e47 s45 (by decide) rfl
  have e80 : ach19 = G69 129 n5 9 := gr_val g70 e48 r41.1 (by decide) rfl
  have e81 : 40000 = G69 129 n5 0 := gr_val g70 e49 r41.1 (by decide) rfl
  have e82 : 0 = G69 130 ach19 0 := gr_val g70 e50 s46 (by decide) rfl
  have e83 : n5 = G69 142 this 17 := gr_val g70 h55 s45 (by decide) rfl
  have e84 : ach19 = G69 142 this 5 := gr_val g70 h56 s45 (by decide) rfl
  have e85 : if57 = G69 129 n5 10 := gr_val g70 if57e r41.1 (by decide) rfl
  have e86 : if57 = G69 142 this 6 := gr_val g70 h58 s45 (by decide) rfl
  have e87 : tf59 = G69 129 n5 11 := gr_val g70 tf59e r41.1 (by decide) rfl
  have e88 : tf59 = G69 142 this 7 := gr_val g70 h60 s45 (by decide) rfl
  have e89 : ef61 = G69 129 n5 12 := gr_val g70 ef61e r41.1 (by decide) rfl
  have e90 : ef61 = G69 142 this 8 := gr_val g70 h62 s45 (by decide) rfl
  have e91 : pf63 = G69 129 n5 13 := gr_val g70 pf63e r41.1 (by decide) rfl
  have e92 : pf63 = G69 142 this 9 := gr_val g70 h64 s45 (by decide) rfl
  have g93 : Gr [93, 94, 95, 96, 97, 98, 99, 105, 106, 107, 108, 109, 110, 111, 112, 113, 114, 115, 116, 117, 118, 129, 130, 131, 132, 134, 143, 144, 145, 146, 148, 153, 154, 155, 156, 157, 158, 159] [(142, 4), (142, 5), (142, 6), (142, 7), (142, 8), (142, 9), (142, 10), (142, 11), (142, 12), (142, 13), (142, 14), (142, 15), (142, 16), (142, 17), (142, 18), (143, 0), (143, 1), (143, 3), (143, 4), (143, 5), (143, 6), (143, 7), (143, 8), (143, 9), (143, 10), (143, 11), (143, 12), (143, 13), (143, 14), (143, 17), (143, 18), (143, 19), (144, 1), (144, 2), (144, 3), (144, 4), (144, 5), (144, 6), (144, 7), (144, 8), (144, 9), (144, 10), (144, 11), (144, 12), (144, 13), (144, 14), (144, 15), (144, 16), (144, 17), (145, 1), (145, 2), (145, 3), (145, 12), (145, 15), (145, 16), (146, 5), (146, 6), (146, 7), (146, 8), (146, 9), (146, 10), (146, 11), (146, 13), (146, 14), (146, 15), (146, 16), (148, 1), (148, 3), (148, 4), (148, 5), (153, 0), (153, 1)] S G S68 G69 := gr_call g66 g70 rfl rfl
  have u94 : UqL [129, 157, 156, 155, 154, 130] S68 := uq_gr u52 g70 rfl
  have u95 : No [128, 131, 132, 158, 159, 136, 138] S68 := no_gr (no_sub u54 rfl) g70 rfl
  have u96 : EmL E [157, 156, 155, 154] S68 G69 := em_gr u65 g70 rfl
  refine r_ex hX hP 1 (pc' := 80) (st' := [(2, n67), (2, n67), (2, this)]) (lo' := [(0, (2, this))]) rfl ?_
  refine r_callI gd hX hP rfl ci_X11_44 n67n (d' := 5) (mc' := 0) (ms' := 0) (as' := []) (st := [(2, n67), (2, this)]) (by first | decide | omega) (by first | decide | omega) (by first | decide | omega) rfl rfl (Nat.le_of_ble_eq_true rfl) (c_Jx4a65c_init_da8c8 E S68 G69 n67  n67l) ?_
  rintro _ _ _ ⟨rfl, ⟨G97, rfl⟩, rfl, elh98, elh98e, f99⟩
  have e101 : Ad E 0 = (hw [(153, 0), (153, 1)] G69 G97) 153 n67 1 := by rw [← f99]; exact elh98e
  have u102 : EmL E [157, 156, 155, 154] S68 (hw [(153, 0), (153, 1)] G69 G97) := (em_hw u96 rfl)
  have g103 : Gr [93, 94, 95, 96, 97, 98, 99, 105, 106, 107, 108, 109, 110, 111, 112, 113, 114, 115, 116, 117, 118, 129, 130, 131, 132, 134, 143, 144, 145, 146, 148, 153, 154, 155, 156, 157, 158, 159] [(142, 4), (142, 5), (142, 6), (142, 7), (142, 8), (142, 9), (142, 10), (142, 11), (142, 12), (142, 13), (142, 14), (142, 15), (142, 16), (142, 17), (142, 18), (143, 0), (143, 1), (143, 3), (143, 4), (143, 5), (143, 6), (143, 7), (143, 8), (143, 9), (143, 10), (143, 11), (143, 12), (143, 13), (143, 14), (143, 17), (143, 18), (143, 19), (144, 1), (144, 2), (144, 3), (144, 4), (144, 5), (144, 6), (144, 7), (144, 8), (144, 9), (144, 10), (144, 11), (144, 12), (144, 13), (144, 14), (144, 15), (144, 16), (144, 17), (145, 1), (145, 2), (145, 3), (145, 12), (145, 15), (145, 16), (146, 5), (146, 6), (146, 7), (146, 8), (146, 9), (146, 10), (146, 11), (146, 13), (146, 14), (146, 15), (146, 16), (148, 1), (148, 3), (148, 4), (148, 5), (153, 0), (153, 1)] S G S68 (hw [(153, 0), (153, 1)] G69 G97) := (gr_hw g93 rfl)
  refine r_finA hX (L := 153) (ci := 0) (fs := fs_153) rfl n67l (by decide) (fun hr104 => ?_)
  have hf105 : Fnl E fs_158 153 S68 (hw [(153, 0), (153, 1)] G69 G97) n67 := by
    intro j hj
    rcases (by have : j < 3 := hj; omega : j = 0 ∨ j = 1 ∨ j = 2) with rfl | rfl | rfl
    · exact hr104 0 (by decide)
    · exact Or.inl e101.symm
    · have e : (0 : Int) ≤ (hw [(153, 0), (153, 1)] G69 G97) 153 n67 2 ∧ (hw [(153, 0), (153, 1)] G69 G97) 153 n67 2 ≤ 0 := hr104 2 (by decide); show (0 : Int) ≤ (hw [(153, 0), (153, 1)] G69 G97) 153 n67 2 ∧ (hw [(153, 0), (153, 1)] G69 G97) 153 n67 2 ≤ 10; omega
  refine r_relabF hX (L := 153) (L' := 158) (ci := 0) (fs := fs_153) (fs' := fs_158) rfl rfl rfl (by decide) (by decide) nf_153 (by decide) n67l hf105 (fun S107 G108 r106 => ?_)
  have s110 : S107 this = 142 := r106.lab n67l s72 (by decide)
  have s111 : S107 n5 = 129 := r106.lab n67l s73 (by decide)
  have s112 : S107 ach19 = 130 := r106.lab n67l s74 (by decide)
  have s113 : S107 if57 = 154 := r106.lab n67l s75 (by decide)
  have s114 : S107 tf59 = 155 := r106.lab n67l s76 (by decide)
  have s115 : S107 ef61 = 156 := r106.lab n67l s77 (by decide)
  have s116 : S107 pf63 = 157 := r106.lab n67l s78 (by decide)
  have e117 : 1 = G108 142 this 4 := rs_val r106 n67l e79 s72 (by decide)
  have e118 : ach19 = G108 129 n5 9 := rs_val r106 n67l e80 s73 (by decide)
  have e119 : 40000 = G108 129 n5 0 := rs_val r106 n67l e81 s73 (by decide)
  have e120 : 0 = G108 130 ach19 0 := rs_val r106 n67l e82 s74 (by decide)
  have e121 : n5 = G108 142 this 17 := rs_val r106 n67l e83 s72 (by decide)
  have e122 : ach19 = G108 142 this 5 := rs_val r106 n67l e84 s72 (by decide)
  have e123 : if57 = G108 129 n5 10 := rs_val r106 n67l e85 s73 (by decide)
  have e124 : if57 = G108 142 this 6 := rs_val r106 n67l e86 s72 (by decide)
  have e125 : tf59 = G108 129 n5 11 := rs_val r106 n67l e87 s73 (by decide)
  have e126 : tf59 = G108 142 this 7 := rs_val r106 n67l e88 s72 (by decide)
  have e127 : ef61 = G108 129 n5 12 := rs_val r106 n67l e89 s73 (by decide)
  have e128 : ef61 = G108 142 this 8 := rs_val r106 n67l e90 s72 (by decide)
  have e129 : pf63 = G108 129 n5 13 := rs_val r106 n67l e91 s73 (by decide)
  have e130 : pf63 = G108 142 this 9 := rs_val r106 n67l e92 s72 (by decide)
  have e131 : (Ad E 0) = G108 158 n67 1 := e101.trans (r106.2.2.1 1).symm
  have g132 : Gr [93, 94, 95, 96, 97, 98, 99, 105, 106, 107, 108, 109, 110, 111, 112, 113, 114, 115, 116, 117, 118, 129, 130, 131, 132, 134, 143, 144, 145, 146, 148, 153, 154, 155, 156, 157, 158, 159] [(142, 4), (142, 5), (142, 6), (142, 7), (142, 8), (142, 9), (142, 10), (142, 11), (142, 12), (142, 13), (142, 14), (142, 15), (142, 16), (142, 17), (142, 18), (143, 0), (143, 1), (143, 3), (143, 4), (143, 5), (143, 6), (143, 7), (143, 8), (143, 9), (143, 10), (143, 11), (143, 12), (143, 13), (143, 14), (143, 17), (143, 18), (143, 19), (144, 1), (144, 2), (144, 3), (144, 4), (144, 5), (144, 6), (144, 7), (144, 8), (144, 9), (144, 10), (144, 11), (144, 12), (144, 13), (144, 14), (144, 15), (144, 16), (144, 17), (145, 1), (145, 2), (145, 3), (145, 12), (145, 15), (145, 16), (146, 5), (146, 6), (146, 7), (146, 8), (146, 9), (146, 10), (146, 11), (146, 13), (146, 14), (146, 15), (146, 16), (148, 1), (148, 3), (148, 4), (148, 5), (153, 0), (153, 1)] S G S107 G108 := gr_rs g103 r106 z71 rfl
  have u133 : UqL [158, 129, 157, 156, 155, 154, 130] S107 := uq_rs u94 (no_sub u95 rfl) r106 rfl
  have u134 : EmL E [158, 157, 156, 155, 154] S107 G108 := em_rs u102 (no_sub u95 rfl) r106 e101 (by have e : (0 : Int) ≤ (hw [(153, 0), (153, 1)] G69 G97) 153 n67 2 ∧ (hw [(153, 0), (153, 1)] G69 G97) 153 n67 2 ≤ 0 := hr104 2 (by decide); omega) rfl
  have u135 : No [128, 131, 132, 159, 136, 138] S107 := no_rs u95 r106 rfl
  refine r_putFN hX hP rfl rfl fq_X11_45_142 s110 (by decide) (Or.inr r106.1) (fun h136 => ?_)
  refine r_ex hX hP 1 (pc' := 87) (st' := [(2, this)]) (lo' := [(0, (2, this))]) rfl ?_
  have u137 : EmL E [158, 157, 156, 155, 154] S107 (up G108 142 this 10 n67) := (em_up u134 rfl)
  have g138 : Gr [93, 94, 95, 96, 97, 98, 99, 105, 106, 107, 108, 109, 110, 111, 112, 113, 114, 115, 116, 117, 118, 129, 130, 131, 132, 134, 143, 144, 145, 146, 148, 153, 154, 155, 156, 157, 158, 159] [(142, 4), (142, 5), (142, 6), (142, 7), (142, 8), (142, 9), (142, 10), (142, 11), (142, 12), (142, 13), (142, 14), (142, 15), (142, 16), (142, 17), (142, 18), (143, 0), (143, 1), (143, 3), (143, 4), (143, 5), (143, 6), (143, 7), (143, 8), (143, 9), (143, 10), (143, 11), (143, 12), (143, 13), (143, 14), (143, 17), (143, 18), (143, 19), (144, 1), (144, 2), (144, 3), (144, 4), (144, 5), (144, 6), (144, 7), (144, 8), (144, 9), (144, 10), (144, 11), (144, 12), (144, 13), (144, 14), (144, 15), (144, 16), (144, 17), (145, 1), (145, 2), (145, 3), (145, 12), (145, 15), (145, 16), (146, 5), (146, 6), (146, 7), (146, 8), (146, 9), (146, 10), (146, 11), (146, 13), (146, 14), (146, 15), (146, 16), (148, 1), (148, 3), (148, 4), (148, 5), (153, 0), (153, 1)] S G S107 (up G108 142 this 10 n67) := (gr_up g132 rfl)
  refine r_newA hX hP rfl (L := 153) (N := 3) nw_X11_42_153 (by first | decide | omega) (by first | decide | omega) (fun n139 S140 G141 n139z n139n n139l g142 n139v => ?_)
  have z143 : S n139 = 0 := gr_zero g138 n139z
  have s144 : S140 this = 142 := gr_lab g142 s110 (by decide)
  have s145 : S140 n5 = 129 := gr_lab g142 s111 (by decide)
  have s146 : S140 ach19 = 130 := gr_lab g142 s112 (by decide)
  have s147 : S140 if57 = 154 := gr_lab g142 s113 (by decide)
  have s148 : S140 tf59 = 155 := gr_lab g142 s114 (by decide)
  have s149 : S140 ef61 = 156 := gr_lab g142 s115 (by decide)
  have s150 : S140 pf63 = 157 := gr_lab g142 s116 (by decide)
  have s151 : S140 n67 = 158 := gr_lab g142 r106.1 (by decide)
  have e152 : 1 = G141 142 this 4 := gr_val g142 e117 s110 (by decide) rfl
  have e153 : ach19 = G141 129 n5 9 := gr_val g142 e118 s111 (by decide) rfl
  have e154 : 40000 = G141 129 n5 0 := gr_val g142 e119 s111 (by decide) rfl
  have e155 : 0 = G141 130 ach19 0 := gr_val g142 e120 s112 (by decide) rfl
  have e156 : n5 = G141 142 this 17 := gr_val g142 e121 s110 (by decide) rfl
  have e157 : ach19 = G141 142 this 5 := gr_val g142 e122 s110 (by decide) rfl
  have e158 : if57 = G141 129 n5 10 := gr_val g142 e123 s111 (by decide) rfl
  have e159 : if57 = G141 142 this 6 := gr_val g142 e124 s110 (by decide) rfl
  have e160 : tf59 = G141 129 n5 11 := gr_val g142 e125 s111 (by decide) rfl
  have e161 : tf59 = G141 142 this 7 := gr_val g142 e126 s110 (by decide) rfl
  have e162 : ef61 = G141 129 n5 12 := gr_val g142 e127 s111 (by decide) rfl
  have e163 : ef61 = G141 142 this 8 := gr_val g142 e128 s110 (by decide) rfl
  have e164 : pf63 = G141 129 n5 13 := gr_val g142 e129 s111 (by decide) rfl
  have e165 : pf63 = G141 142 this 9 := gr_val g142 e130 s110 (by decide) rfl
  have e166 : (Ad E 0) = G141 158 n67 1 := gr_val g142 e131 r106.1 (by decide) rfl
  have e167 : n67 = G141 142 this 10 := gr_val g142 h136 s110 (by decide) rfl
  have g168 : Gr [93, 94, 95, 96, 97, 98, 99, 105, 106, 107, 108, 109, 110, 111, 112, 113, 114, 115, 116, 117, 118, 129, 130, 131, 132, 134, 143, 144, 145, 146, 148, 153, 154, 155, 156, 157, 158, 159] [(142, 4), (142, 5), (142, 6), (142, 7), (142, 8), (142, 9), (142, 10), (142, 11), (142, 12), (142, 13), (142, 14), (142, 15), (142, 16), (142, 17), (142, 18), (143, 0), (143, 1), (143, 3), (143, 4), (143, 5), (143, 6), (143, 7), (143, 8), (143, 9), (143, 10), (143, 11), (143, 12), (143, 13), (143, 14), (143, 17), (143, 18), (143, 19), (144, 1), (144, 2), (144, 3), (144, 4), (144, 5), (144, 6), (144, 7), (144, 8), (144, 9), (144, 10), (144, 11), (144, 12), (144, 13), (144, 14), (144, 15), (144, 16), (144, 17), (145, 1), (145, 2), (145, 3), (145, 12), (145, 15), (145, 16), (146, 5), (146, 6), (146, 7), (146, 8), (146, 9), (146, 10), (146, 11), (146, 13), (146, 14), (146, 15), (146, 16), (148, 1), (148, 3), (148, 4), (148, 5), (153, 0), (153, 1)] S G S140 G141 := gr_call g138 g142 rfl rfl
  have u169 : UqL [158, 129, 157, 156, 155, 154, 130] S140 := uq_gr u133 g142 rfl
  have u170 : No [128, 131, 132, 159, 136, 138] S140 := no_gr (no_sub u135 rfl) g142 rfl
  have u171 : EmL E [158, 157, 156, 155, 154] S140 G141 := em_gr u137 g142 rfl
  refine r_ex hX hP 1 (pc' := 91) (st' := [(2, n139), (2, n139), (2, this)]) (lo' := [(0, (2, this))]) rfl ?_
  refine r_callI gd hX hP rfl ci_X11_44 n139n (d' := 5) (mc' := 0) (ms' := 0) (as' := []) (st := [(2, n139), (2, this)]) (by first | decide | omega) (by first | decide | omega) (by first | decide | omega) rfl rfl (Nat.le_of_ble_eq_true rfl) (c_Jx4a65c_init_da8c8 E S140 G141 n139  n139l) ?_
  rintro _ _ _ ⟨rfl, ⟨G172, rfl⟩, rfl, elh173, elh173e, f174⟩
  have e176 : Ad E 0 = (hw [(153, 0), (153, 1)] G141 G172) 153 n139 1 := by rw [← f174]; exact elh173e
  have u177 : EmL E [158, 157, 156, 155, 154] S140 (hw [(153, 0), (153, 1)] G141 G172) := (em_hw u171 rfl)
  have g178 : Gr [93, 94, 95, 96, 97, 98, 99, 105, 106, 107, 108, 109, 110, 111, 112, 113, 114, 115, 116, 117, 118, 129, 130, 131, 132, 134, 143, 144, 145, 146, 148, 153, 154, 155, 156, 157, 158, 159] [(142, 4), (142, 5), (142, 6), (142, 7), (142, 8), (142, 9), (142, 10), (142, 11), (142, 12), (142, 13), (142, 14), (142, 15), (142, 16), (142, 17), (142, 18), (143, 0), (143, 1), (143, 3), (143, 4), (143, 5), (143, 6), (143, 7), (143, 8), (143, 9), (143, 10), (143, 11), (143, 12), (143, 13), (143, 14), (143, 17), (143, 18), (143, 19), (144, 1), (144, 2), (144, 3), (144, 4), (144, 5), (144, 6), (144, 7), (144, 8), (144, 9), (144, 10), (144, 11), (144, 12), (144, 13), (144, 14), (144, 15), (144, 16), (144, 17), (145, 1), (145, 2), (145, 3), (145, 12), (145, 15), (145, 16), (146, 5), (146, 6), (146, 7), (146, 8), (146, 9), (146, 10), (146, 11), (146, 13), (146, 14), (146, 15), (146, 16), (148, 1), (148, 3), (148, 4), (148, 5), (153, 0), (153, 1)] S G S140 (hw [(153, 0), (153, 1)] G141 G172) := (gr_hw g168 rfl)
  refine r_finA hX (L := 153) (ci := 0) (fs := fs_153) rfl n139l (by decide) (fun hr179 => ?_)
  have hf180 : Fnl E fs_159 153 S140 (hw [(153, 0), (153, 1)] G141 G172) n139 := by
    intro j hj
    rcases (by have : j < 3 := hj; omega : j = 0 ∨ j = 1 ∨ j = 2) with rfl | rfl | rfl
    · exact hr179 0 (by decide)
    · exact Or.inl e176.symm
    · have e : (0 : Int) ≤ (hw [(153, 0), (153, 1)] G141 G172) 153 n139 2 ∧ (hw [(153, 0), (153, 1)] G141 G172) 153 n139 2 ≤ 0 := hr179 2 (by decide); show (0 : Int) ≤ (hw [(153, 0), (153, 1)] G141 G172) 153 n139 2 ∧ (hw [(153, 0), (153, 1)] G141 G172) 153 n139 2 ≤ 60; omega
  refine r_relabF hX (L := 153) (L' := 159) (ci := 0) (fs := fs_153) (fs' := fs_159) rfl rfl rfl (by decide) (by decide) nf_153 (by decide) n139l hf180 (fun S182 G183 r181 => ?_)
  have s185 : S182 this = 142 := r181.lab n139l s144 (by decide)
  have s186 : S182 n5 = 129 := r181.lab n139l s145 (by decide)
  have s187 : S182 ach19 = 130 := r181.lab n139l s146 (by decide)
  have s188 : S182 if57 = 154 := r181.lab n139l s147 (by decide)
  have s189 : S182 tf59 = 155 := r181.lab n139l s148 (by decide)
  have s190 : S182 ef61 = 156 := r181.lab n139l s149 (by decide)
  have s191 : S182 pf63 = 157 := r181.lab n139l s150 (by decide)
  have s192 : S182 n67 = 158 := r181.lab n139l s151 (by decide)
  have e193 : 1 = G183 142 this 4 := rs_val r181 n139l e152 s144 (by decide)
  have e194 : ach19 = G183 129 n5 9 := rs_val r181 n139l e153 s145 (by decide)
  have e195 : 40000 = G183 129 n5 0 := rs_val r181 n139l e154 s145 (by decide)
  have e196 : 0 = G183 130 ach19 0 := rs_val r181 n139l e155 s146 (by decide)
  have e197 : n5 = G183 142 this 17 := rs_val r181 n139l e156 s144 (by decide)
  have e198 : ach19 = G183 142 this 5 := rs_val r181 n139l e157 s144 (by decide)
  have e199 : if57 = G183 129 n5 10 := rs_val r181 n139l e158 s145 (by decide)
  have e200 : if57 = G183 142 this 6 := rs_val r181 n139l e159 s144 (by decide)
  have e201 : tf59 = G183 129 n5 11 := rs_val r181 n139l e160 s145 (by decide)
  have e202 : tf59 = G183 142 this 7 := rs_val r181 n139l e161 s144 (by decide)
  have e203 : ef61 = G183 129 n5 12 := rs_val r181 n139l e162 s145 (by decide)
  have e204 : ef61 = G183 142 this 8 := rs_val r181 n139l e163 s144 (by decide)
  have e205 : pf63 = G183 129 n5 13 := rs_val r181 n139l e164 s145 (by decide)
  have e206 : pf63 = G183 142 this 9 := rs_val r181 n139l e165 s144 (by decide)
  have e207 : (Ad E 0) = G183 158 n67 1 := rs_val r181 n139l e166 s151 (by decide)
  have e208 : n67 = G183 142 this 10 := rs_val r181 n139l e167 s144 (by decide)
  have e209 : (Ad E 0) = G183 159 n139 1 := e176.trans (r181.2.2.1 1).symm
  have g210 : Gr [93, 94, 95, 96, 97, 98, 99, 105, 106, 107, 108, 109, 110, 111, 112, 113, 114, 115, 116, 117, 118, 129, 130, 131, 132, 134, 143, 144, 145, 146, 148, 153, 154, 155, 156, 157, 158, 159] [(142, 4), (142, 5), (142, 6), (142, 7), (142, 8), (142, 9), (142, 10), (142, 11), (142, 12), (142, 13), (142, 14), (142, 15), (142, 16), (142, 17), (142, 18), (143, 0), (143, 1), (143, 3), (143, 4), (143, 5), (143, 6), (143, 7), (143, 8), (143, 9), (143, 10), (143, 11), (143, 12), (143, 13), (143, 14), (143, 17), (143, 18), (143, 19), (144, 1), (144, 2), (144, 3), (144, 4), (144, 5), (144, 6), (144, 7), (144, 8), (144, 9), (144, 10), (144, 11), (144, 12), (144, 13), (144, 14), (144, 15), (144, 16), (144, 17), (145, 1), (145, 2), (145, 3), (145, 12), (145, 15), (145, 16), (146, 5), (146, 6), (146, 7), (146, 8), (146, 9), (146, 10), (146, 11), (146, 13), (146, 14), (146, 15), (146, 16), (148, 1), (148, 3), (148, 4), (148, 5), (153, 0), (153, 1)] S G S182 G183 := gr_rs g178 r181 z143 rfl
  have u211 : UqL [159, 158, 129, 157, 156, 155, 154, 130] S182 := uq_rs u169 (no_sub u170 rfl) r181 rfl
  have u212 : EmL E [159, 158, 157, 156, 155, 154] S182 G183 := em_rs u177 (no_sub u170 rfl) r181 e176 (by have e : (0 : Int) ≤ (hw [(153, 0), (153, 1)] G141 G172) 153 n139 2 ∧ (hw [(153, 0), (153, 1)] G141 G172) 153 n139 2 ≤ 0 := hr179 2 (by decide); omega) rfl
  have u213 : No [128, 131, 132, 136, 138] S182 := no_rs u170 r181 rfl
  refine r_putFN hX hP rfl rfl fq_X11_48_142 s185 (by decide) (Or.inr r181.1) (fun h214 => ?_)
  refine r_ex hX hP 2 (pc' := 100) (st' := [(0, 20), (2, this)]) (lo' := [(0, (2, this))]) rfl ?_
  have u215 : EmL E [159, 158, 157, 156, 155, 154] S182 (up G183 142 this 11 n139) := (em_up u212 rfl)
  have g216 : Gr [93, 94, 95, 96, 97, 98, 99, 105, 106, 107, 108, 109, 110, 111, 112, 113, 114, 115, 116, 117, 118, 129, 130, 131, 132, 134, 143, 144, 145, 146, 148, 153, 154, 155, 156, 157, 158, 159] [(142, 4), (142, 5), (142, 6), (142, 7), (142, 8), (142, 9), (142, 10), (142, 11), (142, 12), (142, 13), (142, 14), (142, 15), (142, 16), (142, 17), (142, 18), (143, 0), (143, 1), (143, 3), (143, 4), (143, 5), (143, 6), (143, 7), (143, 8), (143, 9), (143, 10), (143, 11), (143, 12), (143, 13), (143, 14), (143, 17), (143, 18), (143, 19), (144, 1), (144, 2), (144, 3), (144, 4), (144, 5), (144, 6), (144, 7), (144, 8), (144, 9), (144, 10), (144, 11), (144, 12), (144, 13), (144, 14), (144, 15), (144, 16), (144, 17), (145, 1), (145, 2), (145, 3), (145, 12), (145, 15), (145, 16), (146, 5), (146, 6), (146, 7), (146, 8), (146, 9), (146, 10), (146, 11), (146, 13), (146, 14), (146, 15), (146, 16), (148, 1), (148, 3), (148, 4), (148, 5), (153, 0), (153, 1)] S G S182 (up G183 142 this 11 n139) := (gr_up g210 rfl)
  refine r_newarrA hX hP rfl (L := 94) (n := 20) al_94 (by decide) rfl rfl rfl (tbg sg1 124 rfl rfl) (by decide) (by first | decide | omega) (by first | decide | omega) (fun n217 S218 G219 n217z n217n n217l g220 n217v => ?_)
  have z221 : S n217 = 0 := gr_zero g216 n217z
  have s222 : S218 this = 142 := gr_lab g220 s185 (by decide)
  have s223 : S218 n5 = 129 := gr_lab g220 s186 (by decide)
  have s224 : S218 ach19 = 130 := gr_lab g220 s187 (by decide)
  have s225 : S218 if57 = 154 := gr_lab g220 s188 (by decide)
  have s226 : S218 tf59 = 155 := gr_lab g220 s189 (by decide)
  have s227 : S218 ef61 = 156 := gr_lab g220 s190 (by decide)
  have s228 : S218 pf63 = 157 := gr_lab g220 s191 (by decide)
  have s229 : S218 n67 = 158 := gr_lab g220 s192 (by decide)
  have s230 : S218 n139 = 159 := gr_lab g220 r181.1 (by decide)
  have e231 : 1 = G219 142 this 4 := gr_val g220 e193 s185 (by decide) rfl
  have e232 : ach19 = G219 129 n5 9 := gr_val g220 e194 s186 (by decide) rfl
  have e233 : 40000 = G219 129 n5 0 := gr_val g220 e195 s186 (by decide) rfl
  have e234 : 0 = G219 130 ach19 0 := gr_val g220 e196 s187 (by decide) rfl
  have e235 : n5 = G219 142 this 17 := gr_val g220 e197 s185 (by decide) rfl
  have e236 : ach19 = G219 142 this 5 := gr_val g220 e198 s185 (by decide) rfl
  have e237 : if57 = G219 129 n5 10 := gr_val g220 e199 s186 (by decide) rfl
  have e238 : if57 = G219 142 this 6 := gr_val g220 e200 s185 (by decide) rfl
  have e239 : tf59 = G219 129 n5 11 := gr_val g220 e201 s186 (by decide) rfl
  have e240 : tf59 = G219 142 this 7 := gr_val g220 e202 s185 (by decide) rfl
  have e241 : ef61 = G219 129 n5 12 := gr_val g220 e203 s186 (by decide) rfl
  have e242 : ef61 = G219 142 this 8 := gr_val g220 e204 s185 (by decide) rfl
  have e243 : pf63 = G219 129 n5 13 := gr_val g220 e205 s186 (by decide) rfl
  have e244 : pf63 = G219 142 this 9 := gr_val g220 e206 s185 (by decide) rfl
  have e245 : (Ad E 0) = G219 158 n67 1 := gr_val g220 e207 s192 (by decide) rfl
  have e246 : n67 = G219 142 this 10 := gr_val g220 e208 s185 (by decide) rfl
  have e247 : (Ad E 0) = G219 159 n139 1 := gr_val g220 e209 r181.1 (by decide) rfl
  have e248 : n139 = G219 142 this 11 := gr_val g220 h214 s185 (by decide) rfl
  have g249 : Gr [93, 94, 95, 96, 97, 98, 99, 105, 106, 107, 108, 109, 110, 111, 112, 113, 114, 115, 116, 117, 118, 129, 130, 131, 132, 134, 143, 144, 145, 146, 148, 153, 154, 155, 156, 157, 158, 159] [(142, 4), (142, 5), (142, 6), (142, 7), (142, 8), (142, 9), (142, 10), (142, 11), (142, 12), (142, 13), (142, 14), (142, 15), (142, 16), (142, 17), (142, 18), (143, 0), (143, 1), (143, 3), (143, 4), (143, 5), (143, 6), (143, 7), (143, 8), (143, 9), (143, 10), (143, 11), (143, 12), (143, 13), (143, 14), (143, 17), (143, 18), (143, 19), (144, 1), (144, 2), (144, 3), (144, 4), (144, 5), (144, 6), (144, 7), (144, 8), (144, 9), (144, 10), (144, 11), (144, 12), (144, 13), (144, 14), (144, 15), (144, 16), (144, 17), (145, 1), (145, 2), (145, 3), (145, 12), (145, 15), (145, 16), (146, 5), (146, 6), (146, 7), (146, 8), (146, 9), (146, 10), (146, 11), (146, 13), (146, 14), (146, 15), (146, 16), (148, 1), (148, 3), (148, 4), (148, 5), (153, 0), (153, 1)] S G S218 G219 := gr_call g216 g220 rfl rfl
  have u250 : UqL [159, 158, 129, 157, 156, 155, 154, 130] S218 := uq_gr u211 g220 rfl
  have u251 : No [128, 131, 132, 136, 138] S218 := no_gr (no_sub u213 rfl) g220 rfl
  have u252 : EmL E [159, 158, 157, 156, 155, 154] S218 G219 := em_gr u215 g220 rfl
  refine r_putFN hX hP rfl rfl fq_X11_51_142 s222 (by decide) (Or.inr n217l) (fun h253 => ?_)
  refine r_ex hX hP 1 (pc' := 106) (st' := [(2, this)]) (lo' := [(0, (2, this))]) rfl ?_
  have u254 : EmL E [159, 158, 157, 156, 155, 154] S218 (up G219 142 this 12 n217) := (em_up u252 rfl)
  have g255 : Gr [93, 94, 95, 96, 97, 98, 99, 105, 106, 107, 108, 109, 110, 111, 112, 113, 114, 115, 116, 117, 118, 129, 130, 131, 132, 134, 143, 144, 145, 146, 148, 153, 154, 155, 156, 157, 158, 159] [(142, 4), (142, 5), (142, 6), (142, 7), (142, 8), (142, 9), (142, 10), (142, 11), (142, 12), (142, 13), (142, 14), (142, 15), (142, 16), (142, 17), (142, 18), (143, 0), (143, 1), (143, 3), (143, 4), (143, 5), (143, 6), (143, 7), (143, 8), (143, 9), (143, 10), (143, 11), (143, 12), (143, 13), (143, 14), (143, 17), (143, 18), (143, 19), (144, 1), (144, 2), (144, 3), (144, 4), (144, 5), (144, 6), (144, 7), (144, 8), (144, 9), (144, 10), (144, 11), (144, 12), (144, 13), (144, 14), (144, 15), (144, 16), (144, 17), (145, 1), (145, 2), (145, 3), (145, 12), (145, 15), (145, 16), (146, 5), (146, 6), (146, 7), (146, 8), (146, 9), (146, 10), (146, 11), (146, 13), (146, 14), (146, 15), (146, 16), (148, 1), (148, 3), (148, 4), (148, 5), (153, 0), (153, 1)] S G S218 (up G219 142 this 12 n217) := (gr_up g249 rfl)
  refine r_newA hX hP rfl (L := 148) (N := 6) nw_X11_55_148 (by first | decide | omega) (by first | decide | omega) (fun n256 S257 G258 n256z n256n n256l g259 n256v => ?_)
  have z260 : S n256 = 0 := gr_zero g255 n256z
  have s261 : S257 this = 142 := gr_lab g259 s222 (by decide)
  have s262 : S257 n5 = 129 := gr_lab g259 s223 (by decide)
  have s263 : S257 ach19 = 130 := gr_lab g259 s224 (by decide)
  have s264 : S257 if57 = 154 := gr_lab g259 s225 (by decide)
  have s265 : S257 tf59 = 155 := gr_lab g259 s226 (by decide)
  have s266 : S257 ef61 = 156 := gr_lab g259 s227 (by decide)
  have s267 : S257 pf63 = 157 := gr_lab g259 s228 (by decide)
  have s268 : S257 n67 = 158 := gr_lab g259 s229 (by decide)
  have s269 : S257 n139 = 159 := gr_lab g259 s230 (by decide)
  have s270 : S257 n217 = 94 := gr_lab g259 n217l (by decide)
  have e271 : 1 = G258 142 this 4 := gr_val g259 e231 s222 (by decide) rfl
  have e272 : ach19 = G258 129 n5 9 := gr_val g259 e232 s223 (by decide) rfl
  have e273 : 40000 = G258 129 n5 0 := gr_val g259 e233 s223 (by decide) rfl
  have e274 : 0 = G258 130 ach19 0 := gr_val g259 e234 s224 (by decide) rfl
  have e275 : n5 = G258 142 this 17 := gr_val g259 e235 s222 (by decide) rfl
  have e276 : ach19 = G258 142 this 5 := gr_val g259 e236 s222 (by decide) rfl
  have e277 : if57 = G258 129 n5 10 := gr_val g259 e237 s223 (by decide) rfl
  have e278 : if57 = G258 142 this 6 := gr_val g259 e238 s222 (by decide) rfl
  have e279 : tf59 = G258 129 n5 11 := gr_val g259 e239 s223 (by decide) rfl
  have e280 : tf59 = G258 142 this 7 := gr_val g259 e240 s222 (by decide) rfl
  have e281 : ef61 = G258 129 n5 12 := gr_val g259 e241 s223 (by decide) rfl
  have e282 : ef61 = G258 142 this 8 := gr_val g259 e242 s222 (by decide) rfl
  have e283 : pf63 = G258 129 n5 13 := gr_val g259 e243 s223 (by decide) rfl
  have e284 : pf63 = G258 142 this 9 := gr_val g259 e244 s222 (by decide) rfl
  have e285 : (Ad E 0) = G258 158 n67 1 := gr_val g259 e245 s229 (by decide) rfl
  have e286 : n67 = G258 142 this 10 := gr_val g259 e246 s222 (by decide) rfl
  have e287 : (Ad E 0) = G258 159 n139 1 := gr_val g259 e247 s230 (by decide) rfl
  have e288 : n139 = G258 142 this 11 := gr_val g259 e248 s222 (by decide) rfl
  have e289 : n217 = G258 142 this 12 := gr_val g259 h253 s222 (by decide) rfl
  have g290 : Gr [93, 94, 95, 96, 97, 98, 99, 105, 106, 107, 108, 109, 110, 111, 112, 113, 114, 115, 116, 117, 118, 129, 130, 131, 132, 134, 143, 144, 145, 146, 148, 153, 154, 155, 156, 157, 158, 159] [(142, 4), (142, 5), (142, 6), (142, 7), (142, 8), (142, 9), (142, 10), (142, 11), (142, 12), (142, 13), (142, 14), (142, 15), (142, 16), (142, 17), (142, 18), (143, 0), (143, 1), (143, 3), (143, 4), (143, 5), (143, 6), (143, 7), (143, 8), (143, 9), (143, 10), (143, 11), (143, 12), (143, 13), (143, 14), (143, 17), (143, 18), (143, 19), (144, 1), (144, 2), (144, 3), (144, 4), (144, 5), (144, 6), (144, 7), (144, 8), (144, 9), (144, 10), (144, 11), (144, 12), (144, 13), (144, 14), (144, 15), (144, 16), (144, 17), (145, 1), (145, 2), (145, 3), (145, 12), (145, 15), (145, 16), (146, 5), (146, 6), (146, 7), (146, 8), (146, 9), (146, 10), (146, 11), (146, 13), (146, 14), (146, 15), (146, 16), (148, 1), (148, 3), (148, 4), (148, 5), (153, 0), (153, 1)] S G S257 G258 := gr_call g255 g259 rfl rfl
  have u291 : UqL [159, 158, 129, 157, 156, 155, 154, 130] S257 := uq_gr u250 g259 rfl
  have u292 : No [128, 131, 132, 136, 138] S257 := no_gr (no_sub u251 rfl) g259 rfl
  have u293 : EmL E [159, 158, 157, 156, 155, 154] S257 G258 := em_gr u254 g259 rfl
  refine r_ex hX hP 1 (pc' := 110) (st' := [(2, n256), (2, n256), (2, this)]) (lo' := [(0, (2, this))]) rfl ?_
  refine r_callIN gd hX hP rfl cn_X11_57 n256n (d' := 3) (mc' := 3) (ms' := 27) (as' := []) (st := [(2, n256), (2, this)]) (by first | decide | omega) (by first | decide | omega) (by first | decide | omega) rfl rfl (Nat.le_of_ble_eq_true rfl) (c_X4_init E S257 G258 n256  n256l) ?_
  rintro _ S294 G295 ⟨g296, rfl, hf297⟩
  have s298 : S294 this = 142 := gr_lab g296 s261 (by decide)
  have s299 : S294 n5 = 129 := gr_lab g296 s262 (by decide)
  have s300 : S294 ach19 = 130 := gr_lab g296 s263 (by decide)
  have s301 : S294 if57 = 154 := gr_lab g296 s264 (by decide)
  have s302 : S294 tf59 = 155 := gr_lab g296 s265 (by decide)
  have s303 : S294 ef61 = 156 := gr_lab g296 s266 (by decide)
  have s304 : S294 pf63 = 157 := gr_lab g296 s267 (by decide)
  have s305 : S294 n67 = 158 := gr_lab g296 s268 (by decide)
  have s306 : S294 n139 = 159 := gr_lab g296 s269 (by decide)
  have s307 : S294 n217 = 94 := gr_lab g296 s270 (by decide)
  have s308 : S294 n256 = 148 := gr_lab g296 n256l (by decide)
  have e309 : 1 = G295 142 this 4 := gr_val g296 e271 s261 (by decide) rfl
  have e310 : ach19 = G295 129 n5 9 := gr_val g296 e272 s262 (by decide) rfl
  have e311 : 40000 = G295 129 n5 0 := gr_val g296 e273 s262 (by decide) rfl
  have e312 : 0 = G295 130 ach19 0 := gr_val g296 e274 s263 (by decide) rfl
  have e313 : n5 = G295 142 this 17 := gr_val g296 e275 s261 (by decide) rfl
  have e314 : ach19 = G295 142 this 5 := gr_val g296 e276 s261 (by decide) rfl
  have e315 : if57 = G295 129 n5 10 := gr_val g296 e277 s262 (by decide) rfl
  have e316 : if57 = G295 142 this 6 := gr_val g296 e278 s261 (by decide) rfl
  have e317 : tf59 = G295 129 n5 11 := gr_val g296 e279 s262 (by decide) rfl
  have e318 : tf59 = G295 142 this 7 := gr_val g296 e280 s261 (by decide) rfl
  have e319 : ef61 = G295 129 n5 12 := gr_val g296 e281 s262 (by decide) rfl
  have e320 : ef61 = G295 142 this 8 := gr_val g296 e282 s261 (by decide) rfl
  have e321 : pf63 = G295 129 n5 13 := gr_val g296 e283 s262 (by decide) rfl
  have e322 : pf63 = G295 142 this 9 := gr_val g296 e284 s261 (by decide) rfl
  have e323 : (Ad E 0) = G295 158 n67 1 := gr_val g296 e285 s268 (by decide) rfl
  have e324 : n67 = G295 142 this 10 := gr_val g296 e286 s261 (by decide) rfl
  have e325 : (Ad E 0) = G295 159 n139 1 := gr_val g296 e287 s269 (by decide) rfl
  have e326 : n139 = G295 142 this 11 := gr_val g296 e288 s261 (by decide) rfl
  have e327 : n217 = G295 142 this 12 := gr_val g296 e289 s261 (by decide) rfl
  have g328 : Gr [93, 94, 95, 96, 97, 98, 99, 105, 106, 107, 108, 109, 110, 111, 112, 113, 114, 115, 116, 117, 118, 129, 130, 131, 132, 134, 143, 144, 145, 146, 148, 153, 154, 155, 156, 157, 158, 159] [(142, 4), (142, 5), (142, 6), (142, 7), (142, 8), (142, 9), (142, 10), (142, 11), (142, 12), (142, 13), (142, 14), (142, 15), (142, 16), (142, 17), (142, 18), (143, 0), (143, 1), (143, 3), (143, 4), (143, 5), (143, 6), (143, 7), (143, 8), (143, 9), (143, 10), (143, 11), (143, 12), (143, 13), (143, 14), (143, 17), (143, 18), (143, 19), (144, 1), (144, 2), (144, 3), (144, 4), (144, 5), (144, 6), (144, 7), (144, 8), (144, 9), (144, 10), (144, 11), (144, 12), (144, 13), (144, 14), (144, 15), (144, 16), (144, 17), (145, 1), (145, 2), (145, 3), (145, 12), (145, 15), (145, 16), (146, 5), (146, 6), (146, 7), (146, 8), (146, 9), (146, 10), (146, 11), (146, 13), (146, 14), (146, 15), (146, 16), (148, 1), (148, 3), (148, 4), (148, 5), (153, 0), (153, 1)] S G S294 G295 := gr_call g290 g296 rfl rfl
  have u329 : UqL [159, 158, 129, 157, 156, 155, 154, 130] S294 := uq_gr u291 g296 rfl
  have u330 : No [128, 131, 132, 136, 138] S294 := no_gr (no_sub u292 rfl) g296 rfl
  have u331 : EmL E [159, 158, 157, 156, 155, 154] S294 G295 := em_gr u293 g296 rfl
  refine r_finA hX (L := 148) (ci := 5) (fs := fs_148) rfl s308 (by decide) (fun hr332 => ?_)
  refine r_relabF hX (L := 148) (L' := 134) (ci := 5) (fs := fs_148) (fs' := fs_134) rfl rfl rfl (by decide) (by decide) nf_148 (by decide) s308 hf297 (fun S335 G336 r334 => ?_)
  have s338 : S335 this = 142 := r334.lab s308 s298 (by decide)
  have s339 : S335 n5 = 129 := r334.lab s308 s299 (by decide)
  have s340 : S335 ach19 = 130 := r334.lab s308 s300 (by decide)
  have s341 : S335 if57 = 154 := r334.lab s308 s301 (by decide)
  have s342 : S335 tf59 = 155 := r334.lab s308 s302 (by decide)
  have s343 : S335 ef61 = 156 := r334.lab s308 s303 (by decide)
  have s344 : S335 pf63 = 157 := r334.lab s308 s304 (by decide)
  have s345 : S335 n67 = 158 := r334.lab s308 s305 (by decide)
  have s346 : S335 n139 = 159 := r334.lab s308 s306 (by decide)
  have s347 : S335 n217 = 94 := r334.lab s308 s307 (by decide)
  have e348 : 1 = G336 142 this 4 := rs_val r334 s308 e309 s298 (by decide)
  have e349 : ach19 = G336 129 n5 9 := rs_val r334 s308 e310 s299 (by decide)
  have e350 : 40000 = G336 129 n5 0 := rs_val r334 s308 e311 s299 (by decide)
  have e351 : 0 = G336 130 ach19 0 := rs_val r334 s308 e312 s300 (by decide)
  have e352 : n5 = G336 142 this 17 := rs_val r334 s308 e313 s298 (by decide)
  have e353 : ach19 = G336 142 this 5 := rs_val r334 s308 e314 s298 (by decide)
  have e354 : if57 = G336 129 n5 10 := rs_val r334 s308 e315 s299 (by decide)
  have e355 : if57 = G336 142 this 6 := rs_val r334 s308 e316 s298 (by decide)
  have e356 : tf59 = G336 129 n5 11 := rs_val r334 s308 e317 s299 (by decide)
  have e357 : tf59 = G336 142 this 7 := rs_val r334 s308 e318 s298 (by decide)
  have e358 : ef61 = G336 129 n5 12 := rs_val r334 s308 e319 s299 (by decide)
  have e359 : ef61 = G336 142 this 8 := rs_val r334 s308 e320 s298 (by decide)
  have e360 : pf63 = G336 129 n5 13 := rs_val r334 s308 e321 s299 (by decide)
  have e361 : pf63 = G336 142 this 9 := rs_val r334 s308 e322 s298 (by decide)
  have e362 : (Ad E 0) = G336 158 n67 1 := rs_val r334 s308 e323 s305 (by decide)
  have e363 : n67 = G336 142 this 10 := rs_val r334 s308 e324 s298 (by decide)
  have e364 : (Ad E 0) = G336 159 n139 1 := rs_val r334 s308 e325 s306 (by decide)
  have e365 : n139 = G336 142 this 11 := rs_val r334 s308 e326 s298 (by decide)
  have e366 : n217 = G336 142 this 12 := rs_val r334 s308 e327 s298 (by decide)
  have g367 : Gr [93, 94, 95, 96, 97, 98, 99, 105, 106, 107, 108, 109, 110, 111, 112, 113, 114, 115, 116, 117, 118, 129, 130, 131, 132, 134, 143, 144, 145, 146, 148, 153, 154, 155, 156, 157, 158, 159] [(142, 4), (142, 5), (142, 6), (142, 7), (142, 8), (142, 9), (142, 10), (142, 11), (142, 12), (142, 13), (142, 14), (142, 15), (142, 16), (142, 17), (142, 18), (143, 0), (143, 1), (143, 3), (143, 4), (143, 5), (143, 6), (143, 7), (143, 8), (143, 9), (143, 10), (143, 11), (143, 12), (143, 13), (143, 14), (143, 17), (143, 18), (143, 19), (144, 1), (144, 2), (144, 3), (144, 4), (144, 5), (144, 6), (144, 7), (144, 8), (144, 9), (144, 10), (144, 11), (144, 12), (144, 13), (144, 14), (144, 15), (144, 16), (144, 17), (145, 1), (145, 2), (145, 3), (145, 12), (145, 15), (145, 16), (146, 5), (146, 6), (146, 7), (146, 8), (146, 9), (146, 10), (146, 11), (146, 13), (146, 14), (146, 15), (146, 16), (148, 1), (148, 3), (148, 4), (148, 5), (153, 0), (153, 1)] S G S335 G336 := gr_rs g328 r334 z260 rfl
  have u368 : UqL [159, 158, 129, 157, 156, 155, 154, 130] S335 := uq_rsN u329 r334 rfl
  have u369 : EmL E [159, 158, 157, 156, 155, 154] S335 G336 := em_rsN u331 r334 rfl
  have u370 : No [128, 131, 132, 136, 138] S335 := no_rs u330 r334 rfl
  refine r_putFN hX hP rfl rfl fq_X11_58_142 s338 (by decide) (Or.inr r334.1) (fun h371 => ?_)
  refine r_ex hX hP 1 (pc' := 117) (st' := [(2, this)]) (lo' := [(0, (2, this))]) rfl ?_
  have u372 : EmL E [159, 158, 157, 156, 155, 154] S335 (up G336 142 this 13 n256) := (em_up u369 rfl)
  have g373 : Gr [93, 94, 95, 96, 97, 98, 99, 105, 106, 107, 108, 109, 110, 111, 112, 113, 114, 115, 116, 117, 118, 129, 130, 131, 132, 134, 143, 144, 145, 146, 148, 153, 154, 155, 156, 157, 158, 159] [(142, 4), (142, 5), (142, 6), (142, 7), (142, 8), (142, 9), (142, 10), (142, 11), (142, 12), (142, 13), (142, 14), (142, 15), (142, 16), (142, 17), (142, 18), (143, 0), (143, 1), (143, 3), (143, 4), (143, 5), (143, 6), (143, 7), (143, 8), (143, 9), (143, 10), (143, 11), (143, 12), (143, 13), (143, 14), (143, 17), (143, 18), (143, 19), (144, 1), (144, 2), (144, 3), (144, 4), (144, 5), (144, 6), (144, 7), (144, 8), (144, 9), (144, 10), (144, 11), (144, 12), (144, 13), (144, 14), (144, 15), (144, 16), (144, 17), (145, 1), (145, 2), (145, 3), (145, 12), (145, 15), (145, 16), (146, 5), (146, 6), (146, 7), (146, 8), (146, 9), (146, 10), (146, 11), (146, 13), (146, 14), (146, 15), (146, 16), (148, 1), (148, 3), (148, 4), (148, 5), (153, 0), (153, 1)] S G S335 (up G336 142 this 13 n256) := (gr_up g367 rfl)
  refine r_newA hX hP rfl (L := 148) (N := 6) nw_X11_55_148 (by first | decide | omega) (by first | decide | omega) (fun n374 S375 G376 n374z n374n n374l g377 n374v => ?_)
  have z378 : S n374 = 0 := gr_zero g373 n374z
  have s379 : S375 this = 142 := gr_lab g377 s338 (by decide)
  have s380 : S375 n5 = 129 := gr_lab g377 s339 (by decide)
  have s381 : S375 ach19 = 130 := gr_lab g377 s340 (by decide)
  have s382 : S375 if57 = 154 := gr_lab g377 s341 (by decide)
  have s383 : S375 tf59 = 155 := gr_lab g377 s342 (by decide)
  have s384 : S375 ef61 = 156 := gr_lab g377 s343 (by decide)
  have s385 : S375 pf63 = 157 := gr_lab g377 s344 (by decide)
  have s386 : S375 n67 = 158 := gr_lab g377 s345 (by decide)
  have s387 : S375 n139 = 159 := gr_lab g377 s346 (by decide)
  have s388 : S375 n217 = 94 := gr_lab g377 s347 (by decide)
  have s389 : S375 n256 = 134 := gr_lab g377 r334.1 (by decide)
  have e390 : 1 = G376 142 this 4 := gr_val g377 e348 s338 (by decide) rfl
  have e391 : ach19 = G376 129 n5 9 := gr_val g377 e349 s339 (by decide) rfl
  have e392 : 40000 = G376 129 n5 0 := gr_val g377 e350 s339 (by decide) rfl
  have e393 : 0 = G376 130 ach19 0 := gr_val g377 e351 s340 (by decide) rfl
  have e394 : n5 = G376 142 this 17 := gr_val g377 e352 s338 (by decide) rfl
  have e395 : ach19 = G376 142 this 5 := gr_val g377 e353 s338 (by decide) rfl
  have e396 : if57 = G376 129 n5 10 := gr_val g377 e354 s339 (by decide) rfl
  have e397 : if57 = G376 142 this 6 := gr_val g377 e355 s338 (by decide) rfl
  have e398 : tf59 = G376 129 n5 11 := gr_val g377 e356 s339 (by decide) rfl
  have e399 : tf59 = G376 142 this 7 := gr_val g377 e357 s338 (by decide) rfl
  have e400 : ef61 = G376 129 n5 12 := gr_val g377 e358 s339 (by decide) rfl
  have e401 : ef61 = G376 142 this 8 := gr_val g377 e359 s338 (by decide) rfl
  have e402 : pf63 = G376 129 n5 13 := gr_val g377 e360 s339 (by decide) rfl
  have e403 : pf63 = G376 142 this 9 := gr_val g377 e361 s338 (by decide) rfl
  have e404 : (Ad E 0) = G376 158 n67 1 := gr_val g377 e362 s345 (by decide) rfl
  have e405 : n67 = G376 142 this 10 := gr_val g377 e363 s338 (by decide) rfl
  have e406 : (Ad E 0) = G376 159 n139 1 := gr_val g377 e364 s346 (by decide) rfl
  have e407 : n139 = G376 142 this 11 := gr_val g377 e365 s338 (by decide) rfl
  have e408 : n217 = G376 142 this 12 := gr_val g377 e366 s338 (by decide) rfl
  have e409 : n256 = G376 142 this 13 := gr_val g377 h371 s338 (by decide) rfl
  have g410 : Gr [93, 94, 95, 96, 97, 98, 99, 105, 106, 107, 108, 109, 110, 111, 112, 113, 114, 115, 116, 117, 118, 129, 130, 131, 132, 134, 143, 144, 145, 146, 148, 153, 154, 155, 156, 157, 158, 159] [(142, 4), (142, 5), (142, 6), (142, 7), (142, 8), (142, 9), (142, 10), (142, 11), (142, 12), (142, 13), (142, 14), (142, 15), (142, 16), (142, 17), (142, 18), (143, 0), (143, 1), (143, 3), (143, 4), (143, 5), (143, 6), (143, 7), (143, 8), (143, 9), (143, 10), (143, 11), (143, 12), (143, 13), (143, 14), (143, 17), (143, 18), (143, 19), (144, 1), (144, 2), (144, 3), (144, 4), (144, 5), (144, 6), (144, 7), (144, 8), (144, 9), (144, 10), (144, 11), (144, 12), (144, 13), (144, 14), (144, 15), (144, 16), (144, 17), (145, 1), (145, 2), (145, 3), (145, 12), (145, 15), (145, 16), (146, 5), (146, 6), (146, 7), (146, 8), (146, 9), (146, 10), (146, 11), (146, 13), (146, 14), (146, 15), (146, 16), (148, 1), (148, 3), (148, 4), (148, 5), (153, 0), (153, 1)] S G S375 G376 := gr_call g373 g377 rfl rfl
  have u411 : UqL [159, 158, 129, 157, 156, 155, 154, 130] S375 := uq_gr u368 g377 rfl
  have u412 : No [128, 131, 132, 136, 138] S375 := no_gr (no_sub u370 rfl) g377 rfl
  have u413 : EmL E [159, 158, 157, 156, 155, 154] S375 G376 := em_gr u372 g377 rfl
  refine r_ex hX hP 1 (pc' := 121) (st' := [(2, n374), (2, n374), (2, this)]) (lo' := [(0, (2, this))]) rfl ?_
  refine r_callIN gd hX hP rfl cn_X11_57 n374n (d' := 3) (mc' := 3) (ms' := 27) (as' := []) (st := [(2, n374), (2, this)]) (by first | decide | omega) (by first | decide | omega) (by first | decide | omega) rfl rfl (Nat.le_of_ble_eq_true rfl) (c_X4_init E S375 G376 n374  n374l) ?_
  rintro _ S414 G415 ⟨g416, rfl, hf417⟩
  have s418 : S414 this = 142 := gr_lab g416 s379 (by decide)
  have s419 : S414 n5 = 129 := gr_lab g416 s380 (by decide)
  have s420 : S414 ach19 = 130 := gr_lab g416 s381 (by decide)
  have s421 : S414 if57 = 154 := gr_lab g416 s382 (by decide)
  have s422 : S414 tf59 = 155 := gr_lab g416 s383 (by decide)
  have s423 : S414 ef61 = 156 := gr_lab g416 s384 (by decide)
  have s424 : S414 pf63 = 157 := gr_lab g416 s385 (by decide)
  have s425 : S414 n67 = 158 := gr_lab g416 s386 (by decide)
  have s426 : S414 n139 = 159 := gr_lab g416 s387 (by decide)
  have s427 : S414 n217 = 94 := gr_lab g416 s388 (by decide)
  have s428 : S414 n256 = 134 := gr_lab g416 s389 (by decide)
  have s429 : S414 n374 = 148 := gr_lab g416 n374l (by decide)
  have e430 : 1 = G415 142 this 4 := gr_val g416 e390 s379 (by decide) rfl
  have e431 : ach19 = G415 129 n5 9 := gr_val g416 e391 s380 (by decide) rfl
  have e432 : 40000 = G415 129 n5 0 := gr_val g416 e392 s380 (by decide) rfl
  have e433 : 0 = G415 130 ach19 0 := gr_val g416 e393 s381 (by decide) rfl
  have e434 : n5 = G415 142 this 17 := gr_val g416 e394 s379 (by decide) rfl
  have e435 : ach19 = G415 142 this 5 := gr_val g416 e395 s379 (by decide) rfl
  have e436 : if57 = G415 129 n5 10 := gr_val g416 e396 s380 (by decide) rfl
  have e437 : if57 = G415 142 this 6 := gr_val g416 e397 s379 (by decide) rfl
  have e438 : tf59 = G415 129 n5 11 := gr_val g416 e398 s380 (by decide) rfl
  have e439 : tf59 = G415 142 this 7 := gr_val g416 e399 s379 (by decide) rfl
  have e440 : ef61 = G415 129 n5 12 := gr_val g416 e400 s380 (by decide) rfl
  have e441 : ef61 = G415 142 this 8 := gr_val g416 e401 s379 (by decide) rfl
  have e442 : pf63 = G415 129 n5 13 := gr_val g416 e402 s380 (by decide) rfl
  have e443 : pf63 = G415 142 this 9 := gr_val g416 e403 s379 (by decide) rfl
  have e444 : (Ad E 0) = G415 158 n67 1 := gr_val g416 e404 s386 (by decide) rfl
  have e445 : n67 = G415 142 this 10 := gr_val g416 e405 s379 (by decide) rfl
  have e446 : (Ad E 0) = G415 159 n139 1 := gr_val g416 e406 s387 (by decide) rfl
  have e447 : n139 = G415 142 this 11 := gr_val g416 e407 s379 (by decide) rfl
  have e448 : n217 = G415 142 this 12 := gr_val g416 e408 s379 (by decide) rfl
  have e449 : n256 = G415 142 this 13 := gr_val g416 e409 s379 (by decide) rfl
  have g450 : Gr [93, 94, 95, 96, 97, 98, 99, 105, 106, 107, 108, 109, 110, 111, 112, 113, 114, 115, 116, 117, 118, 129, 130, 131, 132, 134, 143, 144, 145, 146, 148, 153, 154, 155, 156, 157, 158, 159] [(142, 4), (142, 5), (142, 6), (142, 7), (142, 8), (142, 9), (142, 10), (142, 11), (142, 12), (142, 13), (142, 14), (142, 15), (142, 16), (142, 17), (142, 18), (143, 0), (143, 1), (143, 3), (143, 4), (143, 5), (143, 6), (143, 7), (143, 8), (143, 9), (143, 10), (143, 11), (143, 12), (143, 13), (143, 14), (143, 17), (143, 18), (143, 19), (144, 1), (144, 2), (144, 3), (144, 4), (144, 5), (144, 6), (144, 7), (144, 8), (144, 9), (144, 10), (144, 11), (144, 12), (144, 13), (144, 14), (144, 15), (144, 16), (144, 17), (145, 1), (145, 2), (145, 3), (145, 12), (145, 15), (145, 16), (146, 5), (146, 6), (146, 7), (146, 8), (146, 9), (146, 10), (146, 11), (146, 13), (146, 14), (146, 15), (146, 16), (148, 1), (148, 3), (148, 4), (148, 5), (153, 0), (153, 1)] S G S414 G415 := gr_call g410 g416 rfl rfl
  have u451 : UqL [159, 158, 129, 157, 156, 155, 154, 130] S414 := uq_gr u411 g416 rfl
  have u452 : No [128, 131, 132, 136, 138] S414 := no_gr (no_sub u412 rfl) g416 rfl
  have u453 : EmL E [159, 158, 157, 156, 155, 154] S414 G415 := em_gr u413 g416 rfl
  refine r_finA hX (L := 148) (ci := 5) (fs := fs_148) rfl s429 (by decide) (fun hr454 => ?_)
  refine r_relabF hX (L := 148) (L' := 134) (ci := 5) (fs := fs_148) (fs' := fs_134) rfl rfl rfl (by decide) (by decide) nf_148 (by decide) s429 hf417 (fun S457 G458 r456 => ?_)
  have s460 : S457 this = 142 := r456.lab s429 s418 (by decide)
  have s461 : S457 n5 = 129 := r456.lab s429 s419 (by decide)
  have s462 : S457 ach19 = 130 := r456.lab s429 s420 (by decide)
  have s463 : S457 if57 = 154 := r456.lab s429 s421 (by decide)
  have s464 : S457 tf59 = 155 := r456.lab s429 s422 (by decide)
  have s465 : S457 ef61 = 156 := r456.lab s429 s423 (by decide)
  have s466 : S457 pf63 = 157 := r456.lab s429 s424 (by decide)
  have s467 : S457 n67 = 158 := r456.lab s429 s425 (by decide)
  have s468 : S457 n139 = 159 := r456.lab s429 s426 (by decide)
  have s469 : S457 n217 = 94 := r456.lab s429 s427 (by decide)
  have s470 : S457 n256 = 134 := r456.lab s429 s428 (by decide)
  have e471 : 1 = G458 142 this 4 := rs_val r456 s429 e430 s418 (by decide)
  have e472 : ach19 = G458 129 n5 9 := rs_val r456 s429 e431 s419 (by decide)
  have e473 : 40000 = G458 129 n5 0 := rs_val r456 s429 e432 s419 (by decide)
  have e474 : 0 = G458 130 ach19 0 := rs_val r456 s429 e433 s420 (by decide)
  have e475 : n5 = G458 142 this 17 := rs_val r456 s429 e434 s418 (by decide)
  have e476 : ach19 = G458 142 this 5 := rs_val r456 s429 e435 s418 (by decide)
  have e477 : if57 = G458 129 n5 10 := rs_val r456 s429 e436 s419 (by decide)
  have e478 : if57 = G458 142 this 6 := rs_val r456 s429 e437 s418 (by decide)
  have e479 : tf59 = G458 129 n5 11 := rs_val r456 s429 e438 s419 (by decide)
  have e480 : tf59 = G458 142 this 7 := rs_val r456 s429 e439 s418 (by decide)
  have e481 : ef61 = G458 129 n5 12 := rs_val r456 s429 e440 s419 (by decide)
  have e482 : ef61 = G458 142 this 8 := rs_val r456 s429 e441 s418 (by decide)
  have e483 : pf63 = G458 129 n5 13 := rs_val r456 s429 e442 s419 (by decide)
  have e484 : pf63 = G458 142 this 9 := rs_val r456 s429 e443 s418 (by decide)
  have e485 : (Ad E 0) = G458 158 n67 1 := rs_val r456 s429 e444 s425 (by decide)
  have e486 : n67 = G458 142 this 10 := rs_val r456 s429 e445 s418 (by decide)
  have e487 : (Ad E 0) = G458 159 n139 1 := rs_val r456 s429 e446 s426 (by decide)
  have e488 : n139 = G458 142 this 11 := rs_val r456 s429 e447 s418 (by decide)
  have e489 : n217 = G458 142 this 12 := rs_val r456 s429 e448 s418 (by decide)
  have e490 : n256 = G458 142 this 13 := rs_val r456 s429 e449 s418 (by decide)
  have g491 : Gr [93, 94, 95, 96, 97, 98, 99, 105, 106, 107, 108, 109, 110, 111, 112, 113, 114, 115, 116, 117, 118, 129, 130, 131, 132, 134, 143, 144, 145, 146, 148, 153, 154, 155, 156, 157, 158, 159] [(142, 4), (142, 5), (142, 6), (142, 7), (142, 8), (142, 9), (142, 10), (142, 11), (142, 12), (142, 13), (142, 14), (142, 15), (142, 16), (142, 17), (142, 18), (143, 0), (143, 1), (143, 3), (143, 4), (143, 5), (143, 6), (143, 7), (143, 8), (143, 9), (143, 10), (143, 11), (143, 12), (143, 13), (143, 14), (143, 17), (143, 18), (143, 19), (144, 1), (144, 2), (144, 3), (144, 4), (144, 5), (144, 6), (144, 7), (144, 8), (144, 9), (144, 10), (144, 11), (144, 12), (144, 13), (144, 14), (144, 15), (144, 16), (144, 17), (145, 1), (145, 2), (145, 3), (145, 12), (145, 15), (145, 16), (146, 5), (146, 6), (146, 7), (146, 8), (146, 9), (146, 10), (146, 11), (146, 13), (146, 14), (146, 15), (146, 16), (148, 1), (148, 3), (148, 4), (148, 5), (153, 0), (153, 1)] S G S457 G458 := gr_rs g450 r456 z378 rfl
  have u492 : UqL [159, 158, 129, 157, 156, 155, 154, 130] S457 := uq_rsN u451 r456 rfl
  have u493 : EmL E [159, 158, 157, 156, 155, 154] S457 G458 := em_rsN u453 r456 rfl
  have u494 : No [128, 131, 132, 136, 138] S457 := no_rs u452 r456 rfl
  refine r_putFN hX hP rfl rfl fq_X11_62_142 s460 (by decide) (Or.inr r456.1) (fun h495 => ?_)
  refine r_ex hX hP 1 (pc' := 128) (st' := [(2, this)]) (lo' := [(0, (2, this))]) rfl ?_
  have u496 : EmL E [159, 158, 157, 156, 155, 154] S457 (up G458 142 this 14 n374) := (em_up u493 rfl)
  have g497 : Gr [93, 94, 95, 96, 97, 98, 99, 105, 106, 107, 108, 109, 110, 111, 112, 113, 114, 115, 116, 117, 118, 129, 130, 131, 132, 134, 143, 144, 145, 146, 148, 153, 154, 155, 156, 157, 158, 159] [(142, 4), (142, 5), (142, 6), (142, 7), (142, 8), (142, 9), (142, 10), (142, 11), (142, 12), (142, 13), (142, 14), (142, 15), (142, 16), (142, 17), (142, 18), (143, 0), (143, 1), (143, 3), (143, 4), (143, 5), (143, 6), (143, 7), (143, 8), (143, 9), (143, 10), (143, 11), (143, 12), (143, 13), (143, 14), (143, 17), (143, 18), (143, 19), (144, 1), (144, 2), (144, 3), (144, 4), (144, 5), (144, 6), (144, 7), (144, 8), (144, 9), (144, 10), (144, 11), (144, 12), (144, 13), (144, 14), (144, 15), (144, 16), (144, 17), (145, 1), (145, 2), (145, 3), (145, 12), (145, 15), (145, 16), (146, 5), (146, 6), (146, 7), (146, 8), (146, 9), (146, 10), (146, 11), (146, 13), (146, 14), (146, 15), (146, 16), (148, 1), (148, 3), (148, 4), (148, 5), (153, 0), (153, 1)] S G S457 (up G458 142 this 14 n374) := (gr_up g491 rfl)
  refine r_newA hX hP rfl (L := 148) (N := 6) nw_X11_55_148 (by first | decide | omega) (by first | decide | omega) (fun n498 S499 G500 n498z n498n n498l g501 n498v => ?_)
  have z502 : S n498 = 0 := gr_zero g497 n498z
  have s503 : S499 this = 142 := gr_lab g501 s460 (by decide)
  have s504 : S499 n5 = 129 := gr_lab g501 s461 (by decide)
  have s505 : S499 ach19 = 130 := gr_lab g501 s462 (by decide)
  have s506 : S499 if57 = 154 := gr_lab g501 s463 (by decide)
  have s507 : S499 tf59 = 155 := gr_lab g501 s464 (by decide)
  have s508 : S499 ef61 = 156 := gr_lab g501 s465 (by decide)
  have s509 : S499 pf63 = 157 := gr_lab g501 s466 (by decide)
  have s510 : S499 n67 = 158 := gr_lab g501 s467 (by decide)
  have s511 : S499 n139 = 159 := gr_lab g501 s468 (by decide)
  have s512 : S499 n217 = 94 := gr_lab g501 s469 (by decide)
  have s513 : S499 n256 = 134 := gr_lab g501 s470 (by decide)
  have s514 : S499 n374 = 134 := gr_lab g501 r456.1 (by decide)
  have e515 : 1 = G500 142 this 4 := gr_val g501 e471 s460 (by decide) rfl
  have e516 : ach19 = G500 129 n5 9 := gr_val g501 e472 s461 (by decide) rfl
  have e517 : 40000 = G500 129 n5 0 := gr_val g501 e473 s461 (by decide) rfl
  have e518 : 0 = G500 130 ach19 0 := gr_val g501 e474 s462 (by decide) rfl
  have e519 : n5 = G500 142 this 17 := gr_val g501 e475 s460 (by decide) rfl
  have e520 : ach19 = G500 142 this 5 := gr_val g501 e476 s460 (by decide) rfl
  have e521 : if57 = G500 129 n5 10 := gr_val g501 e477 s461 (by decide) rfl
  have e522 : if57 = G500 142 this 6 := gr_val g501 e478 s460 (by decide) rfl
  have e523 : tf59 = G500 129 n5 11 := gr_val g501 e479 s461 (by decide) rfl
  have e524 : tf59 = G500 142 this 7 := gr_val g501 e480 s460 (by decide) rfl
  have e525 : ef61 = G500 129 n5 12 := gr_val g501 e481 s461 (by decide) rfl
  have e526 : ef61 = G500 142 this 8 := gr_val g501 e482 s460 (by decide) rfl
  have e527 : pf63 = G500 129 n5 13 := gr_val g501 e483 s461 (by decide) rfl
  have e528 : pf63 = G500 142 this 9 := gr_val g501 e484 s460 (by decide) rfl
  have e529 : (Ad E 0) = G500 158 n67 1 := gr_val g501 e485 s467 (by decide) rfl
  have e530 : n67 = G500 142 this 10 := gr_val g501 e486 s460 (by decide) rfl
  have e531 : (Ad E 0) = G500 159 n139 1 := gr_val g501 e487 s468 (by decide) rfl
  have e532 : n139 = G500 142 this 11 := gr_val g501 e488 s460 (by decide) rfl
  have e533 : n217 = G500 142 this 12 := gr_val g501 e489 s460 (by decide) rfl
  have e534 : n256 = G500 142 this 13 := gr_val g501 e490 s460 (by decide) rfl
  have e535 : n374 = G500 142 this 14 := gr_val g501 h495 s460 (by decide) rfl
  have g536 : Gr [93, 94, 95, 96, 97, 98, 99, 105, 106, 107, 108, 109, 110, 111, 112, 113, 114, 115, 116, 117, 118, 129, 130, 131, 132, 134, 143, 144, 145, 146, 148, 153, 154, 155, 156, 157, 158, 159] [(142, 4), (142, 5), (142, 6), (142, 7), (142, 8), (142, 9), (142, 10), (142, 11), (142, 12), (142, 13), (142, 14), (142, 15), (142, 16), (142, 17), (142, 18), (143, 0), (143, 1), (143, 3), (143, 4), (143, 5), (143, 6), (143, 7), (143, 8), (143, 9), (143, 10), (143, 11), (143, 12), (143, 13), (143, 14), (143, 17), (143, 18), (143, 19), (144, 1), (144, 2), (144, 3), (144, 4), (144, 5), (144, 6), (144, 7), (144, 8), (144, 9), (144, 10), (144, 11), (144, 12), (144, 13), (144, 14), (144, 15), (144, 16), (144, 17), (145, 1), (145, 2), (145, 3), (145, 12), (145, 15), (145, 16), (146, 5), (146, 6), (146, 7), (146, 8), (146, 9), (146, 10), (146, 11), (146, 13), (146, 14), (146, 15), (146, 16), (148, 1), (148, 3), (148, 4), (148, 5), (153, 0), (153, 1)] S G S499 G500 := gr_call g497 g501 rfl rfl
  have u537 : UqL [159, 158, 129, 157, 156, 155, 154, 130] S499 := uq_gr u492 g501 rfl
  have u538 : No [128, 131, 132, 136, 138] S499 := no_gr (no_sub u494 rfl) g501 rfl
  have u539 : EmL E [159, 158, 157, 156, 155, 154] S499 G500 := em_gr u496 g501 rfl
  refine r_ex hX hP 1 (pc' := 132) (st' := [(2, n498), (2, n498), (2, this)]) (lo' := [(0, (2, this))]) rfl ?_
  refine r_callIN gd hX hP rfl cn_X11_57 n498n (d' := 3) (mc' := 3) (ms' := 27) (as' := []) (st := [(2, n498), (2, this)]) (by first | decide | omega) (by first | decide | omega) (by first | decide | omega) rfl rfl (Nat.le_of_ble_eq_true rfl) (c_X4_init E S499 G500 n498  n498l) ?_
  rintro _ S540 G541 ⟨g542, rfl, hf543⟩
  have s544 : S540 this = 142 := gr_lab g542 s503 (by decide)
  have s545 : S540 n5 = 129 := gr_lab g542 s504 (by decide)
  have s546 : S540 ach19 = 130 := gr_lab g542 s505 (by decide)
  have s547 : S540 if57 = 154 := gr_lab g542 s506 (by decide)
  have s548 : S540 tf59 = 155 := gr_lab g542 s507 (by decide)
  have s549 : S540 ef61 = 156 := gr_lab g542 s508 (by decide)
  have s550 : S540 pf63 = 157 := gr_lab g542 s509 (by decide)
  have s551 : S540 n67 = 158 := gr_lab g542 s510 (by decide)
  have s552 : S540 n139 = 159 := gr_lab g542 s511 (by decide)
  have s553 : S540 n217 = 94 := gr_lab g542 s512 (by decide)
  have s554 : S540 n256 = 134 := gr_lab g542 s513 (by decide)
  have s555 : S540 n374 = 134 := gr_lab g542 s514 (by decide)
  have s556 : S540 n498 = 148 := gr_lab g542 n498l (by decide)
  have e557 : 1 = G541 142 this 4 := gr_val g542 e515 s503 (by decide) rfl
  have e558 : ach19 = G541 129 n5 9 := gr_val g542 e516 s504 (by decide) rfl
  have e559 : 40000 = G541 129 n5 0 := gr_val g542 e517 s504 (by decide) rfl
  have e560 : 0 = G541 130 ach19 0 := gr_val g542 e518 s505 (by decide) rfl
  have e561 : n5 = G541 142 this 17 := gr_val g542 e519 s503 (by decide) rfl
  have e562 : ach19 = G541 142 this 5 := gr_val g542 e520 s503 (by decide) rfl
  have e563 : if57 = G541 129 n5 10 := gr_val g542 e521 s504 (by decide) rfl
  have e564 : if57 = G541 142 this 6 := gr_val g542 e522 s503 (by decide) rfl
  have e565 : tf59 = G541 129 n5 11 := gr_val g542 e523 s504 (by decide) rfl
  have e566 : tf59 = G541 142 this 7 := gr_val g542 e524 s503 (by decide) rfl
  have e567 : ef61 = G541 129 n5 12 := gr_val g542 e525 s504 (by decide) rfl
  have e568 : ef61 = G541 142 this 8 := gr_val g542 e526 s503 (by decide) rfl
  have e569 : pf63 = G541 129 n5 13 := gr_val g542 e527 s504 (by decide) rfl
  have e570 : pf63 = G541 142 this 9 := gr_val g542 e528 s503 (by decide) rfl
  have e571 : (Ad E 0) = G541 158 n67 1 := gr_val g542 e529 s510 (by decide) rfl
  have e572 : n67 = G541 142 this 10 := gr_val g542 e530 s503 (by decide) rfl
  have e573 : (Ad E 0) = G541 159 n139 1 := gr_val g542 e531 s511 (by decide) rfl
  have e574 : n139 = G541 142 this 11 := gr_val g542 e532 s503 (by decide) rfl
  have e575 : n217 = G541 142 this 12 := gr_val g542 e533 s503 (by decide) rfl
  have e576 : n256 = G541 142 this 13 := gr_val g542 e534 s503 (by decide) rfl
  have e577 : n374 = G541 142 this 14 := gr_val g542 e535 s503 (by decide) rfl
  have g578 : Gr [93, 94, 95, 96, 97, 98, 99, 105, 106, 107, 108, 109, 110, 111, 112, 113, 114, 115, 116, 117, 118, 129, 130, 131, 132, 134, 143, 144, 145, 146, 148, 153, 154, 155, 156, 157, 158, 159] [(142, 4), (142, 5), (142, 6), (142, 7), (142, 8), (142, 9), (142, 10), (142, 11), (142, 12), (142, 13), (142, 14), (142, 15), (142, 16), (142, 17), (142, 18), (143, 0), (143, 1), (143, 3), (143, 4), (143, 5), (143, 6), (143, 7), (143, 8), (143, 9), (143, 10), (143, 11), (143, 12), (143, 13), (143, 14), (143, 17), (143, 18), (143, 19), (144, 1), (144, 2), (144, 3), (144, 4), (144, 5), (144, 6), (144, 7), (144, 8), (144, 9), (144, 10), (144, 11), (144, 12), (144, 13), (144, 14), (144, 15), (144, 16), (144, 17), (145, 1), (145, 2), (145, 3), (145, 12), (145, 15), (145, 16), (146, 5), (146, 6), (146, 7), (146, 8), (146, 9), (146, 10), (146, 11), (146, 13), (146, 14), (146, 15), (146, 16), (148, 1), (148, 3), (148, 4), (148, 5), (153, 0), (153, 1)] S G S540 G541 := gr_call g536 g542 rfl rfl
  have u579 : UqL [159, 158, 129, 157, 156, 155, 154, 130] S540 := uq_gr u537 g542 rfl
  have u580 : No [128, 131, 132, 136, 138] S540 := no_gr (no_sub u538 rfl) g542 rfl
  have u581 : EmL E [159, 158, 157, 156, 155, 154] S540 G541 := em_gr u539 g542 rfl
  refine r_finA hX (L := 148) (ci := 5) (fs := fs_148) rfl s556 (by decide) (fun hr582 => ?_)
  refine r_relabF hX (L := 148) (L' := 134) (ci := 5) (fs := fs_148) (fs' := fs_134) rfl rfl rfl (by decide) (by decide) nf_148 (by decide) s556 hf543 (fun S585 G586 r584 => ?_)
  have s588 : S585 this = 142 := r584.lab s556 s544 (by decide)
  have s589 : S585 n5 = 129 := r584.lab s556 s545 (by decide)
  have s590 : S585 ach19 = 130 := r584.lab s556 s546 (by decide)
  have s591 : S585 if57 = 154 := r584.lab s556 s547 (by decide)
  have s592 : S585 tf59 = 155 := r584.lab s556 s548 (by decide)
  have s593 : S585 ef61 = 156 := r584.lab s556 s549 (by decide)
  have s594 : S585 pf63 = 157 := r584.lab s556 s550 (by decide)
  have s595 : S585 n67 = 158 := r584.lab s556 s551 (by decide)
  have s596 : S585 n139 = 159 := r584.lab s556 s552 (by decide)
  have s597 : S585 n217 = 94 := r584.lab s556 s553 (by decide)
  have s598 : S585 n256 = 134 := r584.lab s556 s554 (by decide)
  have s599 : S585 n374 = 134 := r584.lab s556 s555 (by decide)
  have e600 : 1 = G586 142 this 4 := rs_val r584 s556 e557 s544 (by decide)
  have e601 : ach19 = G586 129 n5 9 := rs_val r584 s556 e558 s545 (by decide)
  have e602 : 40000 = G586 129 n5 0 := rs_val r584 s556 e559 s545 (by decide)
  have e603 : 0 = G586 130 ach19 0 := rs_val r584 s556 e560 s546 (by decide)
  have e604 : n5 = G586 142 this 17 := rs_val r584 s556 e561 s544 (by decide)
  have e605 : ach19 = G586 142 this 5 := rs_val r584 s556 e562 s544 (by decide)
  have e606 : if57 = G586 129 n5 10 := rs_val r584 s556 e563 s545 (by decide)
  have e607 : if57 = G586 142 this 6 := rs_val r584 s556 e564 s544 (by decide)
  have e608 : tf59 = G586 129 n5 11 := rs_val r584 s556 e565 s545 (by decide)
  have e609 : tf59 = G586 142 this 7 := rs_val r584 s556 e566 s544 (by decide)
  have e610 : ef61 = G586 129 n5 12 := rs_val r584 s556 e567 s545 (by decide)
  have e611 : ef61 = G586 142 this 8 := rs_val r584 s556 e568 s544 (by decide)
  have e612 : pf63 = G586 129 n5 13 := rs_val r584 s556 e569 s545 (by decide)
  have e613 : pf63 = G586 142 this 9 := rs_val r584 s556 e570 s544 (by decide)
  have e614 : (Ad E 0) = G586 158 n67 1 := rs_val r584 s556 e571 s551 (by decide)
  have e615 : n67 = G586 142 this 10 := rs_val r584 s556 e572 s544 (by decide)
  have e616 : (Ad E 0) = G586 159 n139 1 := rs_val r584 s556 e573 s552 (by decide)
  have e617 : n139 = G586 142 this 11 := rs_val r584 s556 e574 s544 (by decide)
  have e618 : n217 = G586 142 this 12 := rs_val r584 s556 e575 s544 (by decide)
  have e619 : n256 = G586 142 this 13 := rs_val r584 s556 e576 s544 (by decide)
  have e620 : n374 = G586 142 this 14 := rs_val r584 s556 e577 s544 (by decide)
  have g621 : Gr [93, 94, 95, 96, 97, 98, 99, 105, 106, 107, 108, 109, 110, 111, 112, 113, 114, 115, 116, 117, 118, 129, 130, 131, 132, 134, 143, 144, 145, 146, 148, 153, 154, 155, 156, 157, 158, 159] [(142, 4), (142, 5), (142, 6), (142, 7), (142, 8), (142, 9), (142, 10), (142, 11), (142, 12), (142, 13), (142, 14), (142, 15), (142, 16), (142, 17), (142, 18), (143, 0), (143, 1), (143, 3), (143, 4), (143, 5), (143, 6), (143, 7), (143, 8), (143, 9), (143, 10), (143, 11), (143, 12), (143, 13), (143, 14), (143, 17), (143, 18), (143, 19), (144, 1), (144, 2), (144, 3), (144, 4), (144, 5), (144, 6), (144, 7), (144, 8), (144, 9), (144, 10), (144, 11), (144, 12), (144, 13), (144, 14), (144, 15), (144, 16), (144, 17), (145, 1), (145, 2), (145, 3), (145, 12), (145, 15), (145, 16), (146, 5), (146, 6), (146, 7), (146, 8), (146, 9), (146, 10), (146, 11), (146, 13), (146, 14), (146, 15), (146, 16), (148, 1), (148, 3), (148, 4), (148, 5), (153, 0), (153, 1)] S G S585 G586 := gr_rs g578 r584 z502 rfl
  have u622 : UqL [159, 158, 129, 157, 156, 155, 154, 130] S585 := uq_rsN u579 r584 rfl
  have u623 : EmL E [159, 158, 157, 156, 155, 154] S585 G586 := em_rsN u581 r584 rfl
  have u624 : No [128, 131, 132, 136, 138] S585 := no_rs u580 r584 rfl
  refine r_putFN hX hP rfl rfl fq_X11_65_142 s588 (by decide) (Or.inr r584.1) (fun h625 => ?_)
  refine r_ex hX hP 1 (pc' := 139) (st' := [(2, this)]) (lo' := [(0, (2, this))]) rfl ?_
  have u626 : EmL E [159, 158, 157, 156, 155, 154] S585 (up G586 142 this 15 n498) := (em_up u623 rfl)
  have g627 : Gr [93, 94, 95, 96, 97, 98, 99, 105, 106, 107, 108, 109, 110, 111, 112, 113, 114, 115, 116, 117, 118, 129, 130, 131, 132, 134, 143, 144, 145, 146, 148, 153, 154, 155, 156, 157, 158, 159] [(142, 4), (142, 5), (142, 6), (142, 7), (142, 8), (142, 9), (142, 10), (142, 11), (142, 12), (142, 13), (142, 14), (142, 15), (142, 16), (142, 17), (142, 18), (143, 0), (143, 1), (143, 3), (143, 4), (143, 5), (143, 6), (143, 7), (143, 8), (143, 9), (143, 10), (143, 11), (143, 12), (143, 13), (143, 14), (143, 17), (143, 18), (143, 19), (144, 1), (144, 2), (144, 3), (144, 4), (144, 5), (144, 6), (144, 7), (144, 8), (144, 9), (144, 10), (144, 11), (144, 12), (144, 13), (144, 14), (144, 15), (144, 16), (144, 17), (145, 1), (145, 2), (145, 3), (145, 12), (145, 15), (145, 16), (146, 5), (146, 6), (146, 7), (146, 8), (146, 9), (146, 10), (146, 11), (146, 13), (146, 14), (146, 15), (146, 16), (148, 1), (148, 3), (148, 4), (148, 5), (153, 0), (153, 1)] S G S585 (up G586 142 this 15 n498) := (gr_up g621 rfl)
  refine r_newA hX hP rfl (L := 145) (N := 17) nw_X11_68_145 (by first | decide | omega) (by first | decide | omega) (fun n628 S629 G630 n628z n628n n628l g631 n628v => ?_)
  have z632 : S n628 = 0 := gr_zero g627 n628z
  have s633 : S629 this = 142 := gr_lab g631 s588 (by decide)
  have s634 : S629 n5 = 129 := gr_lab g631 s589 (by decide)
  have s635 : S629 ach19 = 130 := gr_lab g631 s590 (by decide)
  have s636 : S629 if57 = 154 := gr_lab g631 s591 (by decide)
  have s637 : S629 tf59 = 155 := gr_lab g631 s592 (by decide)
  have s638 : S629 ef61 = 156 := gr_lab g631 s593 (by decide)
  have s639 : S629 pf63 = 157 := gr_lab g631 s594 (by decide)
  have s640 : S629 n67 = 158 := gr_lab g631 s595 (by decide)
  have s641 : S629 n139 = 159 := gr_lab g631 s596 (by decide)
  have s642 : S629 n217 = 94 := gr_lab g631 s597 (by decide)
  have s643 : S629 n256 = 134 := gr_lab g631 s598 (by decide)
  have s644 : S629 n374 = 134 := gr_lab g631 s599 (by decide)
  have s645 : S629 n498 = 134 := gr_lab g631 r584.1 (by decide)
  have e646 : 1 = G630 142 this 4 := gr_val g631 e600 s588 (by decide) rfl
  have e647 : ach19 = G630 129 n5 9 := gr_val g631 e601 s589 (by decide) rfl
  have e648 : 40000 = G630 129 n5 0 := gr_val g631 e602 s589 (by decide) rfl
  have e649 : 0 = G630 130 ach19 0 := gr_val g631 e603 s590 (by decide) rfl
  have e650 : n5 = G630 142 this 17 := gr_val g631 e604 s588 (by decide) rfl
  have e651 : ach19 = G630 142 this 5 := gr_val g631 e605 s588 (by decide) rfl
  have e652 : if57 = G630 129 n5 10 := gr_val g631 e606 s589 (by decide) rfl
  have e653 : if57 = G630 142 this 6 := gr_val g631 e607 s588 (by decide) rfl
  have e654 : tf59 = G630 129 n5 11 := gr_val g631 e608 s589 (by decide) rfl
  have e655 : tf59 = G630 142 this 7 := gr_val g631 e609 s588 (by decide) rfl
  have e656 : ef61 = G630 129 n5 12 := gr_val g631 e610 s589 (by decide) rfl
  have e657 : ef61 = G630 142 this 8 := gr_val g631 e611 s588 (by decide) rfl
  have e658 : pf63 = G630 129 n5 13 := gr_val g631 e612 s589 (by decide) rfl
  have e659 : pf63 = G630 142 this 9 := gr_val g631 e613 s588 (by decide) rfl
  have e660 : (Ad E 0) = G630 158 n67 1 := gr_val g631 e614 s595 (by decide) rfl
  have e661 : n67 = G630 142 this 10 := gr_val g631 e615 s588 (by decide) rfl
  have e662 : (Ad E 0) = G630 159 n139 1 := gr_val g631 e616 s596 (by decide) rfl
  have e663 : n139 = G630 142 this 11 := gr_val g631 e617 s588 (by decide) rfl
  have e664 : n217 = G630 142 this 12 := gr_val g631 e618 s588 (by decide) rfl
  have e665 : n256 = G630 142 this 13 := gr_val g631 e619 s588 (by decide) rfl
  have e666 : n374 = G630 142 this 14 := gr_val g631 e620 s588 (by decide) rfl
  have e667 : n498 = G630 142 this 15 := gr_val g631 h625 s588 (by decide) rfl
  have g668 : Gr [93, 94, 95, 96, 97, 98, 99, 105, 106, 107, 108, 109, 110, 111, 112, 113, 114, 115, 116, 117, 118, 129, 130, 131, 132, 134, 143, 144, 145, 146, 148, 153, 154, 155, 156, 157, 158, 159] [(142, 4), (142, 5), (142, 6), (142, 7), (142, 8), (142, 9), (142, 10), (142, 11), (142, 12), (142, 13), (142, 14), (142, 15), (142, 16), (142, 17), (142, 18), (143, 0), (143, 1), (143, 3), (143, 4), (143, 5), (143, 6), (143, 7), (143, 8), (143, 9), (143, 10), (143, 11), (143, 12), (143, 13), (143, 14), (143, 17), (143, 18), (143, 19), (144, 1), (144, 2), (144, 3), (144, 4), (144, 5), (144, 6), (144, 7), (144, 8), (144, 9), (144, 10), (144, 11), (144, 12), (144, 13), (144, 14), (144, 15), (144, 16), (144, 17), (145, 1), (145, 2), (145, 3), (145, 12), (145, 15), (145, 16), (146, 5), (146, 6), (146, 7), (146, 8), (146, 9), (146, 10), (146, 11), (146, 13), (146, 14), (146, 15), (146, 16), (148, 1), (148, 3), (148, 4), (148, 5), (153, 0), (153, 1)] S G S629 G630 := gr_call g627 g631 rfl rfl
  have u669 : UqL [159, 158, 129, 157, 156, 155, 154, 130] S629 := uq_gr u622 g631 rfl
  have u670 : No [128, 131, 132, 136, 138] S629 := no_gr (no_sub u624 rfl) g631 rfl
  have u671 : EmL E [159, 158, 157, 156, 155, 154] S629 G630 := em_gr u626 g631 rfl
  have e672 : 0 = G630 145 n628 0 := (n628v 0).symm
  have e673 : (-1) = G630 145 n628 9 := (n628v 9).symm
  refine r_ex hX hP 1 (pc' := 143) (st' := [(2, n628), (2, n628), (2, this)]) (lo' := [(0, (2, this))]) rfl ?_
  refine r_callIN gd hX hP rfl cn_X11_70 n628n (d' := 3) (mc' := 4) (ms' := 409) (as' := []) (st := [(2, n628), (2, this)]) (by first | decide | omega) (by first | decide | omega) (by first | decide | omega) rfl rfl (Nat.le_of_ble_eq_true rfl) (c_X6_initZ E S629 G630 n628  n628l) ?_
  rintro _ S674 G675 ⟨g676, rfl, flh677, flh677e, plh678, plh678e, f679, f680, q681, hf682⟩
  have s683 : S674 this = 142 := gr_lab g676 s633 (by decide)
  have s684 : S674 n5 = 129 := gr_lab g676 s634 (by decide)
  have s685 : S674 ach19 = 130 := gr_lab g676 s635 (by decide)
  have s686 : S674 if57 = 154 := gr_lab g676 s636 (by decide)
  have s687 : S674 tf59 = 155 := gr_lab g676 s637 (by decide)
  have s688 : S674 ef61 = 156 := gr_lab g676 s638 (by decide)
  have s689 : S674 pf63 = 157 := gr_lab g676 s639 (by decide)
  have s690 : S674 n67 = 158 := gr_lab g676 s640 (by decide)
  have s691 : S674 n139 = 159 := gr_lab g676 s641 (by decide)
  have s692 : S674 n217 = 94 := gr_lab g676 s642 (by decide)
  have s693 : S674 n256 = 134 := gr_lab g676 s643 (by decide)
  have s694 : S674 n374 = 134 := gr_lab g676 s644 (by decide)
  have s695 : S674 n498 = 134 := gr_lab g676 s645 (by decide)
  have s696 : S674 n628 = 145 := gr_lab g676 n628l (by decide)
  have e697 : 1 = G675 142 this 4 := gr_val g676 e646 s633 (by decide) rfl
  have e698 : ach19 = G675 129 n5 9 := gr_val g676 e647 s634 (by decide) rfl
  have e699 : 40000 = G675 129 n5 0 := gr_val g676 e648 s634 (by decide) rfl
  have e700 : 0 = G675 130 ach19 0 := gr_val g676 e649 s635 (by decide) rfl
  have e701 : n5 = G675 142 this 17 := gr_val g676 e650 s633 (by decide) rfl
  have e702 : ach19 = G675 142 this 5 := gr_val g676 e651 s633 (by decide) rfl
  have e703 : if57 = G675 129 n5 10 := gr_val g676 e652 s634 (by decide) rfl
  have e704 : if57 = G675 142 this 6 := gr_val g676 e653 s633 (by decide) rfl
  have e705 : tf59 = G675 129 n5 11 := gr_val g676 e654 s634 (by decide) rfl
  have e706 : tf59 = G675 142 this 7 := gr_val g676 e655 s633 (by decide) rfl
  have e707 : ef61 = G675 129 n5 12 := gr_val g676 e656 s634 (by decide) rfl
  have e708 : ef61 = G675 142 this 8 := gr_val g676 e657 s633 (by decide) rfl
  have e709 : pf63 = G675 129 n5 13 := gr_val g676 e658 s634 (by decide) rfl
  have e710 : pf63 = G675 142 this 9 := gr_val g676 e659 s633 (by decide) rfl
  have e711 : (Ad E 0) = G675 158 n67 1 := gr_val g676 e660 s640 (by decide) rfl
  have e712 : n67 = G675 142 this 10 := gr_val g676 e661 s633 (by decide) rfl
  have e713 : (Ad E 0) = G675 159 n139 1 := gr_val g676 e662 s641 (by decide) rfl
  have e714 : n139 = G675 142 this 11 := gr_val g676 e663 s633 (by decide) rfl
  have e715 : n217 = G675 142 this 12 := gr_val g676 e664 s633 (by decide) rfl
  have e716 : n256 = G675 142 this 13 := gr_val g676 e665 s633 (by decide) rfl
  have e717 : n374 = G675 142 this 14 := gr_val g676 e666 s633 (by decide) rfl
  have e718 : n498 = G675 142 this 15 := gr_val g676 e667 s633 (by decide) rfl
  have e719 : 0 = G675 145 n628 0 := gr_val g676 e672 n628l (by decide) rfl
  have e720 : (-1) = G675 145 n628 9 := gr_val g676 e673 n628l (by decide) rfl
  have g721 : Gr [93, 94, 95, 96, 97, 98, 99, 105, 106, 107, 108, 109, 110, 111, 112, 113, 114, 115, 116, 117, 118, 129, 130, 131, 132, 134, 143, 144, 145, 146, 148, 153, 154, 155, 156, 157, 158, 159] [(142, 4), (142, 5), (142, 6), (142, 7), (142, 8), (142, 9), (142, 10), (142, 11), (142, 12), (142, 13), (142, 14), (142, 15), (142, 16), (142, 17), (142, 18), (143, 0), (143, 1), (143, 3), (143, 4), (143, 5), (143, 6), (143, 7), (143, 8), (143, 9), (143, 10), (143, 11), (143, 12), (143, 13), (143, 14), (143, 17), (143, 18), (143, 19), (144, 1), (144, 2), (144, 3), (144, 4), (144, 5), (144, 6), (144, 7), (144, 8), (144, 9), (144, 10), (144, 11), (144, 12), (144, 13), (144, 14), (144, 15), (144, 16), (144, 17), (145, 1), (145, 2), (145, 3), (145, 12), (145, 15), (145, 16), (146, 5), (146, 6), (146, 7), (146, 8), (146, 9), (146, 10), (146, 11), (146, 13), (146, 14), (146, 15), (146, 16), (148, 1), (148, 3), (148, 4), (148, 5), (153, 0), (153, 1)] S G S674 G675 := gr_call g668 g676 rfl rfl
  have u722 : UqL [159, 158, 129, 157, 156, 155, 154, 130] S674 := uq_gr u669 g676 rfl
  have u723 : No [128, 131, 132, 136, 138] S674 := no_gr (no_sub u670 rfl) g676 rfl
  have u724 : EmL E [159, 158, 157, 156, 155, 154] S674 G675 := em_gr u671 g676 rfl
  refine r_peekI hX (tl_145 1 rfl (by decide)) s696 (fun o725 o725e o725a o725b => ?_)
  obtain rfl : flh677 = o725 := flh677e.trans o725e.symm
  refine r_peekI hX (tl_145 2 rfl (by decide)) s696 (fun o726 o726e o726a o726b => ?_)
  obtain rfl : plh678 = o726 := plh678e.trans o726e.symm
  have e727 : ((-1) : Int) = G675 145 n628 1 := by rw [← f679]; exact flh677e
  have e728 : ((-1) : Int) = G675 145 n628 2 := by rw [← f680]; exact plh678e
  obtain ⟨za15, za15e⟩ : ∃ q : Int, q = G675 145 n628 15 := ⟨_, rfl⟩
  obtain ⟨za16, za16e⟩ : ∃ q : Int, q = G675 145 n628 16 := ⟨_, rfl⟩
  have zane : za15 ≠ za16 := fun q => q681 (za15e.symm.trans (q.trans za16e))
  refine r_finA hX (L := 145) (ci := 7) (fs := fs_145) rfl s696 (by decide) (fun hr729 => ?_)
  refine r_relabF hX (L := 145) (L' := 131) (ci := 7) (fs := fs_145) (fs' := fs_131) rfl rfl rfl (by decide) (by decide) nf_145 (by decide) s696 hf682 (fun S732 G733 r731 => ?_)
  have s735 : S732 this = 142 := r731.lab s696 s683 (by decide)
  have s736 : S732 n5 = 129 := r731.lab s696 s684 (by decide)
  have s737 : S732 ach19 = 130 := r731.lab s696 s685 (by decide)
  have s738 : S732 if57 = 154 := r731.lab s696 s686 (by decide)
  have s739 : S732 tf59 = 155 := r731.lab s696 s687 (by decide)
  have s740 : S732 ef61 = 156 := r731.lab s696 s688 (by decide)
  have s741 : S732 pf63 = 157 := r731.lab s696 s689 (by decide)
  have s742 : S732 n67 = 158 := r731.lab s696 s690 (by decide)
  have s743 : S732 n139 = 159 := r731.lab s696 s691 (by decide)
  have s744 : S732 n217 = 94 := r731.lab s696 s692 (by decide)
  have s745 : S732 n256 = 134 := r731.lab s696 s693 (by decide)
  have s746 : S732 n374 = 134 := r731.lab s696 s694 (by decide)
  have s747 : S732 n498 = 134 := r731.lab s696 s695 (by decide)
  have e748 : 1 = G733 142 this 4 := rs_val r731 s696 e697 s683 (by decide)
  have e749 : ach19 = G733 129 n5 9 := rs_val r731 s696 e698 s684 (by decide)
  have e750 : 40000 = G733 129 n5 0 := rs_val r731 s696 e699 s684 (by decide)
  have e751 : 0 = G733 130 ach19 0 := rs_val r731 s696 e700 s685 (by decide)
  have e752 : n5 = G733 142 this 17 := rs_val r731 s696 e701 s683 (by decide)
  have e753 : ach19 = G733 142 this 5 := rs_val r731 s696 e702 s683 (by decide)
  have e754 : if57 = G733 129 n5 10 := rs_val r731 s696 e703 s684 (by decide)
  have e755 : if57 = G733 142 this 6 := rs_val r731 s696 e704 s683 (by decide)
  have e756 : tf59 = G733 129 n5 11 := rs_val r731 s696 e705 s684 (by decide)
  have e757 : tf59 = G733 142 this 7 := rs_val r731 s696 e706 s683 (by decide)
  have e758 : ef61 = G733 129 n5 12 := rs_val r731 s696 e707 s684 (by decide)
  have e759 : ef61 = G733 142 this 8 := rs_val r731 s696 e708 s683 (by decide)
  have e760 : pf63 = G733 129 n5 13 := rs_val r731 s696 e709 s684 (by decide)
  have e761 : pf63 = G733 142 this 9 := rs_val r731 s696 e710 s683 (by decide)
  have e762 : (Ad E 0) = G733 158 n67 1 := rs_val r731 s696 e711 s690 (by decide)
  have e763 : n67 = G733 142 this 10 := rs_val r731 s696 e712 s683 (by decide)
  have e764 : (Ad E 0) = G733 159 n139 1 := rs_val r731 s696 e713 s691 (by decide)
  have e765 : n139 = G733 142 this 11 := rs_val r731 s696 e714 s683 (by decide)
  have e766 : n217 = G733 142 this 12 := rs_val r731 s696 e715 s683 (by decide)
  have e767 : n256 = G733 142 this 13 := rs_val r731 s696 e716 s683 (by decide)
  have e768 : n374 = G733 142 this 14 := rs_val r731 s696 e717 s683 (by decide)
  have e769 : n498 = G733 142 this 15 := rs_val r731 s696 e718 s683 (by decide)
  have e770 : 0 = G733 131 n628 0 := e719.trans (r731.2.2.1 0).symm
  have e771 : (-1) = G733 131 n628 9 := e720.trans (r731.2.2.1 9).symm
  have e772 : (-1) = G733 131 n628 1 := e727.trans (r731.2.2.1 1).symm
  have e773 : (-1) = G733 131 n628 2 := e728.trans (r731.2.2.1 2).symm
  have e774 : za15 = G733 131 n628 15 := za15e.trans (r731.2.2.1 15).symm
  have e775 : za16 = G733 131 n628 16 := za16e.trans (r731.2.2.1 16).symm
  have g776 : Gr [93, 94, 95, 96, 97, 98, 99, 105, 106, 107, 108, 109, 110, 111, 112, 113, 114, 115, 116, 117, 118, 129, 130, 131, 132, 134, 143, 144, 145, 146, 148, 153, 154, 155, 156, 157, 158, 159] [(142, 4), (142, 5), (142, 6), (142, 7), (142, 8), (142, 9), (142, 10), (142, 11), (142, 12), (142, 13), (142, 14), (142, 15), (142, 16), (142, 17), (142, 18), (143, 0), (143, 1), (143, 3), (143, 4), (143, 5), (143, 6), (143, 7), (143, 8), (143, 9), (143, 10), (143, 11), (143, 12), (143, 13), (143, 14), (143, 17), (143, 18), (143, 19), (144, 1), (144, 2), (144, 3), (144, 4), (144, 5), (144, 6), (144, 7), (144, 8), (144, 9), (144, 10), (144, 11), (144, 12), (144, 13), (144, 14), (144, 15), (144, 16), (144, 17), (145, 1), (145, 2), (145, 3), (145, 12), (145, 15), (145, 16), (146, 5), (146, 6), (146, 7), (146, 8), (146, 9), (146, 10), (146, 11), (146, 13), (146, 14), (146, 15), (146, 16), (148, 1), (148, 3), (148, 4), (148, 5), (153, 0), (153, 1)] S G S732 G733 := gr_rs g721 r731 z632 rfl
  have u777 : UqL [131, 159, 158, 129, 157, 156, 155, 154, 130] S732 := uq_rs u722 (no_sub u723 rfl) r731 rfl
  have u778 : EmL E [159, 158, 157, 156, 155, 154] S732 G733 := em_rsN u724 r731 rfl
  have u779 : No [128, 132, 136, 138] S732 := no_rs u723 r731 rfl
  refine r_putFN hX hP rfl rfl fq_X11_71_142 s735 (by decide) (Or.inr r731.1) (fun h780 => ?_)
  refine r_ex hX hP 1 (pc' := 150) (st' := [(2, this)]) (lo' := [(0, (2, this))]) rfl ?_
  have u781 : EmL E [159, 158, 157, 156, 155, 154] S732 (up G733 142 this 16 n628) := (em_up u778 rfl)
  have g782 : Gr [93, 94, 95, 96, 97, 98, 99, 105, 106, 107, 108, 109, 110, 111, 112, 113, 114, 115, 116, 117, 118, 129, 130, 131, 132, 134, 143, 144, 145, 146, 148, 153, 154, 155, 156, 157, 158, 159] [(142, 4), (142, 5), (142, 6), (142, 7), (142, 8), (142, 9), (142, 10), (142, 11), (142, 12), (142, 13), (142, 14), (142, 15), (142, 16), (142, 17), (142, 18), (143, 0), (143, 1), (143, 3), (143, 4), (143, 5), (143, 6), (143, 7), (143, 8), (143, 9), (143, 10), (143, 11), (143, 12), (143, 13), (143, 14), (143, 17), (143, 18), (143, 19), (144, 1), (144, 2), (144, 3), (144, 4), (144, 5), (144, 6), (144, 7), (144, 8), (144, 9), (144, 10), (144, 11), (144, 12), (144, 13), (144, 14), (144, 15), (144, 16), (144, 17), (145, 1), (145, 2), (145, 3), (145, 12), (145, 15), (145, 16), (146, 5), (146, 6), (146, 7), (146, 8), (146, 9), (146, 10), (146, 11), (146, 13), (146, 14), (146, 15), (146, 16), (148, 1), (148, 3), (148, 4), (148, 5), (153, 0), (153, 1)] S G S732 (up G733 142 this 16 n628) := (gr_up g776 rfl)
  refine r_newA hX hP rfl (L := 146) (N := 17) nw_X11_75_146 (by first | decide | omega) (by first | decide | omega) (fun n783 S784 G785 n783z n783n n783l g786 n783v => ?_)
  have z787 : S n783 = 0 := gr_zero g782 n783z
  have s788 : S784 this = 142 := gr_lab g786 s735 (by decide)
  have s789 : S784 n5 = 129 := gr_lab g786 s736 (by decide)
  have s790 : S784 ach19 = 130 := gr_lab g786 s737 (by decide)
  have s791 : S784 if57 = 154 := gr_lab g786 s738 (by decide)
  have s792 : S784 tf59 = 155 := gr_lab g786 s739 (by decide)
  have s793 : S784 ef61 = 156 := gr_lab g786 s740 (by decide)
  have s794 : S784 pf63 = 157 := gr_lab g786 s741 (by decide)
  have s795 : S784 n67 = 158 := gr_lab g786 s742 (by decide)
  have s796 : S784 n139 = 159 := gr_lab g786 s743 (by decide)
  have s797 : S784 n217 = 94 := gr_lab g786 s744 (by decide)
  have s798 : S784 n256 = 134 := gr_lab g786 s745 (by decide)
  have s799 : S784 n374 = 134 := gr_lab g786 s746 (by decide)
  have s800 : S784 n498 = 134 := gr_lab g786 s747 (by decide)
  have s801 : S784 n628 = 131 := gr_lab g786 r731.1 (by decide)
  have e802 : 1 = G785 142 this 4 := gr_val g786 e748 s735 (by decide) rfl
  have e803 : ach19 = G785 129 n5 9 := gr_val g786 e749 s736 (by decide) rfl
  have e804 : 40000 = G785 129 n5 0 := gr_val g786 e750 s736 (by decide) rfl
  have e805 : 0 = G785 130 ach19 0 := gr_val g786 e751 s737 (by decide) rfl
  have e806 : n5 = G785 142 this 17 := gr_val g786 e752 s735 (by decide) rfl
  have e807 : ach19 = G785 142 this 5 := gr_val g786 e753 s735 (by decide) rfl
  have e808 : if57 = G785 129 n5 10 := gr_val g786 e754 s736 (by decide) rfl
  have e809 : if57 = G785 142 this 6 := gr_val g786 e755 s735 (by decide) rfl
  have e810 : tf59 = G785 129 n5 11 := gr_val g786 e756 s736 (by decide) rfl
  have e811 : tf59 = G785 142 this 7 := gr_val g786 e757 s735 (by decide) rfl
  have e812 : ef61 = G785 129 n5 12 := gr_val g786 e758 s736 (by decide) rfl
  have e813 : ef61 = G785 142 this 8 := gr_val g786 e759 s735 (by decide) rfl
  have e814 : pf63 = G785 129 n5 13 := gr_val g786 e760 s736 (by decide) rfl
  have e815 : pf63 = G785 142 this 9 := gr_val g786 e761 s735 (by decide) rfl
  have e816 : (Ad E 0) = G785 158 n67 1 := gr_val g786 e762 s742 (by decide) rfl
  have e817 : n67 = G785 142 this 10 := gr_val g786 e763 s735 (by decide) rfl
  have e818 : (Ad E 0) = G785 159 n139 1 := gr_val g786 e764 s743 (by decide) rfl
  have e819 : n139 = G785 142 this 11 := gr_val g786 e765 s735 (by decide) rfl
  have e820 : n217 = G785 142 this 12 := gr_val g786 e766 s735 (by decide) rfl
  have e821 : n256 = G785 142 this 13 := gr_val g786 e767 s735 (by decide) rfl
  have e822 : n374 = G785 142 this 14 := gr_val g786 e768 s735 (by decide) rfl
  have e823 : n498 = G785 142 this 15 := gr_val g786 e769 s735 (by decide) rfl
  have e824 : 0 = G785 131 n628 0 := gr_val g786 e770 r731.1 (by decide) rfl
  have e825 : (-1) = G785 131 n628 9 := gr_val g786 e771 r731.1 (by decide) rfl
  have e826 : (-1) = G785 131 n628 1 := gr_val g786 e772 r731.1 (by decide) rfl
  have e827 : (-1) = G785 131 n628 2 := gr_val g786 e773 r731.1 (by decide) rfl
  have e828 : za15 = G785 131 n628 15 := gr_val g786 e774 r731.1 (by decide) rfl
  have e829 : za16 = G785 131 n628 16 := gr_val g786 e775 r731.1 (by decide) rfl
  have e830 : n628 = G785 142 this 16 := gr_val g786 h780 s735 (by decide) rfl
  have g831 : Gr [93, 94, 95, 96, 97, 98, 99, 105, 106, 107, 108, 109, 110, 111, 112, 113, 114, 115, 116, 117, 118, 129, 130, 131, 132, 134, 143, 144, 145, 146, 148, 153, 154, 155, 156, 157, 158, 159] [(142, 4), (142, 5), (142, 6), (142, 7), (142, 8), (142, 9), (142, 10), (142, 11), (142, 12), (142, 13), (142, 14), (142, 15), (142, 16), (142, 17), (142, 18), (143, 0), (143, 1), (143, 3), (143, 4), (143, 5), (143, 6), (143, 7), (143, 8), (143, 9), (143, 10), (143, 11), (143, 12), (143, 13), (143, 14), (143, 17), (143, 18), (143, 19), (144, 1), (144, 2), (144, 3), (144, 4), (144, 5), (144, 6), (144, 7), (144, 8), (144, 9), (144, 10), (144, 11), (144, 12), (144, 13), (144, 14), (144, 15), (144, 16), (144, 17), (145, 1), (145, 2), (145, 3), (145, 12), (145, 15), (145, 16), (146, 5), (146, 6), (146, 7), (146, 8), (146, 9), (146, 10), (146, 11), (146, 13), (146, 14), (146, 15), (146, 16), (148, 1), (148, 3), (148, 4), (148, 5), (153, 0), (153, 1)] S G S784 G785 := gr_call g782 g786 rfl rfl
  have u832 : UqL [131, 159, 158, 129, 157, 156, 155, 154, 130] S784 := uq_gr u777 g786 rfl
  have u833 : No [128, 132, 136, 138] S784 := no_gr (no_sub u779 rfl) g786 rfl
  have u834 : EmL E [159, 158, 157, 156, 155, 154] S784 G785 := em_gr u781 g786 rfl
  have e835 : 0 = G785 146 n783 0 := (n783v 0).symm
  refine r_ex hX hP 1 (pc' := 154) (st' := [(2, n783), (2, n783), (2, this)]) (lo' := [(0, (2, this))]) rfl ?_
  refine r_callIN gd hX hP rfl cn_X11_77 n783n (d' := 3) (mc' := 11) (ms' := 136) (as' := []) (st := [(2, n783), (2, this)]) (by first | decide | omega) (by first | decide | omega) (by first | decide | omega) rfl rfl (Nat.le_of_ble_eq_true rfl) (c_X7_init E S784 G785 n783  n783l) ?_
  rintro _ S836 G837 ⟨g838, rfl, hf839⟩
  have s840 : S836 this = 142 := gr_lab g838 s788 (by decide)
  have s841 : S836 n5 = 129 := gr_lab g838 s789 (by decide)
  have s842 : S836 ach19 = 130 := gr_lab g838 s790 (by decide)
  have s843 : S836 if57 = 154 := gr_lab g838 s791 (by decide)
  have s844 : S836 tf59 = 155 := gr_lab g838 s792 (by decide)
  have s845 : S836 ef61 = 156 := gr_lab g838 s793 (by decide)
  have s846 : S836 pf63 = 157 := gr_lab g838 s794 (by decide)
  have s847 : S836 n67 = 158 := gr_lab g838 s795 (by decide)
  have s848 : S836 n139 = 159 := gr_lab g838 s796 (by decide)
  have s849 : S836 n217 = 94 := gr_lab g838 s797 (by decide)
  have s850 : S836 n256 = 134 := gr_lab g838 s798 (by decide)
  have s851 : S836 n374 = 134 := gr_lab g838 s799 (by decide)
  have s852 : S836 n498 = 134 := gr_lab g838 s800 (by decide)
  have s853 : S836 n628 = 131 := gr_lab g838 s801 (by decide)
  have s854 : S836 n783 = 146 := gr_lab g838 n783l (by decide)
  have e855 : 1 = G837 142 this 4 := gr_val g838 e802 s788 (by decide) rfl
  have e856 : ach19 = G837 129 n5 9 := gr_val g838 e803 s789 (by decide) rfl
  have e857 : 40000 = G837 129 n5 0 := gr_val g838 e804 s789 (by decide) rfl
  have e858 : 0 = G837 130 ach19 0 := gr_val g838 e805 s790 (by decide) rfl
  have e859 : n5 = G837 142 this 17 := gr_val g838 e806 s788 (by decide) rfl
  have e860 : ach19 = G837 142 this 5 := gr_val g838 e807 s788 (by decide) rfl
  have e861 : if57 = G837 129 n5 10 := gr_val g838 e808 s789 (by decide) rfl
  have e862 : if57 = G837 142 this 6 := gr_val g838 e809 s788 (by decide) rfl
  have e863 : tf59 = G837 129 n5 11 := gr_val g838 e810 s789 (by decide) rfl
  have e864 : tf59 = G837 142 this 7 := gr_val g838 e811 s788 (by decide) rfl
  have e865 : ef61 = G837 129 n5 12 := gr_val g838 e812 s789 (by decide) rfl
  have e866 : ef61 = G837 142 this 8 := gr_val g838 e813 s788 (by decide) rfl
  have e867 : pf63 = G837 129 n5 13 := gr_val g838 e814 s789 (by decide) rfl
  have e868 : pf63 = G837 142 this 9 := gr_val g838 e815 s788 (by decide) rfl
  have e869 : (Ad E 0) = G837 158 n67 1 := gr_val g838 e816 s795 (by decide) rfl
  have e870 : n67 = G837 142 this 10 := gr_val g838 e817 s788 (by decide) rfl
  have e871 : (Ad E 0) = G837 159 n139 1 := gr_val g838 e818 s796 (by decide) rfl
  have e872 : n139 = G837 142 this 11 := gr_val g838 e819 s788 (by decide) rfl
  have e873 : n217 = G837 142 this 12 := gr_val g838 e820 s788 (by decide) rfl
  have e874 : n256 = G837 142 this 13 := gr_val g838 e821 s788 (by decide) rfl
  have e875 : n374 = G837 142 this 14 := gr_val g838 e822 s788 (by decide) rfl
  have e876 : n498 = G837 142 this 15 := gr_val g838 e823 s788 (by decide) rfl
  have e877 : 0 = G837 131 n628 0 := gr_val g838 e824 s801 (by decide) rfl
  have e878 : (-1) = G837 131 n628 9 := gr_val g838 e825 s801 (by decide) rfl
  have e879 : (-1) = G837 131 n628 1 := gr_val g838 e826 s801 (by decide) rfl
  have e880 : (-1) = G837 131 n628 2 := gr_val g838 e827 s801 (by decide) rfl
  have e881 : za15 = G837 131 n628 15 := gr_val g838 e828 s801 (by decide) rfl
  have e882 : za16 = G837 131 n628 16 := gr_val g838 e829 s801 (by decide) rfl
  have e883 : n628 = G837 142 this 16 := gr_val g838 e830 s788 (by decide) rfl
  have e884 : 0 = G837 146 n783 0 := gr_val g838 e835 n783l (by decide) rfl
  have g885 : Gr [93, 94, 95, 96, 97, 98, 99, 105, 106, 107, 108, 109, 110, 111, 112, 113, 114, 115, 116, 117, 118, 129, 130, 131, 132, 134, 143, 144, 145, 146, 148, 153, 154, 155, 156, 157, 158, 159] [(142, 4), (142, 5), (142, 6), (142, 7), (142, 8), (142, 9), (142, 10), (142, 11), (142, 12), (142, 13), (142, 14), (142, 15), (142, 16), (142, 17), (142, 18), (143, 0), (143, 1), (143, 3), (143, 4), (143, 5), (143, 6), (143, 7), (143, 8), (143, 9), (143, 10), (143, 11), (143, 12), (143, 13), (143, 14), (143, 17), (143, 18), (143, 19), (144, 1), (144, 2), (144, 3), (144, 4), (144, 5), (144, 6), (144, 7), (144, 8), (144, 9), (144, 10), (144, 11), (144, 12), (144, 13), (144, 14), (144, 15), (144, 16), (144, 17), (145, 1), (145, 2), (145, 3), (145, 12), (145, 15), (145, 16), (146, 5), (146, 6), (146, 7), (146, 8), (146, 9), (146, 10), (146, 11), (146, 13), (146, 14), (146, 15), (146, 16), (148, 1), (148, 3), (148, 4), (148, 5), (153, 0), (153, 1)] S G S836 G837 := gr_call g831 g838 rfl rfl
  have u886 : UqL [131, 159, 158, 129, 157, 156, 155, 154, 130] S836 := uq_gr u832 g838 rfl
  have u887 : No [128, 132, 136, 138] S836 := no_gr (no_sub u833 rfl) g838 rfl
  have u888 : EmL E [159, 158, 157, 156, 155, 154] S836 G837 := em_gr u834 g838 rfl
  refine r_finA hX (L := 146) (ci := 8) (fs := fs_146) rfl s854 (by decide) (fun hr889 => ?_)
  refine r_relabF hX (L := 146) (L' := 132) (ci := 8) (fs := fs_146) (fs' := fs_132) rfl rfl rfl (by decide) (by decide) nf_146 (by decide) s854 hf839 (fun S892 G893 r891 => ?_)
  have s895 : S892 this = 142 := r891.lab s854 s840 (by decide)
  have s896 : S892 n5 = 129 := r891.lab s854 s841 (by decide)
  have s897 : S892 ach19 = 130 := r891.lab s854 s842 (by decide)
  have s898 : S892 if57 = 154 := r891.lab s854 s843 (by decide)
  have s899 : S892 tf59 = 155 := r891.lab s854 s844 (by decide)
  have s900 : S892 ef61 = 156 := r891.lab s854 s845 (by decide)
  have s901 : S892 pf63 = 157 := r891.lab s854 s846 (by decide)
  have s902 : S892 n67 = 158 := r891.lab s854 s847 (by decide)
  have s903 : S892 n139 = 159 := r891.lab s854 s848 (by decide)
  have s904 : S892 n217 = 94 := r891.lab s854 s849 (by decide)
  have s905 : S892 n256 = 134 := r891.lab s854 s850 (by decide)
  have s906 : S892 n374 = 134 := r891.lab s854 s851 (by decide)
  have s907 : S892 n498 = 134 := r891.lab s854 s852 (by decide)
  have s908 : S892 n628 = 131 := r891.lab s854 s853 (by decide)
  have e909 : 1 = G893 142 this 4 := rs_val r891 s854 e855 s840 (by decide)
  have e910 : ach19 = G893 129 n5 9 := rs_val r891 s854 e856 s841 (by decide)
  have e911 : 40000 = G893 129 n5 0 := rs_val r891 s854 e857 s841 (by decide)
  have e912 : 0 = G893 130 ach19 0 := rs_val r891 s854 e858 s842 (by decide)
  have e913 : n5 = G893 142 this 17 := rs_val r891 s854 e859 s840 (by decide)
  have e914 : ach19 = G893 142 this 5 := rs_val r891 s854 e860 s840 (by decide)
  have e915 : if57 = G893 129 n5 10 := rs_val r891 s854 e861 s841 (by decide)
  have e916 : if57 = G893 142 this 6 := rs_val r891 s854 e862 s840 (by decide)
  have e917 : tf59 = G893 129 n5 11 := rs_val r891 s854 e863 s841 (by decide)
  have e918 : tf59 = G893 142 this 7 := rs_val r891 s854 e864 s840 (by decide)
  have e919 : ef61 = G893 129 n5 12 := rs_val r891 s854 e865 s841 (by decide)
  have e920 : ef61 = G893 142 this 8 := rs_val r891 s854 e866 s840 (by decide)
  have e921 : pf63 = G893 129 n5 13 := rs_val r891 s854 e867 s841 (by decide)
  have e922 : pf63 = G893 142 this 9 := rs_val r891 s854 e868 s840 (by decide)
  have e923 : (Ad E 0) = G893 158 n67 1 := rs_val r891 s854 e869 s847 (by decide)
  have e924 : n67 = G893 142 this 10 := rs_val r891 s854 e870 s840 (by decide)
  have e925 : (Ad E 0) = G893 159 n139 1 := rs_val r891 s854 e871 s848 (by decide)
  have e926 : n139 = G893 142 this 11 := rs_val r891 s854 e872 s840 (by decide)
  have e927 : n217 = G893 142 this 12 := rs_val r891 s854 e873 s840 (by decide)
  have e928 : n256 = G893 142 this 13 := rs_val r891 s854 e874 s840 (by decide)
  have e929 : n374 = G893 142 this 14 := rs_val r891 s854 e875 s840 (by decide)
  have e930 : n498 = G893 142 this 15 := rs_val r891 s854 e876 s840 (by decide)
  have e931 : 0 = G893 131 n628 0 := rs_val r891 s854 e877 s853 (by decide)
  have e932 : (-1) = G893 131 n628 9 := rs_val r891 s854 e878 s853 (by decide)
  have e933 : (-1) = G893 131 n628 1 := rs_val r891 s854 e879 s853 (by decide)
  have e934 : (-1) = G893 131 n628 2 := rs_val r891 s854 e880 s853 (by decide)
  have e935 : za15 = G893 131 n628 15 := rs_val r891 s854 e881 s853 (by decide)
  have e936 : za16 = G893 131 n628 16 := rs_val r891 s854 e882 s853 (by decide)
  have e937 : n628 = G893 142 this 16 := rs_val r891 s854 e883 s840 (by decide)
  have e938 : 0 = G893 132 n783 0 := e884.trans (r891.2.2.1 0).symm
  have g939 : Gr [93, 94, 95, 96, 97, 98, 99, 105, 106, 107, 108, 109, 110, 111, 112, 113, 114, 115, 116, 117, 118, 129, 130, 131, 132, 134, 143, 144, 145, 146, 148, 153, 154, 155, 156, 157, 158, 159] [(142, 4), (142, 5), (142, 6), (142, 7), (142, 8), (142, 9), (142, 10), (142, 11), (142, 12), (142, 13), (142, 14), (142, 15), (142, 16), (142, 17), (142, 18), (143, 0), (143, 1), (143, 3), (143, 4), (143, 5), (143, 6), (143, 7), (143, 8), (143, 9), (143, 10), (143, 11), (143, 12), (143, 13), (143, 14), (143, 17), (143, 18), (143, 19), (144, 1), (144, 2), (144, 3), (144, 4), (144, 5), (144, 6), (144, 7), (144, 8), (144, 9), (144, 10), (144, 11), (144, 12), (144, 13), (144, 14), (144, 15), (144, 16), (144, 17), (145, 1), (145, 2), (145, 3), (145, 12), (145, 15), (145, 16), (146, 5), (146, 6), (146, 7), (146, 8), (146, 9), (146, 10), (146, 11), (146, 13), (146, 14), (146, 15), (146, 16), (148, 1), (148, 3), (148, 4), (148, 5), (153, 0), (153, 1)] S G S892 G893 := gr_rs g885 r891 z787 rfl
  have u940 : UqL [132, 131, 159, 158, 129, 157, 156, 155, 154, 130] S892 := uq_rs u886 (no_sub u887 rfl) r891 rfl
  have u941 : EmL E [159, 158, 157, 156, 155, 154] S892 G893 := em_rsN u888 r891 rfl
  have u942 : No [128, 136, 138] S892 := no_rs u887 r891 rfl
  refine r_putFN hX hP rfl rfl fq_X11_78_142 s895 (by decide) (Or.inr r891.1) (fun h943 => ?_)
  refine r_finA hX (L := 142) (ci := 11) (fs := fs_142) rfl s895 (by decide) (fun hr944 => ?_)
  have hf945 : Fnl E fs_128 142 S892 (up G893 142 this 18 n783) this := by
    intro j hj
    rcases (by have : j < 20 := hj; omega : j = 0 ∨ j = 1 ∨ j = 2 ∨ j = 3 ∨ j = 4 ∨ j = 5 ∨ j = 6 ∨ j = 7 ∨ j = 8 ∨ j = 9 ∨ j = 10 ∨ j = 11 ∨ j = 12 ∨ j = 13 ∨ j = 14 ∨ j = 15 ∨ j = 16 ∨ j = 17 ∨ j = 18 ∨ j = 19) with rfl | rfl | rfl | rfl | rfl | rfl | rfl | rfl | rfl | rfl | rfl | rfl | rfl | rfl | rfl | rfl | rfl | rfl | rfl | rfl
    · exact hr944 0 (by decide)
    · exact hr944 1 (by decide)
    · exact hr944 2 (by decide)
    · exact hr944 3 (by decide)
    · exact hr944 4 (by decide)
    · exact ⟨lab_of e914 s897, by decide⟩
    · exact ⟨lab_of e916 s898, by decide⟩
    · exact ⟨lab_of e918 s899, by decide⟩
    · exact ⟨lab_of e920 s900, by decide⟩
    · exact ⟨lab_of e922 s901, by decide⟩
    · exact ⟨lab_of e924 s902, by decide⟩
    · exact ⟨lab_of e926 s903, by decide⟩
    · exact ⟨lab_of e927 s904, by decide⟩
    · exact ⟨lab_of e928 s905, by decide⟩
    · exact ⟨lab_of e929 s906, by decide⟩
    · exact ⟨lab_of e930 s907, by decide⟩
    · exact ⟨lab_of e937 s908, by decide⟩
    · exact ⟨lab_of e913 s896, by decide⟩
    · exact ⟨lab_of h943 r891.1, by decide⟩
    · exact hr944 19 (by decide)
  have u946 : EmL E [159, 158, 157, 156, 155, 154] S892 (up G893 142 this 18 n783) := (em_up u941 rfl)
  have g947 : Gr [93, 94, 95, 96, 97, 98, 99, 105, 106, 107, 108, 109, 110, 111, 112, 113, 114, 115, 116, 117, 118, 129, 130, 131, 132, 134, 143, 144, 145, 146, 148, 153, 154, 155, 156, 157, 158, 159] [(142, 4), (142, 5), (142, 6), (142, 7), (142, 8), (142, 9), (142, 10), (142, 11), (142, 12), (142, 13), (142, 14), (142, 15), (142, 16), (142, 17), (142, 18), (143, 0), (143, 1), (143, 3), (143, 4), (143, 5), (143, 6), (143, 7), (143, 8), (143, 9), (143, 10), (143, 11), (143, 12), (143, 13), (143, 14), (143, 17), (143, 18), (143, 19), (144, 1), (144, 2), (144, 3), (144, 4), (144, 5), (144, 6), (144, 7), (144, 8), (144, 9), (144, 10), (144, 11), (144, 12), (144, 13), (144, 14), (144, 15), (144, 16), (144, 17), (145, 1), (145, 2), (145, 3), (145, 12), (145, 15), (145, 16), (146, 5), (146, 6), (146, 7), (146, 8), (146, 9), (146, 10), (146, 11), (146, 13), (146, 14), (146, 15), (146, 16), (148, 1), (148, 3), (148, 4), (148, 5), (153, 0), (153, 1)] S G S892 (up G893 142 this 18 n783) := (gr_up g939 rfl)
  exact r_retV hX hP rfl rfl (by first | decide | omega) (by first | decide | omega) ⟨g947, rfl, u940, u946, (no_sub u942 rfl), (zat e914 e912), (zat h943 e938), (zat e937 e931), (zat e937 e933), (zat e937 e934), (zat e937 e932), (zat e913 e911), (lab_of e914 s897), (lab_of h943 r891.1), (lab_of e937 s908), (lab_of e913 s896), (zne e937 e935 e936 zane), hf945⟩
