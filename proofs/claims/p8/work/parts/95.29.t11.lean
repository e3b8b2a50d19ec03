def gt12 : List (Int × Int) := [(136, 1), (136, 2)]
theorem it_suc {T : Tp} {n l : Int} {s : Rg} (h : 0 ≤ l) : pIt T n (l + 1).toNat s = pSp T n (pIt T n l.toNat s) := by
  rw [show (l + 1).toNat = l.toNat + 1 by omega, pIt_add]
  rfl
theorem it_eqs {T : Tp} {n l : Int} {s : Rg} (h0 : s 0 = 0) (h1 : 0 ≤ n) (h4 : n ≤ 400) (h : pSp T n (pIt T n l.toNat s) = pIt T n l.toNat s) : pIt T n l.toNat s = pIt T n 401 s := it_eq h0 h1 h4 h
def RdF (T : Tp) (n : Int) (s : Rg) (S : Sg) (G : Gh) (S' : Sg) (G' : Gh) (x z : Int) : Prop := G' 131 x 1 = s 1 ∧ G' 131 x 2 = s 2 ∧ ((z = -1 ∧ s 1 ≠ 0) ∨ (S' z = 136 ∧ 0 ≤ z ∧ s 1 = 0 ∧ G' 136 z 1 = s 4 ∧ G' 136 z 2 = s 5 ∧ G' 131 x 9 = -1)) ∧ (∀ u : Int, 0 ≤ u → S u = 136 → u ≠ G 131 x 9 → u ≠ z ∧ u ≠ G' 131 x 9 ∧ G' 136 u 1 = G 136 u 1 ∧ G' 136 u 2 = G 136 u 2) ∧ (0 ≤ G' 131 x 9 → G' 136 (G' 131 x 9) 9 ≠ G' 136 (G' 131 x 9) 10)
theorem tl_149 (j : Nat) {t : Ty} (h : fs_149.getD j (0, 0, 0) = t) (hj : j < fs_149.length) : Tl 149 j t := ⟨10, fs_149, rfl, hj, h, by decide⟩
set_option maxRecDepth 100000 in
set_option maxHeartbeats 4000000 in
theorem c_fillX (E : En) (S : Sg) (G : Gh) (a : Int) (val : Int) (a_s : S a = 124) (val_a : (-1) ≤ val) (val_b : val ≤ (-1)) : Calls E mJ7_fill_53178 [(2, a), (0, val)] S G 0 0 0 (fun r S' G' => S = S' ∧ (∃ G1, hw [(124, -1)] G G1 = G') ∧ r = none ∧ (∀ j : Int, 0 ≤ j → j ≤ 2 → G' 124 a j = -1) ∧ (∀ b j : Int, b ≠ a → G' 124 b j = G 124 b j)) := by
  refine calls_by [(0, (2, a)), (1, (0, val))] rfl rfl (Nat.le_of_ble_eq_true rfl) (fun X hX => ?_)
  have hP := hPJ7_fill_53178
  refine r_ex hX hP 3 (pc' := 3) (st' := [(2, a)]) (lo' := [(0, (2, a)), (1, (0, val)), (2, (0, 0))]) rfl ?_
  refine r_alen hX hP rfl al_124 a_s ?_
  refine r_ex hX hP 1 (pc' := 5) (st' := []) (lo' := [(0, (2, a)), (1, (0, val)), (2, (0, 0)), (3, (0, 3))]) rfl ?_
  have loop5 : ∀ (nF : Nat) (l2_h5 : Int) (Gh5 : Gh), 0 ≤ l2_h5 → l2_h5 ≤ 3 → (∀ j : Int, 0 ≤ j → j < l2_h5 → (hw [(124, -1)] G Gh5) 124 a j = -1) → (∀ b j : Int, b ≠ a → (hw [(124, -1)] G Gh5) 124 b j = G 124 b j) → 3 - l2_h5 < (nF : Int) → X 0 0 5 [] [(0, (2, a)), (1, (0, val)), (2, (0, l2_h5)), (3, (0, 3))] S (hw [(124, -1)] G Gh5) := by
    intro nF
    induction nF with
    | zero => intro l2_h5 Gh5 yh5_0 yh5_1 yh5_2 yh5_3 ym5; exfalso; omega
    | succ nF ih5 =>
      intro l2_h5 Gh5 yh5_0 yh5_1 yh5_2 yh5_3 ym5
      refine r_ex hX hP 2 (pc' := 7) (st' := [(0, 3), (0, l2_h5)]) (lo' := [(0, (2, a)), (1, (0, val)), (2, (0, l2_h5)), (3, (0, 3))]) rfl ?_
      refine r_ic_ge hX hP rfl (tgt := 20) rfl (by first | decide | omega) (by first | decide | omega) (by first | decide | omega) (by first | decide | omega) (fun c1 => ?_) (fun c1 => ?_)
      · skip
        exact r_retV hX hP rfl rfl (by first | decide | omega) (by first | decide | omega) ⟨rfl, ⟨_, (hw_sub (hw_refl _ _) rfl).symm⟩, rfl, (fun j h0 h1 => yh5_2 j h0 (by first | decide | omega)), yh5_3⟩
      · skip
        refine r_ex hX hP 3 (pc' := 13) (st' := [(0, val), (0, l2_h5), (2, a)]) (lo' := [(0, (2, a)), (1, (0, val)), (2, (0, l2_h5)), (3, (0, 3))]) rfl ?_
        refine r_iastK hX hP rfl al_124 a_s (by first | decide | omega) (by first | decide | omega) (by first | decide | omega) (by first | decide | omega) (fun h2 => ?_)
        refine r_ex hX hP 2 (pc' := 5) (st' := []) (lo' := [(0, (2, a)), (1, (0, val)), (2, (0, (l2_h5 + 1))), (3, (0, 3))]) rfl ?_
        refine r_eqG (X := X) (hw_up (hw_base _ _ _) rfl) ?_
        exact ih5 (l2_h5 + 1) _ (by first | decide | omega) (by first | decide | omega) ((fun j h0 h1 => (show (up (hw [(124, -1)] G Gh5) 124 a l2_h5 val) 124 a j = -1 from (Decidable.em (j = l2_h5)).elim (fun q => by rw [q]; exact (up_self _ _ _ _ _).trans (show val = -1 from by omega)) (fun q => (up_ne (fun w => q w.2.2)).trans (yh5_2 j h0 (by first | decide | omega)))))) ((fun b j hb => (show (up (hw [(124, -1)] G Gh5) 124 a l2_h5 val) 124 b j = G 124 b j from (up_ne (fun w => hb w.2.1)).trans (yh5_3 b j hb)))) (by first | decide | omega)
  refine r_eqG (X := X) (hw_refl [(124, -1)] _) ?_
  exact loop5 ((3 - 0) + 1 : Int).toNat 0 _ (by first | decide | omega) (by first | decide | omega) ((fun j h0 h1 => by omega)) ((fun b j _ => rfl)) (by first | decide | omega)
set_option maxRecDepth 100000 in
set_option maxHeartbeats 4000000 in
theorem c_clearX (E : En) (S : Sg) (G : Gh) (this : Int) (hS : S this = 136) (mo : Int) (mo_e : mo = G 136 this 9) (mo_s : S mo = 124) (sm : Int) (sm_e : sm = G 136 this 10) (sm_s : S sm = 124) (pre0 : mo ≠ sm) : Calls E mX9_clear [(2, this)] S G 1 0 0 (fun r S' G' => S = S' ∧ (∃ G1, hw [(124, -1), (136, 0), (136, 1), (136, 2)] G G1 = G') ∧ r = none ∧ ∃ s1 : Int, s1 = G' 136 this 0 ∧ ∃ c1 : Int, c1 = G' 136 this 1 ∧ ∃ f1 : Int, f1 = G' 136 this 2 ∧ s1 = 0 ∧ c1 = 0 ∧ f1 = -1 ∧ (∀ j : Int, 0 ≤ j → j ≤ 2 → G' 124 mo j = -1) ∧ (∀ u : Int, u ≠ this → G' 136 u 1 = G 136 u 1 ∧ G' 136 u 2 = G 136 u 2)) := by
  refine calls_by [(0, (2, this))] rfl rfl (Nat.le_of_ble_eq_true rfl) (fun X hX => ?_)
  have hP := hPX9_clear
  refine r_ex hX hP 2 (pc' := 2) (st' := [(0, 0), (2, this)]) (lo' := [(0, (2, this))]) rfl ?_
  refine r_putIK hX hP rfl fp_X9_63_136 hS (by first | decide | omega) (by first | decide | omega) (fun h1 => ?_)
  refine r_ex hX hP 2 (pc' := 7) (st' := [(0, 0), (2, this)]) (lo' := [(0, (2, this))]) rfl ?_
  refine r_putIK hX hP rfl fp_X9_66_136 hS (by first | decide | omega) (by first | decide | omega) (fun h2 => ?_)
  refine r_ex hX hP 2 (pc' := 12) (st' := [(0, (-1)), (2, this)]) (lo' := [(0, (2, this))]) rfl ?_
  refine r_putIK hX hP rfl fp_X9_9_136 hS (by first | decide | omega) (by first | decide | omega) (fun h3 => ?_)
  refine r_ex hX hP 1 (pc' := 16) (st' := [(2, this)]) (lo' := [(0, (2, this))]) rfl ?_
  refine r_getKR hX hP rfl fl_X9_34_136 hS (x := mo) mo_e ?_
  refine r_ex hX hP 1 (pc' := 20) (st' := [(0, (-1)), (2, mo)]) (lo' := [(0, (2, this))]) rfl ?_
  refine r_callS gd hX hP rfl cs_X9_57 (d' := 0) (mc' := 0) (ms' := 0) (as' := [(2, mo), (0, (-1))]) (st := []) (by first | decide | omega) (by first | decide | omega) (by first | decide | omega) rfl rfl (Nat.le_of_ble_eq_true rfl) (c_fillX E S (up (up (up G 136 this 0 0) 136 this 1 0) 136 this 2 (-1)) mo (-1) mo_s (by first | decide | omega) (by first | decide | omega)) ?_
  rintro _ _ _ ⟨rfl, ⟨G4, rfl⟩, rfl, f5, f6⟩
  refine r_ex hX hP 1 (pc' := 24) (st' := [(2, this)]) (lo' := [(0, (2, this))]) rfl ?_
  refine r_getKR hX hP rfl fl_X9_37_136 hS (x := sm) sm_e ?_
  refine r_ex hX hP 1 (pc' := 28) (st' := [(0, (-1)), (2, sm)]) (lo' := [(0, (2, this))]) rfl ?_
  refine r_callS gd hX hP rfl cs_X9_57 (d' := 0) (mc' := 0) (ms' := 0) (as' := [(2, sm), (0, (-1))]) (st := []) (by first | decide | omega) (by first | decide | omega) (by first | decide | omega) rfl rfl (Nat.le_of_ble_eq_true rfl) (c_fillX E S (hw [(124, -1)] (up (up (up G 136 this 0 0) 136 this 1 0) 136 this 2 (-1)) G4) sm (-1) sm_s (by first | decide | omega) (by first | decide | omega)) ?_
  rintro _ _ _ ⟨rfl, ⟨G7, rfl⟩, rfl, f8, f9⟩
  exact r_retV hX hP rfl rfl (by first | decide | omega) (by first | decide | omega) ⟨rfl, ⟨_, (hw_sub (hw_sub (hw_up (hw_up (hw_up (hw_refl _ _) rfl) rfl) rfl) rfl) rfl).symm⟩, rfl, 0, h1, 0, h2, (-1), h3, (by first | decide | omega), (by first | decide | omega), (by first | decide | omega), (fun j h0 h1 => (f9 mo j (by first | decide | omega)).trans (f5 j h0 h1)), (fun u hu => ⟨(show (hw [(124, -1)] (hw [(124, -1)] (up (up (up G 136 this 0 0) 136 this 1 0) 136 this 2 (-1)) G4) G7) 136 u 1 = (up (up G 136 this 0 0) 136 this 1 0) 136 u 1 from rfl).trans ((show (up (up G 136 this 0 0) 136 this 1 0) 136 u 1 = _ from up_ne (fun w => hu w.2.1))), (show (hw [(124, -1)] (hw [(124, -1)] (up (up (up G 136 this 0 0) 136 this 1 0) 136 this 2 (-1)) G4) G7) 136 u 2 = (up (up (up G 136 this 0 0) 136 this 1 0) 136 this 2 (-1)) 136 u 2 from rfl).trans ((show (up (up (up G 136 this 0 0) 136 this 1 0) 136 this 2 (-1)) 136 u 2 = _ from up_ne (fun w => hu w.2.1)))⟩)⟩
set_option maxRecDepth 100000 in
set_option maxHeartbeats 4000000 in
theorem c_initX (E : En) (S : Sg) (G : Gh) (this : Int) (hS : S this = 149) : Calls E mX9_init [(2, this)] S G 3 13 310 (fun r S' G' => Gr [119, 120, 121, 122, 123, 124, 125, 126, 127] [(124, -1), (149, 2), (149, 3), (149, 4), (149, 5), (149, 6), (149, 7), (149, 8), (149, 9), (149, 10), (149, 11), (149, 12), (149, 13), (149, 14), (149, 15)] S G S' G' ∧ r = none ∧ ∃ f1 : Int, f1 = G' 149 this 2 ∧ f1 = -1 ∧ S (G' 149 this 3) = 0 ∧ S (G' 149 this 5) = 0 ∧ (∀ j : Int, G' 121 (G' 149 this 5) j = 0) ∧ G' 149 this 9 ≠ G' 149 this 10 ∧ (∀ j : Int, 0 ≤ j → j ≤ 2 → G' 124 (G' 149 this 9) j = -1) ∧ Fnl E fs_136 149 S' G' this) := by
  refine calls_by [(0, (2, this))] rfl rfl (Nat.le_of_ble_eq_true rfl) (fun X hX => ?_)
  have hP := hPX9_init
  refine r_ex hX hP 1 (pc' := 1) (st' := [(2, this)]) (lo' := [(0, (2, this))]) rfl ?_
  refine r_nn hX hS (by decide) (fun p1 => ?_)
  refine r_objI hX hP rfl (tbg sg3 165 rfl rfl) (tbg sg1 33 rfl rfl) (tbg sg1 34 rfl rfl) p1 (by first | decide | omega) (Nat.le_of_ble_eq_true rfl) ?_
  refine r_ex hX hP 2 (pc' := 6) (st' := [(0, (-1)), (2, this)]) (lo' := [(0, (2, this))]) rfl ?_
  refine r_putIK hX hP rfl fp_X9_9_149 hS (by first | decide | omega) (by first | decide | omega) (fun h2 => ?_)
  refine r_ex hX hP 2 (pc' := 12) (st' := [(0, 30), (2, this)]) (lo' := [(0, (2, this))]) rfl ?_
  have g3 : Gr [119, 120, 121, 122, 123, 124, 125, 126, 127] [(124, -1), (149, 2), (149, 3), (149, 4), (149, 5), (149, 6), (149, 7), (149, 8), (149, 9), (149, 10), (149, 11), (149, 12), (149, 13), (149, 14), (149, 15)] S G S (up G 149 this 2 (-1)) := (gr_up (gr_refl [119, 120, 121, 122, 123, 124, 125, 126, 127] [(124, -1), (149, 2), (149, 3), (149, 4), (149, 5), (149, 6), (149, 7), (149, 8), (149, 9), (149, 10), (149, 11), (149, 12), (149, 13), (149, 14), (149, 15)] S G) rfl)
  refine r_newarrA hX hP rfl (L := 120) (n := 30) al_120 (by decide) rfl rfl rfl (tbg sg1 124 rfl rfl) (by decide) (by first | decide | omega) (by first | decide | omega) (fun n4 S5 G6 n4z n4n n4l g7 n4v => ?_)
  have z8 : S n4 = 0 := gr_zero g3 n4z
  have s9 : S5 this = 149 := gr_lab g7 hS (by decide)
  have e10 : (-1) = G6 149 this 2 := gr_val g7 h2 hS (by decide) rfl
  have g11 : Gr [119, 120, 121, 122, 123, 124, 125, 126, 127] [(124, -1), (149, 2), (149, 3), (149, 4), (149, 5), (149, 6), (149, 7), (149, 8), (149, 9), (149, 10), (149, 11), (149, 12), (149, 13), (149, 14), (149, 15)] S G S5 G6 := gr_call g3 g7 rfl rfl
  refine r_putFN hX hP rfl rfl fq_X9_15_149 s9 (by decide) (Or.inr n4l) (fun h12 => ?_)
  refine r_ex hX hP 2 (pc' := 20) (st' := [(0, 30), (2, this)]) (lo' := [(0, (2, this))]) rfl ?_
  have g13 : Gr [119, 120, 121, 122, 123, 124, 125, 126, 127] [(124, -1), (149, 2), (149, 3), (149, 4), (149, 5), (149, 6), (149, 7), (149, 8), (149, 9), (149, 10), (149, 11), (149, 12), (149, 13), (149, 14), (149, 15)] S G S5 (up G6 149 this 3 n4) := (gr_up g11 rfl)
  refine r_newarrA hX hP rfl (L := 119) (n := 30) al_119 (by decide) rfl rfl rfl (tbg sg1 124 rfl rfl) (by decide) (by first | decide | omega) (by first | decide | omega) (fun n14 S15 G16 n14z n14n n14l g17 n14v => ?_)
  have z18 : S n14 = 0 := gr_zero g13 n14z
  have s19 : S15 this = 149 := gr_lab g17 s9 (by decide)
  have s20 : S15 n4 = 120 := gr_lab g17 n4l (by decide)
  have e21 : (-1) = G16 149 this 2 := gr_val g17 e10 s9 (by decide) rfl
  have e22 : n4 = G16 149 this 3 := gr_val g17 h12 s9 (by decide) rfl
  have g23 : Gr [119, 120, 121, 122, 123, 124, 125, 126, 127] [(124, -1), (149, 2), (149, 3), (149, 4), (149, 5), (149, 6), (149, 7), (149, 8), (149, 9), (149, 10), (149, 11), (149, 12), (149, 13), (149, 14), (149, 15)] S G S15 G16 := gr_call g13 g17 rfl rfl
  refine r_putFN hX hP rfl rfl fq_X9_19_149 s19 (by decide) (Or.inr n14l) (fun h24 => ?_)
  refine r_ex hX hP 2 (pc' := 28) (st' := [(0, 30), (2, this)]) (lo' := [(0, (2, this))]) rfl ?_
  have g25 : Gr [119, 120, 121, 122, 123, 124, 125, 126, 127] [(124, -1), (149, 2), (149, 3), (149, 4), (149, 5), (149, 6), (149, 7), (149, 8), (149, 9), (149, 10), (149, 11), (149, 12), (149, 13), (149, 14), (149, 15)] S G S15 (up G16 149 this 4 n14) := (gr_up g23 rfl)
  refine r_newarrA hX hP rfl (L := 121) (n := 30) al_121 (by decide) rfl rfl rfl (tbg sg1 124 rfl rfl) (by decide) (by first | decide | omega) (by first | decide | omega) (fun n26 S27 G28 n26z n26n n26l g29 n26v => ?_)
  have z30 : S n26 = 0 := gr_zero g25 n26z
  have s31 : S27 this = 149 := gr_lab g29 s19 (by decide)
  have s32 : S27 n4 = 120 := gr_lab g29 s20 (by decide)
  have s33 : S27 n14 = 119 := gr_lab g29 n14l (by decide)
  have e34 : (-1) = G28 149 this 2 := gr_val g29 e21 s19 (by decide) rfl
  have e35 : n4 = G28 149 this 3 := gr_val g29 e22 s19 (by decide) rfl
  have e36 : n14 = G28 149 this 4 := gr_val g29 h24 s19 (by decide) rfl
  have g37 : Gr [119, 120, 121, 122, 123, 124, 125, 126, 127] [(124, -1), (149, 2), (149, 3), (149, 4), (149, 5), (149, 6), (149, 7), (149, 8), (149, 9), (149, 10), (149, 11), (149, 12), (149, 13), (149, 14), (149, 15)] S G S27 G28 := gr_call g25 g29 rfl rfl
  refine r_putFN hX hP rfl rfl fq_X9_22_149 s31 (by decide) (Or.inr n26l) (fun h38 => ?_)
  refine r_ex hX hP 2 (pc' := 36) (st' := [(0, 30), (2, this)]) (lo' := [(0, (2, this))]) rfl ?_
  have g39 : Gr [119, 120, 121, 122, 123, 124, 125, 126, 127] [(124, -1), (149, 2), (149, 3), (149, 4), (149, 5), (149, 6), (149, 7), (149, 8), (149, 9), (149, 10), (149, 11), (149, 12), (149, 13), (149, 14), (149, 15)] S G S27 (up G28 149 this 5 n26) := (gr_up g37 rfl)
  refine r_newarrA hX hP rfl (L := 119) (n := 30) al_119 (by decide) rfl rfl rfl (tbg sg1 124 rfl rfl) (by decide) (by first | decide | omega) (by first | decide | omega) (fun n40 S41 G42 n40z n40n n40l g43 n40v => ?_)
  have z44 : S n40 = 0 := gr_zero g39 n40z
  have s45 : S41 this = 149 := gr_lab g43 s31 (by decide)
  have s46 : S41 n4 = 120 := gr_lab g43 s32 (by decide)
  have s47 : S41 n14 = 119 := gr_lab g43 s33 (by decide)
  have s48 : S41 n26 = 121 := gr_lab g43 n26l (by decide)
  have e49 : (-1) = G42 149 this 2 := gr_val g43 e34 s31 (by decide) rfl
  have e50 : n4 = G42 149 this 3 := gr_val g43 e35 s31 (by decide) rfl
  have e51 : n14 = G42 149 this 4 := gr_val g43 e36 s31 (by decide) rfl
  have e52 : n26 = G42 149 this 5 := gr_val g43 h38 s31 (by decide) rfl
  have a53 : ∀ j : Int, G42 121 n26 j = 0 := fun j => (gr_at g43 n26l (by decide) rfl).trans (n26v j)
  have g54 : Gr [119, 120, 121, 122, 123, 124, 125, 126, 127] [(124, -1), (149, 2), (149, 3), (149, 4), (149, 5), (149, 6), (149, 7), (149, 8), (149, 9), (149, 10), (149, 11), (149, 12), (149, 13), (149, 14), (149, 15)] S G S41 G42 := gr_call g39 g43 rfl rfl
  refine r_putFN hX hP rfl rfl fq_X9_25_149 s45 (by decide) (Or.inr n40l) (fun h55 => ?_)
  refine r_ex hX hP 2 (pc' := 44) (st' := [(0, 30), (2, this)]) (lo' := [(0, (2, this))]) rfl ?_
  have g56 : Gr [119, 120, 121, 122, 123, 124, 125, 126, 127] [(124, -1), (149, 2), (149, 3), (149, 4), (149, 5), (149, 6), (149, 7), (149, 8), (149, 9), (149, 10), (149, 11), (149, 12), (149, 13), (149, 14), (149, 15)] S G S41 (up G42 149 this 6 n40) := (gr_up g54 rfl)
  refine r_newarrA hX hP rfl (L := 122) (n := 30) al_122 (by decide) rfl rfl rfl (tbg sg1 124 rfl rfl) (by decide) (by first | decide | omega) (by first | decide | omega) (fun n57 S58 G59 n57z n57n n57l g60 n57v => ?_)
  have z61 : S n57 = 0 := gr_zero g56 n57z
  have s62 : S58 this = 149 := gr_lab g60 s45 (by decide)
  have s63 : S58 n4 = 120 := gr_lab g60 s46 (by decide)
  have s64 : S58 n14 = 119 := gr_lab g60 s47 (by decide)
  have s65 : S58 n26 = 121 := gr_lab g60 s48 (by decide)
  have s66 : S58 n40 = 119 := gr_lab g60 n40l (by decide)
  have e67 : (-1) = G59 149 this 2 := gr_val g60 e49 s45 (by decide) rfl
  have e68 : n4 = G59 149 this 3 := gr_val g60 e50 s45 (by decide) rfl
  have e69 : n14 = G59 149 this 4 := gr_val g60 e51 s45 (by decide) rfl
  have e70 : n26 = G59 149 this 5 := gr_val g60 e52 s45 (by decide) rfl
  have e71 : n40 = G59 149 this 6 := gr_val g60 h55 s45 (by decide) rfl
  have a72 : ∀ j : Int, G59 121 n26 j = 0 := fun j => (gr_at g60 s48 (by decide) rfl).trans (a53 j)
  have g73 : Gr [119, 120, 121, 122, 123, 124, 125, 126, 127] [(124, -1), (149, 2), (149, 3), (149, 4), (149, 5), (149, 6), (149, 7), (149, 8), (149, 9), (149, 10), (149, 11), (149, 12), (149, 13), (149, 14), (149, 15)] S G S58 G59 := gr_call g56 g60 rfl rfl
  refine r_putFN hX hP rfl rfl fq_X9_28_149 s62 (by decide) (Or.inr n57l) (fun h74 => ?_)
  refine r_ex hX hP 2 (pc' := 52) (st' := [(0, 30), (2, this)]) (lo' := [(0, (2, this))]) rfl ?_
  have g75 : Gr [119, 120, 121, 122, 123, 124, 125, 126, 127] [(124, -1), (149, 2), (149, 3), (149, 4), (149, 5), (149, 6), (149, 7), (149, 8), (149, 9), (149, 10), (149, 11), (149, 12), (149, 13), (149, 14), (149, 15)] S G S58 (up G59 149 this 7 n57) := (gr_up g73 rfl)
  refine r_newarrA hX hP rfl (L := 123) (n := 30) al_123 (by decide) rfl rfl rfl (tbg sg1 124 rfl rfl) (by decide) (by first | decide | omega) (by first | decide | omega) (fun n76 S77 G78 n76z n76n n76l g79 n76v => ?_)
  have z80 : S n76 = 0 := gr_zero g75 n76z
  have s81 : S77 this = 149 := gr_lab g79 s62 (by decide)
  have s82 : S77 n4 = 120 := gr_lab g79 s63 (by decide)
  have s83 : S77 n14 = 119 := gr_lab g79 s64 (by decide)
  have s84 : S77 n26 = 121 := gr_lab g79 s65 (by decide)
  have s85 : S77 n40 = 119 := gr_lab g79 s66 (by decide)
  have s86 : S77 n57 = 122 := gr_lab g79 n57l (by decide)
  have e87 : (-1) = G78 149 this 2 := gr_val g79 e67 s62 (by decide) rfl
  have e88 : n4 = G78 149 this 3 := gr_val g79 e68 s62 (by decide) rfl
  have e89 : n14 = G78 149 this 4 := gr_val g79 e69 s62 (by decide) rfl
  have e90 : n26 = G78 149 this 5 := gr_val g79 e70 s62 (by decide) rfl
  have e91 : n40 = G78 149 this 6 := gr_val g79 e71 s62 (by decide) rfl
  have e92 : n57 = G78 149 this 7 := gr_val g79 h74 s62 (by decide) rfl
  have a93 : ∀ j : Int, G78 121 n26 j = 0 := fun j => (gr_at g79 s65 (by decide) rfl).trans (a72 j)
  have g94 : Gr [119, 120, 121, 122, 123, 124, 125, 126, 127] [(124, -1), (149, 2), (149, 3), (149, 4), (149, 5), (149, 6), (149, 7), (149, 8), (149, 9), (149, 10), (149, 11), (149, 12), (149, 13), (149, 14), (149, 15)] S G S77 G78 := gr_call g75 g79 rfl rfl
  refine r_putFN hX hP rfl rfl fq_X9_31_149 s81 (by decide) (Or.inr n76l) (fun h95 => ?_)
  refine r_ex hX hP 2 (pc' := 59) (st' := [(0, 3), (2, this)]) (lo' := [(0, (2, this))]) rfl ?_
  have g96 : Gr [119, 120, 121, 122, 123, 124, 125, 126, 127] [(124, -1), (149, 2), (149, 3), (149, 4), (149, 5), (149, 6), (149, 7), (149, 8), (149, 9), (149, 10), (149, 11), (149, 12), (149, 13), (149, 14), (149, 15)] S G S77 (up G78 149 this 8 n76) := (gr_up g94 rfl)
  refine r_newarrA hX hP rfl (L := 124) (n := 3) al_124 (by decide) rfl rfl rfl (tbg sg1 124 rfl rfl) (by decide) (by first | decide | omega) (by first | decide | omega) (fun n97 S98 G99 n97z n97n n97l g100 n97v => ?_)
  have z101 : S n97 = 0 := gr_zero g96 n97z
  have s102 : S98 this = 149 := gr_lab g100 s81 (by decide)
  have s103 : S98 n4 = 120 := gr_lab g100 s82 (by decide)
  have s104 : S98 n14 = 119 := gr_lab g100 s83 (by decide)
  have s105 : S98 n26 = 121 := gr_lab g100 s84 (by decide)
  have s106 : S98 n40 = 119 := gr_lab g100 s85 (by decide)
  have s107 : S98 n57 = 122 := gr_lab g100 s86 (by decide)
  have s108 : S98 n76 = 123 := gr_lab g100 n76l (by decide)
  have e109 : (-1) = G99 149 this 2 := gr_val g100 e87 s81 (by decide) rfl
  have e110 : n4 = G99 149 this 3 := gr_val g100 e88 s81 (by decide) rfl
  have e111 : n14 = G99 149 this 4 := gr_val g100 e89 s81 (by decide) rfl
  have e112 : n26 = G99 149 this 5 := gr_val g100 e90 s81 (by decide) rfl
  have e113 : n40 = G99 149 this 6 := gr_val g100 e91 s81 (by decide) rfl
  have e114 : n57 = G99 149 this 7 := gr_val g100 e92 s81 (by decide) rfl
  have e115 : n76 = G99 149 this 8 := gr_val g100 h95 s81 (by decide) rfl
  have a116 : ∀ j : Int, G99 121 n26 j = 0 := fun j => (gr_at g100 s84 (by decide) rfl).trans (a93 j)
  have g117 : Gr [119, 120, 121, 122, 123, 124, 125, 126, 127] [(124, -1), (149, 2), (149, 3), (149, 4), (149, 5), (149, 6), (149, 7), (149, 8), (149, 9), (149, 10), (149, 11), (149, 12), (149, 13), (149, 14), (149, 15)] S G S98 G99 := gr_call g96 g100 rfl rfl
  refine r_putFN hX hP rfl rfl fq_X9_34_149 s102 (by decide) (Or.inr n97l) (fun h118 => ?_)
  refine r_ex hX hP 2 (pc' := 66) (st' := [(0, 3), (2, this)]) (lo' := [(0, (2, this))]) rfl ?_
  have g119 : Gr [119, 120, 121, 122, 123, 124, 125, 126, 127] [(124, -1), (149, 2), (149, 3), (149, 4), (149, 5), (149, 6), (149, 7), (149, 8), (149, 9), (149, 10), (149, 11), (149, 12), (149, 13), (149, 14), (149, 15)] S G S98 (up G99 149 this 9 n97) := (gr_up g117 rfl)
  refine r_newarrA hX hP rfl (L := 124) (n := 3) al_124 (by decide) rfl rfl rfl (tbg sg1 124 rfl rfl) (by decide) (by first | decide | omega) (by first | decide | omega) (fun n120 S121 G122 n120z n120n n120l g123 n120v => ?_)
  have z124 : S n120 = 0 := gr_zero g119 n120z
  have s125 : S121 this = 149 := gr_lab g123 s102 (by decide)
  have s126 : S121 n4 = 120 := gr_lab g123 s103 (by decide)
  have s127 : S121 n14 = 119 := gr_lab g123 s104 (by decide)
  have s128 : S121 n26 = 121 := gr_lab g123 s105 (by decide)
  have s129 : S121 n40 = 119 := gr_lab g123 s106 (by decide)
  have s130 : S121 n57 = 122 := gr_lab g123 s107 (by decide)
  have s131 : S121 n76 = 123 := gr_lab g123 s108 (by decide)
  have s132 : S121 n97 = 124 := gr_lab g123 n97l (by decide)
  have e133 : (-1) = G122 149 this 2 := gr_val g123 e109 s102 (by decide) rfl
  have e134 : n4 = G122 149 this 3 := gr_val g123 e110 s102 (by decide) rfl
  have e135 : n14 = G122 149 this 4 := gr_val g123 e111 s102 (by decide) rfl
  have e136 : n26 = G122 149 this 5 := gr_val g123 e112 s102 (by decide) rfl
  have e137 : n40 = G122 149 this 6 := gr_val g123 e113 s102 (by decide) rfl
  have e138 : n57 = G122 149 this 7 := gr_val g123 e114 s102 (by decide) rfl
  have e139 : n76 = G122 149 this 8 := gr_val g123 e115 s102 (by decide) rfl
  have e140 : n97 = G122 149 this 9 := gr_val g123 h118 s102 (by decide) rfl
  have a141 : ∀ j : Int, G122 121 n26 j = 0 := fun j => (gr_at g123 s105 (by decide) rfl).trans (a116 j)
  have g142 : Gr [119, 120, 121, 122, 123, 124, 125, 126, 127] [(124, -1), (149, 2), (149, 3), (149, 4), (149, 5), (149, 6), (149, 7), (149, 8), (149, 9), (149, 10), (149, 11), (149, 12), (149, 13), (149, 14), (149, 15)] S G S121 G122 := gr_call g119 g123 rfl rfl
  have ne143 : n120 ≠ n97 := fun e => by have q := n120z; rw [e, n97l] at q; exact absurd q (by decide)
  refine r_putFN hX hP rfl rfl fq_X9_37_149 s125 (by decide) (Or.inr n120l) (fun h144 => ?_)
  refine r_ex hX hP 2 (pc' := 73) (st' := [(0, 4), (2, this)]) (lo' := [(0, (2, this))]) rfl ?_
  have g145 : Gr [119, 120, 121, 122, 123, 124, 125, 126, 127] [(124, -1), (149, 2), (149, 3), (149, 4), (149, 5), (149, 6), (149, 7), (149, 8), (149, 9), (149, 10), (149, 11), (149, 12), (149, 13), (149, 14), (149, 15)] S G S121 (up G122 149 this 10 n120) := (gr_up g142 rfl)
  refine r_newarrA hX hP rfl (L := 125) (n := 4) al_125 (by decide) rfl rfl rfl (tbg sg1 123 rfl rfl) (by decide) (by first | decide | omega) (by first | decide | omega) (fun n146 S147 G148 n146z n146n n146l g149 n146v => ?_)
  have z150 : S n146 = 0 := gr_zero g145 n146z
  have s151 : S147 this = 149 := gr_lab g149 s125 (by decide)
  have s152 : S147 n4 = 120 := gr_lab g149 s126 (by decide)
  have s153 : S147 n14 = 119 := gr_lab g149 s127 (by decide)
  have s154 : S147 n26 = 121 := gr_lab g149 s128 (by decide)
  have s155 : S147 n40 = 119 := gr_lab g149 s129 (by decide)
  have s156 : S147 n57 = 122 := gr_lab g149 s130 (by decide)
  have s157 : S147 n76 = 123 := gr_lab g149 s131 (by decide)
  have s158 : S147 n97 = 124 := gr_lab g149 s132 (by decide)
  have s159 : S147 n120 = 124 := gr_lab g149 n120l (by decide)
  have e160 : (-1) = G148 149 this 2 := gr_val g149 e133 s125 (by decide) rfl
  have e161 : n4 = G148 149 this 3 := gr_val g149 e134 s125 (by decide) rfl
  have e162 : n14 = G148 149 this 4 := gr_val g149 e135 s125 (by decide) rfl
  have e163 : n26 = G148 149 this 5 := gr_val g149 e136 s125 (by decide) rfl
  have e164 : n40 = G148 149 this 6 := gr_val g149 e137 s125 (by decide) rfl
  have e165 : n57 = G148 149 this 7 := gr_val g149 e138 s125 (by decide) rfl
  have e166 : n76 = G148 149 this 8 := gr_val g149 e139 s125 (by decide) rfl
  have e167 : n97 = G148 149 this 9 := gr_val g149 e140 s125 (by decide) rfl
  have e168 : n120 = G148 149 this 10 := gr_val g149 h144 s125 (by decide) rfl
  have a169 : ∀ j : Int, G148 121 n26 j = 0 := fun j => (gr_at g149 s128 (by decide) rfl).trans (a141 j)
  have g170 : Gr [119, 120, 121, 122, 123, 124, 125, 126, 127] [(124, -1), (149, 2), (149, 3), (149, 4), (149, 5), (149, 6), (149, 7), (149, 8), (149, 9), (149, 10), (149, 11), (149, 12), (149, 13), (149, 14), (149, 15)] S G S147 G148 := gr_call g145 g149 rfl rfl
  refine r_putFN hX hP rfl rfl fq_X9_40_149 s151 (by decide) (Or.inr n146l) (fun h171 => ?_)
  refine r_ex hX hP 2 (pc' := 81) (st' := [(0, 30), (2, this)]) (lo' := [(0, (2, this))]) rfl ?_
  have g172 : Gr [119, 120, 121, 122, 123, 124, 125, 126, 127] [(124, -1), (149, 2), (149, 3), (149, 4), (149, 5), (149, 6), (149, 7), (149, 8), (149, 9), (149, 10), (149, 11), (149, 12), (149, 13), (149, 14), (149, 15)] S G S147 (up G148 149 this 11 n146) := (gr_up g170 rfl)
  refine r_newarrA hX hP rfl (L := 126) (n := 30) al_126 (by decide) rfl rfl rfl (tbg sg2 147 rfl rfl) (by decide) (by first | decide | omega) (by first | decide | omega) (fun n173 S174 G175 n173z n173n n173l g176 n173v => ?_)
  have z177 : S n173 = 0 := gr_zero g172 n173z
  have s178 : S174 this = 149 := gr_lab g176 s151 (by decide)
  have s179 : S174 n4 = 120 := gr_lab g176 s152 (by decide)
  have s180 : S174 n14 = 119 := gr_lab g176 s153 (by decide)
  have s181 : S174 n26 = 121 := gr_lab g176 s154 (by decide)
  have s182 : S174 n40 = 119 := gr_lab g176 s155 (by decide)
  have s183 : S174 n57 = 122 := gr_lab g176 s156 (by decide)
  have s184 : S174 n76 = 123 := gr_lab g176 s157 (by decide)
  have s185 : S174 n97 = 124 := gr_lab g176 s158 (by decide)
  have s186 : S174 n120 = 124 := gr_lab g176 s159 (by decide)
  have s187 : S174 n146 = 125 := gr_lab g176 n146l (by decide)
  have e188 : (-1) = G175 149 this 2 := gr_val g176 e160 s151 (by decide) rfl
  have e189 : n4 = G175 149 this 3 := gr_val g176 e161 s151 (by decide) rfl
  have e190 : n14 = G175 149 this 4 := gr_val g176 e162 s151 (by decide) rfl
  have e191 : n26 = G175 149 this 5 := gr_val g176 e163 s151 (by decide) rfl
  have e192 : n40 = G175 149 this 6 := gr_val g176 e164 s151 (by decide) rfl
  have e193 : n57 = G175 149 this 7 := gr_val g176 e165 s151 (by decide) rfl
  have e194 : n76 = G175 149 this 8 := gr_val g176 e166 s151 (by decide) rfl
  have e195 : n97 = G175 149 this 9 := gr_val g176 e167 s151 (by decide) rfl
  have e196 : n120 = G175 149 this 10 := gr_val g176 e168 s151 (by decide) rfl
  have e197 : n146 = G175 149 this 11 := gr_val g176 h171 s151 (by decide) rfl
  have a198 : ∀ j : Int, G175 121 n26 j = 0 := fun j => (gr_at g176 s154 (by decide) rfl).trans (a169 j)
  have g199 : Gr [119, 120, 121, 122, 123, 124, 125, 126, 127] [(124, -1), (149, 2), (149, 3), (149, 4), (149, 5), (149, 6), (149, 7), (149, 8), (149, 9), (149, 10), (149, 11), (149, 12), (149, 13), (149, 14), (149, 15)] S G S174 G175 := gr_call g172 g176 rfl rfl
  refine r_putFN hX hP rfl rfl fq_X9_44_149 s178 (by decide) (Or.inr n173l) (fun h200 => ?_)
  refine r_ex hX hP 2 (pc' := 89) (st' := [(0, 30), (2, this)]) (lo' := [(0, (2, this))]) rfl ?_
  have g201 : Gr [119, 120, 121, 122, 123, 124, 125, 126, 127] [(124, -1), (149, 2), (149, 3), (149, 4), (149, 5), (149, 6), (149, 7), (149, 8), (149, 9), (149, 10), (149, 11), (149, 12), (149, 13), (149, 14), (149, 15)] S G S174 (up G175 149 this 12 n173) := (gr_up g199 rfl)
  refine r_newarrA hX hP rfl (L := 119) (n := 30) al_119 (by decide) rfl rfl rfl (tbg sg1 124 rfl rfl) (by decide) (by first | decide | omega) (by first | decide | omega) (fun n202 S203 G204 n202z n202n n202l g205 n202v => ?_)
  have z206 : S n202 = 0 := gr_zero g201 n202z
  have s207 : S203 this = 149 := gr_lab g205 s178 (by decide)
  have s208 : S203 n4 = 120 := gr_lab g205 s179 (by decide)
  have s209 : S203 n14 = 119 := gr_lab g205 s180 (by decide)
  have s210 : S203 n26 = 121 := gr_lab g205 s181 (by decide)
  have s211 : S203 n40 = 119 := gr_lab g205 s182 (by decide)
  have s212 : S203 n57 = 122 := gr_lab g205 s183 (by decide)
  have s213 : S203 n76 = 123 := gr_lab g205 s184 (by decide)
  have s214 : S203 n97 = 124 := gr_lab g205 s185 (by decide)
  have s215 : S203 n120 = 124 := gr_lab g205 s186 (by decide)
  have s216 : S203 n146 = 125 := gr_lab g205 s187 (by decide)
  have s217 : S203 n173 = 126 := gr_lab g205 n173l (by decide)
  have e218 : (-1) = G204 149 this 2 := gr_val g205 e188 s178 (by decide) rfl
  have e219 : n4 = G204 149 this 3 := gr_val g205 e189 s178 (by decide) rfl
  have e220 : n14 = G204 149 this 4 := gr_val g205 e190 s178 (by decide) rfl
  have e221 : n26 = G204 149 this 5 := gr_val g205 e191 s178 (by decide) rfl
  have e222 : n40 = G204 149 this 6 := gr_val g205 e192 s178 (by decide) rfl
  have e223 : n57 = G204 149 this 7 := gr_val g205 e193 s178 (by decide) rfl
  have e224 : n76 = G204 149 this 8 := gr_val g205 e194 s178 (by decide) rfl
  have e225 : n97 = G204 149 this 9 := gr_val g205 e195 s178 (by decide) rfl
  have e226 : n120 = G204 149 this 10 := gr_val g205 e196 s178 (by decide) rfl
  have e227 : n146 = G204 149 this 11 := gr_val g205 e197 s178 (by decide) rfl
  have e228 : n173 = G204 149 this 12 := gr_val g205 h200 s178 (by decide) rfl
  have a229 : ∀ j : Int, G204 121 n26 j = 0 := fun j => (gr_at g205 s181 (by decide) rfl).trans (a198 j)
  have g230 : Gr [119, 120, 121, 122, 123, 124, 125, 126, 127] [(124, -1), (149, 2), (149, 3), (149, 4), (149, 5), (149, 6), (149, 7), (149, 8), (149, 9), (149, 10), (149, 11), (149, 12), (149, 13), (149, 14), (149, 15)] S G S203 G204 := gr_call g201 g205 rfl rfl
  refine r_putFN hX hP rfl rfl fq_X9_48_149 s207 (by decide) (Or.inr n202l) (fun h231 => ?_)
  refine r_ex hX hP 2 (pc' := 97) (st' := [(0, 30), (2, this)]) (lo' := [(0, (2, this))]) rfl ?_
  have g232 : Gr [119, 120, 121, 122, 123, 124, 125, 126, 127] [(124, -1), (149, 2), (149, 3), (149, 4), (149, 5), (149, 6), (149, 7), (149, 8), (149, 9), (149, 10), (149, 11), (149, 12), (149, 13), (149, 14), (149, 15)] S G S203 (up G204 149 this 13 n202) := (gr_up g230 rfl)
  refine r_newarrA hX hP rfl (L := 127) (n := 30) al_127 (by decide) rfl rfl rfl (tbg sg1 123 rfl rfl) (by decide) (by first | decide | omega) (by first | decide | omega) (fun n233 S234 G235 n233z n233n n233l g236 n233v => ?_)
  have z237 : S n233 = 0 := gr_zero g232 n233z
  have s238 : S234 this = 149 := gr_lab g236 s207 (by decide)
  have s239 : S234 n4 = 120 := gr_lab g236 s208 (by decide)
  have s240 : S234 n14 = 119 := gr_lab g236 s209 (by decide)
  have s241 : S234 n26 = 121 := gr_lab g236 s210 (by decide)
  have s242 : S234 n40 = 119 := gr_lab g236 s211 (by decide)
  have s243 : S234 n57 = 122 := gr_lab g236 s212 (by decide)
  have s244 : S234 n76 = 123 := gr_lab g236 s213 (by decide)
  have s245 : S234 n97 = 124 := gr_lab g236 s214 (by decide)
  have s246 : S234 n120 = 124 := gr_lab g236 s215 (by decide)
  have s247 : S234 n146 = 125 := gr_lab g236 s216 (by decide)
  have s248 : S234 n173 = 126 := gr_lab g236 s217 (by decide)
  have s249 : S234 n202 = 119 := gr_lab g236 n202l (by decide)
  have e250 : (-1) = G235 149 this 2 := gr_val g236 e218 s207 (by decide) rfl
  have e251 : n4 = G235 149 this 3 := gr_val g236 e219 s207 (by decide) rfl
  have e252 : n14 = G235 149 this 4 := gr_val g236 e220 s207 (by decide) rfl
  have e253 : n26 = G235 149 this 5 := gr_val g236 e221 s207 (by decide) rfl
  have e254 : n40 = G235 149 this 6 := gr_val g236 e222 s207 (by decide) rfl
  have e255 : n57 = G235 149 this 7 := gr_val g236 e223 s207 (by decide) rfl
  have e256 : n76 = G235 149 this 8 := gr_val g236 e224 s207 (by decide) rfl
  have e257 : n97 = G235 149 this 9 := gr_val g236 e225 s207 (by decide) rfl
  have e258 : n120 = G235 149 this 10 := gr_val g236 e226 s207 (by decide) rfl
  have e259 : n146 = G235 149 this 11 := gr_val g236 e227 s207 (by decide) rfl
  have e260 : n173 = G235 149 this 12 := gr_val g236 e228 s207 (by decide) rfl
  have e261 : n202 = G235 149 this 13 := gr_val g236 h231 s207 (by decide) rfl
  have a262 : ∀ j : Int, G235 121 n26 j = 0 := fun j => (gr_at g236 s210 (by decide) rfl).trans (a229 j)
  have g263 : Gr [119, 120, 121, 122, 123, 124, 125, 126, 127] [(124, -1), (149, 2), (149, 3), (149, 4), (149, 5), (149, 6), (149, 7), (149, 8), (149, 9), (149, 10), (149, 11), (149, 12), (149, 13), (149, 14), (149, 15)] S G S234 G235 := gr_call g232 g236 rfl rfl
  refine r_putFN hX hP rfl rfl fq_X9_51_149 s238 (by decide) (Or.inr n233l) (fun h264 => ?_)
  refine r_ex hX hP 2 (pc' := 105) (st' := [(0, 30), (2, this)]) (lo' := [(0, (2, this))]) rfl ?_
  have g265 : Gr [119, 120, 121, 122, 123, 124, 125, 126, 127] [(124, -1), (149, 2), (149, 3), (149, 4), (149, 5), (149, 6), (149, 7), (149, 8), (149, 9), (149, 10), (149, 11), (149, 12), (149, 13), (149, 14), (149, 15)] S G S234 (up G235 149 this 14 n233) := (gr_up g263 rfl)
  refine r_newarrA hX hP rfl (L := 127) (n := 30) al_127 (by decide) rfl rfl rfl (tbg sg1 123 rfl rfl) (by decide) (by first | decide | omega) (by first | decide | omega) (fun n266 S267 G268 n266z n266n n266l g269 n266v => ?_)
  have z270 : S n266 = 0 := gr_zero g265 n266z
  have s271 : S267 this = 149 := gr_lab g269 s238 (by decide)
  have s272 : S267 n4 = 120 := gr_lab g269 s239 (by decide)
  have s273 : S267 n14 = 119 := gr_lab g269 s240 (by decide)
  have s274 : S267 n26 = 121 := gr_lab g269 s241 (by decide)
  have s275 : S267 n40 = 119 := gr_lab g269 s242 (by decide)
  have s276 : S267 n57 = 122 := gr_lab g269 s243 (by decide)
  have s277 : S267 n76 = 123 := gr_lab g269 s244 (by decide)
  have s278 : S267 n97 = 124 := gr_lab g269 s245 (by decide)
  have s279 : S267 n120 = 124 := gr_lab g269 s246 (by decide)
  have s280 : S267 n146 = 125 := gr_lab g269 s247 (by decide)
  have s281 : S267 n173 = 126 := gr_lab g269 s248 (by decide)
  have s282 : S267 n202 = 119 := gr_lab g269 s249 (by decide)
  have s283 : S267 n233 = 127 := gr_lab g269 n233l (by decide)
  have e284 : (-1) = G268 149 this 2 := gr_val g269 e250 s238 (by decide) rfl
  have e285 : n4 = G268 149 this 3 := gr_val g269 e251 s238 (by decide) rfl
  have e286 : n14 = G268 149 this 4 := gr_val g269 e252 s238 (by decide) rfl
  have e287 : n26 = G268 149 this 5 := gr_val g269 e253 s238 (by decide) rfl
  have e288 : n40 = G268 149 this 6 := gr_val g269 e254 s238 (by decide) rfl
  have e289 : n57 = G268 149 this 7 := gr_val g269 e255 s238 (by decide) rfl
  have e290 : n76 = G268 149 this 8 := gr_val g269 e256 s238 (by decide) rfl
  have e291 : n97 = G268 149 this 9 := gr_val g269 e257 s238 (by decide) rfl
  have e292 : n120 = G268 149 this 10 := gr_val g269 e258 s238 (by decide) rfl
  have e293 : n146 = G268 149 this 11 := gr_val g269 e259 s238 (by decide) rfl
  have e294 : n173 = G268 149 this 12 := gr_val g269 e260 s238 (by decide) rfl
  have e295 : n202 = G268 149 this 13 := gr_val g269 e261 s238 (by decide) rfl
  have e296 : n233 = G268 149 this 14 := gr_val g269 h264 s238 (by decide) rfl
  have a297 : ∀ j : Int, G268 121 n26 j = 0 := fun j => (gr_at g269 s241 (by decide) rfl).trans (a262 j)
  have g298 : Gr [119, 120, 121, 122, 123, 124, 125, 126, 127] [(124, -1), (149, 2), (149, 3), (149, 4), (149, 5), (149, 6), (149, 7), (149, 8), (149, 9), (149, 10), (149, 11), (149, 12), (149, 13), (149, 14), (149, 15)] S G S267 G268 := gr_call g265 g269 rfl rfl
  refine r_putFN hX hP rfl rfl fq_X9_54_149 s271 (by decide) (Or.inr n266l) (fun h299 => ?_)
  refine r_ex hX hP 1 (pc' := 111) (st' := [(2, this)]) (lo' := [(0, (2, this))]) rfl ?_
  refine r_getKN hX hP rfl fl_X9_34_149 s271 (x := n97) e291 ?_
  refine r_ex hX hP 1 (pc' := 115) (st' := [(0, (-1)), (2, n97)]) (lo' := [(0, (2, this))]) rfl ?_
  refine r_callS gd hX hP rfl cs_X9_57 (d' := 0) (mc' := 0) (ms' := 0) (as' := [(2, n97), (0, (-1))]) (st := []) (by first | decide | omega) (by first | decide | omega) (by first | decide | omega) rfl rfl (Nat.le_of_ble_eq_true rfl) (c_fillX E S267 (up G268 149 this 15 n266) n97 (-1) s278 (by first | decide | omega) (by first | decide | omega)) ?_
  rintro _ _ _ ⟨rfl, ⟨G300, rfl⟩, rfl, f301, f302⟩
  refine r_ex hX hP 1 (pc' := 119) (st' := [(2, this)]) (lo' := [(0, (2, this))]) rfl ?_
  refine r_getKN hX hP rfl fl_X9_37_149 s271 (x := n120) e292 ?_
  refine r_ex hX hP 1 (pc' := 123) (st' := [(0, (-1)), (2, n120)]) (lo' := [(0, (2, this))]) rfl ?_
  refine r_callS gd hX hP rfl cs_X9_57 (d' := 0) (mc' := 0) (ms' := 0) (as' := [(2, n120), (0, (-1))]) (st := []) (by first | decide | omega) (by first | decide | omega) (by first | decide | omega) rfl rfl (Nat.le_of_ble_eq_true rfl) (c_fillX E S267 (hw [(124, -1)] (up G268 149 this 15 n266) G300) n120 (-1) s279 (by first | decide | omega) (by first | decide | omega)) ?_
  rintro _ _ _ ⟨rfl, ⟨G303, rfl⟩, rfl, f304, f305⟩
  refine r_finA hX (L := 149) (ci := 10) (fs := fs_149) rfl s271 (by decide) (fun hr306 => ?_)
  have hf307 : Fnl E fs_136 149 S267 (hw [(124, -1)] (hw [(124, -1)] (up G268 149 this 15 n266) G300) G303) this := by
    intro j hj
    rcases (by have : j < 16 := hj; omega : j = 0 ∨ j = 1 ∨ j = 2 ∨ j = 3 ∨ j = 4 ∨ j = 5 ∨ j = 6 ∨ j = 7 ∨ j = 8 ∨ j = 9 ∨ j = 10 ∨ j = 11 ∨ j = 12 ∨ j = 13 ∨ j = 14 ∨ j = 15) with rfl | rfl | rfl | rfl | rfl | rfl | rfl | rfl | rfl | rfl | rfl | rfl | rfl | rfl | rfl | rfl
    · exact hr306 0 (by decide)
    · exact hr306 1 (by decide)
    · exact hr306 2 (by decide)
    · exact ⟨lab_of e285 s272, by decide⟩
    · exact ⟨lab_of e286 s273, by decide⟩
    · exact ⟨lab_of e287 s274, by decide⟩
    · exact ⟨lab_of e288 s275, by decide⟩
    · exact ⟨lab_of e289 s276, by decide⟩
    · exact ⟨lab_of e290 s277, by decide⟩
    · exact ⟨lab_of e291 s278, by decide⟩
    · exact ⟨lab_of e292 s279, by decide⟩
    · exact ⟨lab_of e293 s280, by decide⟩
    · exact ⟨lab_of e294 s281, by decide⟩
    · exact ⟨lab_of e295 s282, by decide⟩
    · exact ⟨lab_of e296 s283, by decide⟩
    · exact ⟨lab_of h299 n266l, by decide⟩
  have g308 : Gr [119, 120, 121, 122, 123, 124, 125, 126, 127] [(124, -1), (149, 2), (149, 3), (149, 4), (149, 5), (149, 6), (149, 7), (149, 8), (149, 9), (149, 10), (149, 11), (149, 12), (149, 13), (149, 14), (149, 15)] S G S267 (hw [(124, -1)] (hw [(124, -1)] (up G268 149 this 15 n266) G300) G303) := (gr_hw (gr_hw (gr_up g298 rfl) rfl) rfl)
  exact r_retV hX hP rfl rfl (by first | decide | omega) (by first | decide | omega) ⟨g308, rfl, (-1), e284, (by first | decide | omega), (lab_of e285 z8), (lab_of e287 z30), (all_of e287 a297), (fun e => ne143 ((e292.trans e.symm).trans e291.symm)), (fun j h0 h1 => (congrArg (fun x : Int => (hw [(124, -1)] (hw [(124, -1)] (up G268 149 this 15 n266) G300) G303) 124 x j) e291.symm).trans ((f305 n97 j (fun e => ne143 e.symm)).trans (f301 j h0 h1))), hf307⟩
