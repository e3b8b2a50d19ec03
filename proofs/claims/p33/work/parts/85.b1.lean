theorem new_txt {E : En} {nl : List Int} {ws : List (Int × Int)} {S1 S2 : Sg} {G1 G2 : Gh} {x : Int} (g : Gr nl ws S1 G1 S2 G2) (tk : TKP S1 G1) (c1 : nl.contains 136 = false) (c2 : inm ws 136 3 = false) (c3 : inm ws 136 5 = false) (z3 : S1 (G2 149 x 3) = 0) (z5 : S1 (G2 149 x 5) = 0) (a0 : ∀ j : Int, G2 121 (G2 149 x 5) j = 0) (fn : Fnl E fs_136 149 S2 G2 x) : (S2 (G2 149 x 3) = 120 ∧ S2 (G2 149 x 5) = 121) ∧ (∀ i : Int, 0 ≤ i → i < 30 → (G2 120 (G2 149 x 3) i = 0 ∨ G2 120 (G2 149 x 3) i = 4) → 0 ≤ G2 121 (G2 149 x 5) i ∧ G2 121 (G2 149 x 5) i ≤ 19) ∧ ∀ u : Int, S2 u = 136 → G2 149 x 3 ≠ G2 136 u 3 ∧ G2 149 x 5 ≠ G2 136 u 5 := by
  refine ⟨⟨(fn 3 (by decide)).1, (fn 5 (by decide)).1⟩, fun i _ _ _ => by rw [a0 i]; decide, fun u hu => ?_⟩
  have hu1 := gr_back g hu (by decide) c1
  have t := tk u hu1
  rw [gr_at g hu1 (by decide) c2, gr_at g hu1 (by decide) c3]
  refine ⟨fun e => ?_, fun e => ?_⟩
  · rw [← e, z3] at t
    exact absurd t.1 (by decide)
  · rw [← e, z5] at t
    exact absurd t.2 (by decide)
theorem co_X9_clear : Co mX9_clear 0 := ⟨(tbg sg4 26 rfl rfl), (tbg sg1 17 rfl rfl), by decide, by decide, by decide +kernel, by decide⟩
theorem cv_X6_61_136 : Cv RX6 61 mX9_clear 136 0 := ⟨co_X9_clear, (tbg sg4 23 rfl rfl), (tbg sg4 24 rfl rfl), 10, 16, fs_136, RX9, TX9, rfl, by decide, rfl, (tbg sg4 25 rfl rfl)⟩
theorem fp_X6_64_131 : Fp RX6 64 131 4 (0, 0, 400) := ⟨fl_X6_64_131, 7, 17, fs_131, RX6, TX6, .int, rfl, rfl, rfl, by decide +kernel, fun E S x h => ⟨rfl, rfl⟩⟩
theorem nw_X6_58_149 : Nw RX6 58 149 16 := ⟨10, fs_149, RX9, TX9, tyX9, rfl, rfl, by decide, rfl, tbs [856, 858, 860, 862, 864, 866, 868, 870, 872, 874, 876, 878, 880, 882, 884, 886] (by decide +kernel), tyX9_ok, (tbg sg3 160 rfl rfl), (tbg sg3 161 rfl rfl), (tbg sg1 17 rfl rfl), by decide⟩
theorem co_X9_init : Co mX9_init 0 := ⟨(tbg sg3 164 rfl rfl), (tbg sg1 17 rfl rfl), by decide, by decide, by decide +kernel, by decide⟩
theorem ci_X6_60 : Ci RX6 60 mX9_init 0 := ⟨co_X9_init, (tbg sg3 162 rfl rfl), rfl, (tbg sg3 163 rfl rfl), rfl⟩
theorem nf_149 : norf 149 = true := by decide +kernel
theorem fp_X6_54_131 : Fp RX6 54 131 9 (3, 136, 0) := ⟨fl_X6_54_131, 7, 17, fs_131, RX6, TX6, (.object "ShareLife$Text"), rfl, rfl, rfl, by decide +kernel, fun E S x h => reffit (fun _ => rfl) ⟨rfl, fun _ => rfl⟩ (by decide) x⟩
theorem co_X6_begin : Co mX6_begin 1 := ⟨(tbg sg3 159 rfl rfl), (tbg sg1 8 rfl rfl), by decide, by decide, by decide +kernel, by decide⟩
theorem cv_X6_34_131 : Cv RX6 34 mX6_begin 131 1 := ⟨co_X6_begin, (tbg sg3 156 rfl rfl), (tbg sg3 158 rfl rfl), 7, 17, fs_131, RX6, TX6, rfl, by decide, rfl, (tbm 6 (by decide +kernel) rfl)⟩
theorem co_X6_clause : Co mX6_clause 0 := ⟨(tbg sg4 115 rfl rfl), (tbg sg1 8 rfl rfl), by decide, by decide, by decide +kernel, by decide⟩
theorem cv_X6_51_131 : Cv RX6 51 mX6_clause 131 0 := ⟨co_X6_clause, (tbg sg4 112 rfl rfl), (tbg sg4 114 rfl rfl), 7, 17, fs_131, RX6, TX6, rfl, by decide, rfl, (tbm 16 (by decide +kernel) rfl)⟩
theorem co_X6_close : Co mX6_close 0 := ⟨(tbg sg4 46 rfl rfl), (tbg sg1 8 rfl rfl), by decide, by decide, by decide +kernel, by decide⟩
theorem cv_X6_48_131 : Cv RX6 48 mX6_close 131 0 := ⟨co_X6_close, (tbg sg4 43 rfl rfl), (tbg sg4 45 rfl rfl), 7, 17, fs_131, RX6, TX6, rfl, by decide, rfl, (tbm 11 (by decide +kernel) rfl)⟩
set_option maxRecDepth 100000 in
set_option maxHeartbeats 4000000 in
theorem c_clear0 (E : En) (S : Sg) (G : Gh) (this : Int) (hS : S this = 136) : Calls E mX9_clear [(2, this)] S G 1 0 0 (fun r S' G' => S = S' ∧ (∃ G1, hw [(124, -1), (136, 0), (136, 1), (136, 2)] G G1 = G') ∧ r = none ∧ ∃ s1 : Int, s1 = G' 136 this 0 ∧ s1 = 0) := by
  refine calls_by [(0, (2, this))] rfl rfl (Nat.le_of_ble_eq_true rfl) (fun X hX => ?_)
  have hP := hPX9_clear
  refine r_ex hX hP 2 (pc' := 2) (st' := [(0, 0), (2, this)]) (lo' := [(0, (2, this))]) rfl ?_
  refine r_putIK hX hP rfl fp_X9_63_136 hS (by omega) (by omega) (fun h1 => ?_)
  refine r_ex hX hP 2 (pc' := 7) (st' := [(0, 0), (2, this)]) (lo' := [(0, (2, this))]) rfl ?_
  refine r_putIK hX hP rfl fp_X9_66_136 hS (by omega) (by omega) (fun h2 => ?_)
  refine r_ex hX hP 2 (pc' := 12) (st' := [(0, (-1)), (2, this)]) (lo' := [(0, (2, this))]) rfl ?_
  refine r_putIK hX hP rfl fp_X9_9_136 hS (by omega) (by omega) (fun h3 => ?_)
  refine r_ex hX hP 1 (pc' := 16) (st' := [(2, this)]) (lo' := [(0, (2, this))]) rfl ?_
  refine r_getR hX hP rfl fl_X9_34_136 hS (fun mf4 mf4e mf4s => ?_)
  refine r_ex hX hP 1 (pc' := 20) (st' := [(0, (-1)), (2, mf4)]) (lo' := [(0, (2, this))]) rfl ?_
  refine r_callS gd hX hP rfl cs_X9_57 (d' := 0) (mc' := 0) (ms' := 0) (as' := [(2, mf4), (0, (-1))]) (st := []) (by omega) (by omega) (by omega) rfl rfl (Nat.le_of_ble_eq_true rfl) (c_fillI_I3 E S (up (up (up G 136 this 0 0) 136 this 1 0) 136 this 2 (-1)) mf4 (-1) mf4s (by omega) (by omega)) ?_
  rintro _ _ _ ⟨rfl, ⟨G5, rfl⟩, rfl, -⟩
  refine r_ex hX hP 1 (pc' := 24) (st' := [(2, this)]) (lo' := [(0, (2, this))]) rfl ?_
  refine r_getR hX hP rfl fl_X9_37_136 hS (fun sf6 sf6e sf6s => ?_)
  refine r_ex hX hP 1 (pc' := 28) (st' := [(0, (-1)), (2, sf6)]) (lo' := [(0, (2, this))]) rfl ?_
  refine r_callS gd hX hP rfl cs_X9_57 (d' := 0) (mc' := 0) (ms' := 0) (as' := [(2, sf6), (0, (-1))]) (st := []) (by omega) (by omega) (by omega) rfl rfl (Nat.le_of_ble_eq_true rfl) (c_fillI_I3 E S (hw [(124, -1)] (up (up (up G 136 this 0 0) 136 this 1 0) 136 this 2 (-1)) G5) sf6 (-1) sf6s (by omega) (by omega)) ?_
  rintro _ _ _ ⟨rfl, ⟨G7, rfl⟩, rfl, -⟩
  exact r_retV hX hP rfl rfl (by omega) (by omega) ⟨rfl, ⟨_, (hw_sub (hw_sub (hw_up (hw_up (hw_up (hw_refl _ _) rfl) rfl) rfl) rfl) rfl).symm⟩, rfl, 0, h1, (by omega)⟩
set_option maxRecDepth 100000 in
set_option maxHeartbeats 4000000 in
theorem c_X6_begin (E : En) (S : Sg) (G : Gh) (this : Int) (n : Int) (hS : S this = 131) (n_a : 0 ≤ n) (n_b : n ≤ 400) (ci : CI E S G) : Calls E mX6_begin [(2, this), (0, n)] S G 4 14 326 (fun r S' G' => Gr [119, 120, 121, 122, 123, 124, 125, 126, 127, 136, 149] [(124, -1), (131, 1), (131, 2), (131, 4), (131, 5), (131, 6), (131, 7), (131, 8), (131, 9), (131, 10), (131, 11), (131, 13), (131, 14), (136, 0), (136, 1), (136, 2), (149, 2), (149, 3), (149, 4), (149, 5), (149, 6), (149, 7), (149, 8), (149, 9), (149, 10), (149, 11), (149, 12), (149, 13), (149, 14), (149, 15)] S G S' G' ∧ r = none ∧ CI E S' G' ∧ (∃ tx : Int, tx = G' 131 this 9 ∧ S' tx = 136 ∧ G' 136 tx 0 = 0 ∧ G' 131 this 10 = 0)) := by
  refine calls_by [(0, (2, this)), (1, (0, n))] rfl rfl (Nat.le_of_ble_eq_true rfl) (fun X hX => ?_)
  have hP := hPX6_begin
  refine r_ex hX hP 1 (pc' := 1) (st' := [(2, this)]) (lo' := [(0, (2, this)), (1, (0, n))]) rfl ?_
  refine r_getN hX hP rfl fl_X6_54_131 hS (fun tf1 tf1e tf1s => ?_)
  refine r_ifnn hX hP rfl (tgt := 21) rfl (fun c2 => ?_) (fun c2 => ?_)
  · skip
    have s3 := nul_lab tf1s c2
    refine r_ex hX hP 1 (pc' := 22) (st' := [(2, this)]) (lo' := [(0, (2, this)), (1, (0, n))]) rfl ?_
    refine r_getKN hX hP rfl fl_X6_54_131 hS (x := tf1) tf1e ?_
    refine r_callV gd hX hP rfl cv_X6_61_136 s3 (d' := 1) (mc' := 0) (ms' := 0) (as' := []) (st := []) (by omega) (by omega) (by omega) rfl rfl (Nat.le_of_ble_eq_true rfl) (c_clear0 E S G tf1  s3) ?_
    rintro _ _ _ ⟨rfl, ⟨G4, rfl⟩, rfl, sih5, sih5e, f6⟩
    refine r_peekI hX (tl_136 0 rfl (by decide)) s3 (fun o7 o7e o7a o7b => ?_)
    obtain rfl : sih5 = o7 := sih5e.trans o7e.symm
    refine r_ex hX hP 2 (pc' := 30) (st' := [(0, 0), (2, this)]) (lo' := [(0, (2, this)), (1, (0, n))]) rfl ?_
    refine r_putIK hX hP rfl fp_X6_9_131 hS (by omega) (by omega) (fun h8 => ?_)
    refine r_ex hX hP 2 (pc' := 35) (st' := [(0, (-1)), (2, this)]) (lo' := [(0, (2, this)), (1, (0, n))]) rfl ?_
    refine r_putIK hX hP rfl fp_X6_15_131 hS (by omega) (by omega) (fun h9 => ?_)
    refine r_ex hX hP 2 (pc' := 40) (st' := [(0, n), (2, this)]) (lo' := [(0, (2, this)), (1, (0, n))]) rfl ?_
    refine r_putIK hX hP rfl fp_X6_64_131 hS (by omega) (by omega) (fun h10 => ?_)
    refine r_ex hX hP 2 (pc' := 45) (st' := [(0, 0), (2, this)]) (lo' := [(0, (2, this)), (1, (0, n))]) rfl ?_
    refine r_putIK hX hP rfl fp_X6_67_131 hS (by omega) (by omega) (fun h11 => ?_)
    refine r_ex hX hP 2 (pc' := 50) (st' := [(0, 0), (2, this)]) (lo' := [(0, (2, this)), (1, (0, n))]) rfl ?_
    refine r_putIK hX hP rfl fp_X6_70_131 hS (by omega) (by omega) (fun h12 => ?_)
    refine r_ex hX hP 2 (pc' := 55) (st' := [(0, 0), (2, this)]) (lo' := [(0, (2, this)), (1, (0, n))]) rfl ?_
    refine r_putIK hX hP rfl fp_X6_41_131 hS (by omega) (by omega) (fun h13 => ?_)
    refine r_ex hX hP 2 (pc' := 60) (st' := [(0, 0), (2, this)]) (lo' := [(0, (2, this)), (1, (0, n))]) rfl ?_
    refine r_putIK hX hP rfl fp_X6_73_131 hS (by omega) (by omega) (fun h14 => ?_)
    refine r_ex hX hP 2 (pc' := 65) (st' := [(0, 0), (2, this)]) (lo' := [(0, (2, this)), (1, (0, n))]) rfl ?_
    refine r_putIK hX hP rfl fp_X6_77_131 hS (by omega) (by omega) (fun h15 => ?_)
    refine r_ex hX hP 1 (pc' := 69) (st' := [(2, this)]) (lo' := [(0, (2, this)), (1, (0, n))]) rfl ?_
    refine r_callV gd hX hP rfl cv_X6_80_131 hS (d' := 1) (mc' := 0) (ms' := 0) (as' := []) (st := []) (by omega) (by omega) (by omega) rfl rfl (Nat.le_of_ble_eq_true rfl) (c_X6_advance E S (up (up (up (up (up (up (up (up (hw [(124, -1), (136, 0), (136, 1), (136, 2)] G G4) 131 this 1 0) 131 this 2 (-1)) 131 this 4 n) 131 this 5 0) 131 this 10 0) 131 this 11 0) 131 this 13 0) 131 this 14 0) this  hS) ?_
    rintro _ _ _ ⟨rfl, ⟨G16, rfl⟩, rfl, -⟩
    have g17 : Gr [119, 120, 121, 122, 123, 124, 125, 126, 127, 136, 149] [(124, -1), (131, 1), (131, 2), (131, 4), (131, 5), (131, 6), (131, 7), (131, 8), (131, 9), (131, 10), (131, 11), (131, 13), (131, 14), (136, 0), (136, 1), (136, 2), (149, 2), (149, 3), (149, 4), (149, 5), (149, 6), (149, 7), (149, 8), (149, 9), (149, 10), (149, 11), (149, 12), (149, 13), (149, 14), (149, 15)] S G S (hw [(131, 5), (131, 6), (131, 7), (131, 8)] (up (up (up (up (up (up (up (up (hw [(124, -1), (136, 0), (136, 1), (136, 2)] G G4) 131 this 1 0) 131 this 2 (-1)) 131 this 4 n) 131 this 5 0) 131 this 10 0) 131 this 11 0) 131 this 13 0) 131 this 14 0) G16) := (gr_hw (gr_up (gr_up (gr_up (gr_up (gr_up (gr_up (gr_up (gr_up (gr_hw (gr_refl [119, 120, 121, 122, 123, 124, 125, 126, 127, 136, 149] [(124, -1), (131, 1), (131, 2), (131, 4), (131, 5), (131, 6), (131, 7), (131, 8), (131, 9), (131, 10), (131, 11), (131, 13), (131, 14), (136, 0), (136, 1), (136, 2), (149, 2), (149, 3), (149, 4), (149, 5), (149, 6), (149, 7), (149, 8), (149, 9), (149, 10), (149, 11), (149, 12), (149, 13), (149, 14), (149, 15)] S G) rfl) rfl) rfl) rfl) rfl) rfl) rfl) rfl) rfl) rfl)
    have ci18 : CI E S (hw [(131, 5), (131, 6), (131, 7), (131, 8)] (up (up (up (up (up (up (up (up (hw [(124, -1), (136, 0), (136, 1), (136, 2)] G G4) 131 this 1 0) 131 this 2 (-1)) 131 this 4 n) 131 this 5 0) 131 this 10 0) 131 this 11 0) 131 this 13 0) 131 this 14 0) G16) := (ci_hw (ci_up (ci_up (ci_up (ci_up (ci_up (ci_up (ci_up (ci_up (ci_hw ci rfl) rfl) rfl) rfl) rfl) rfl) rfl) rfl) rfl) rfl)
    exact r_retV hX hP rfl rfl (by omega) (by omega) ⟨g17, rfl, ci18, ⟨tf1, tf1e, s3, (Eq.trans (Eq.symm sih5e) (by omega : (sih5 : Int) = 0)), (Eq.trans (Eq.symm h12) (by omega : (0 : Int) = 0))⟩⟩
  · skip
    refine r_ex hX hP 1 (pc' := 8) (st' := [(2, this)]) (lo' := [(0, (2, this)), (1, (0, n))]) rfl ?_
    refine r_tk hX (fun tk19 => ?_)
    refine r_newA hX hP rfl (L := 149) (N := 16) nw_X6_58_149 (by omega) (by omega) (fun n20 S21 G22 n20z n20n n20l g23 n20v => ?_)
    have z24 : S n20 = 0 := gr_zero (gr_refl [119, 120, 121, 122, 123, 124, 125, 126, 127, 136, 149] [(124, -1), (131, 1), (131, 2), (131, 4), (131, 5), (131, 6), (131, 7), (131, 8), (131, 9), (131, 10), (131, 11), (131, 13), (131, 14), (136, 0), (136, 1), (136, 2), (149, 2), (149, 3), (149, 4), (149, 5), (149, 6), (149, 7), (149, 8), (149, 9), (149, 10), (149, 11), (149, 12), (149, 13), (149, 14), (149, 15)] S G) n20z
    have s25 : S21 this = 131 := gr_lab g23 hS (by decide)
    have e26 : tf1 = G22 131 this 9 := gr_val g23 tf1e hS (by decide) rfl
    have g27 : Gr [119, 120, 121, 122, 123, 124, 125, 126, 127, 136, 149] [(124, -1), (131, 1), (131, 2), (131, 4), (131, 5), (131, 6), (131, 7), (131, 8), (131, 9), (131, 10), (131, 11), (131, 13), (131, 14), (136, 0), (136, 1), (136, 2), (149, 2), (149, 3), (149, 4), (149, 5), (149, 6), (149, 7), (149, 8), (149, 9), (149, 10), (149, 11), (149, 12), (149, 13), (149, 14), (149, 15)] S G S21 G22 := gr_call (gr_refl [119, 120, 121, 122, 123, 124, 125, 126, 127, 136, 149] [(124, -1), (131, 1), (131, 2), (131, 4), (131, 5), (131, 6), (131, 7), (131, 8), (131, 9), (131, 10), (131, 11), (131, 13), (131, 14), (136, 0), (136, 1), (136, 2), (149, 2), (149, 3), (149, 4), (149, 5), (149, 6), (149, 7), (149, 8), (149, 9), (149, 10), (149, 11), (149, 12), (149, 13), (149, 14), (149, 15)] S G) g23 rfl rfl
    have ci28 : CI E S21 G22 := ci_gr ci tk19 g23 rfl rfl
    have e29 : 0 = G22 149 n20 0 := (n20v 0).symm
    refine r_ex hX hP 1 (pc' := 12) (st' := [(2, n20), (2, n20), (2, this)]) (lo' := [(0, (2, this)), (1, (0, n))]) rfl ?_
    refine r_tk hX (fun tk30 => ?_)
    refine r_callI gd hX hP rfl ci_X6_60 n20n (d' := 3) (mc' := 13) (ms' := 310) (as' := []) (st := [(2, n20), (2, this)]) (by omega) (by omega) (by omega) rfl rfl (Nat.le_of_ble_eq_true rfl) (c_X9_init E S21 G22 n20  n20l) ?_
    rintro _ S31 G32 ⟨g33, rfl, q34, q35, q36, hf37⟩
    have s38 : S31 this = 131 := gr_lab g33 s25 (by decide)
    have s39 : S31 n20 = 149 := gr_lab g33 n20l (by decide)
    have e40 : tf1 = G32 131 this 9 := gr_val g33 e26 s25 (by decide) rfl
    have e41 : 0 = G32 149 n20 0 := gr_val g33 e29 n20l (by decide) rfl
    have g42 : Gr [119, 120, 121, 122, 123, 124, 125, 126, 127, 136, 149] [(124, -1), (131, 1), (131, 2), (131, 4), (131, 5), (131, 6), (131, 7), (131, 8), (131, 9), (131, 10), (131, 11), (131, 13), (131, 14), (136, 0), (136, 1), (136, 2), (149, 2), (149, 3), (149, 4), (149, 5), (149, 6), (149, 7), (149, 8), (149, 9), (149, 10), (149, 11), (149, 12), (149, 13), (149, 14), (149, 15)] S G S31 G32 := gr_call g27 g33 rfl rfl
    have ci43 : CI E S31 G32 := ci_gr ci28 tk30 g33 rfl rfl
    refine r_finA hX (L := 149) (ci := 10) (fs := fs_149) rfl s39 (by decide) (fun hr44 => ?_)
    refine r_tk hX (fun tk46 => ?_)
    refine r_relabF hX (L := 149) (L' := 136) (ci := 10) (fs := fs_149) (fs' := fs_136) rfl rfl rfl (by decide) (by decide) nf_149 (by decide) s39 hf37 (fun S48 G49 r47 => ?_)
    have s51 : S48 this = 131 := r47.lab s39 s38 (by decide)
    have e52 : tf1 = G49 131 this 9 := rs_val r47 s39 e40 s38 (by decide)
    have e53 : 0 = G49 136 n20 0 := e41.trans (r47.2.2.1 0).symm
    have g54 : Gr [119, 120, 121, 122, 123, 124, 125, 126, 127, 136, 149] [(124, -1), (131, 1), (131, 2), (131, 4), (131, 5), (131, 6), (131, 7), (131, 8), (131, 9), (131, 10), (131, 11), (131, 13), (131, 14), (136, 0), (136, 1), (136, 2), (149, 2), (149, 3), (149, 4), (149, 5), (149, 6), (149, 7), (149, 8), (149, 9), (149, 10), (149, 11), (149, 12), (149, 13), (149, 14), (149, 15)] S G S48 G49 := gr_rs g42 r47 z24 rfl
    have ci55 : CI E S48 G49 := ci_rs ci43 tk46 r47 s39 rfl rfl (fun _ => new_txt g33 tk30 rfl rfl rfl q34 q35 q36 hf37) (fun e => absurd e (by decide))
    refine r_putNK hX hP rfl fp_X6_54_131 s51 (by decide) (Or.inr r47.1) (fun h56 => ?_)
    refine r_ex hX hP 3 (pc' := 30) (st' := [(0, 0), (2, this)]) (lo' := [(0, (2, this)), (1, (0, n))]) rfl ?_
    refine r_putIK hX hP rfl fp_X6_9_131 s51 (by omega) (by omega) (fun h57 => ?_)
    refine r_ex hX hP 2 (pc' := 35) (st' := [(0, (-1)), (2, this)]) (lo' := [(0, (2, this)), (1, (0, n))]) rfl ?_
    refine r_putIK hX hP rfl fp_X6_15_131 s51 (by omega) (by omega) (fun h58 => ?_)
    refine r_ex hX hP 2 (pc' := 40) (st' := [(0, n), (2, this)]) (lo' := [(0, (2, this)), (1, (0, n))]) rfl ?_
    refine r_putIK hX hP rfl fp_X6_64_131 s51 (by omega) (by omega) (fun h59 => ?_)
    refine r_ex hX hP 2 (pc' := 45) (st' := [(0, 0), (2, this)]) (lo' := [(0, (2, this)), (1, (0, n))]) rfl ?_
    refine r_putIK hX hP rfl fp_X6_67_131 s51 (by omega) (by omega) (fun h60 => ?_)
    refine r_ex hX hP 2 (pc' := 50) (st' := [(0, 0), (2, this)]) (lo' := [(0, (2, this)), (1, (0, n))]) rfl ?_
    refine r_putIK hX hP rfl fp_X6_70_131 s51 (by omega) (by omega) (fun h61 => ?_)
    refine r_ex hX hP 2 (pc' := 55) (st' := [(0, 0), (2, this)]) (lo' := [(0, (2, this)), (1, (0, n))]) rfl ?_
    refine r_putIK hX hP rfl fp_X6_41_131 s51 (by omega) (by omega) (fun h62 => ?_)
    refine r_ex hX hP 2 (pc' := 60) (st' := [(0, 0), (2, this)]) (lo' := [(0, (2, this)), (1, (0, n))]) rfl ?_
    refine r_putIK hX hP rfl fp_X6_73_131 s51 (by omega) (by omega) (fun h63 => ?_)
    refine r_ex hX hP 2 (pc' := 65) (st' := [(0, 0), (2, this)]) (lo' := [(0, (2, this)), (1, (0, n))]) rfl ?_
    refine r_putIK hX hP rfl fp_X6_77_131 s51 (by omega) (by omega) (fun h64 => ?_)
    refine r_ex hX hP 1 (pc' := 69) (st' := [(2, this)]) (lo' := [(0, (2, this)), (1, (0, n))]) rfl ?_
    refine r_callV gd hX hP rfl cv_X6_80_131 s51 (d' := 1) (mc' := 0) (ms' := 0) (as' := []) (st := []) (by omega) (by omega) (by omega) rfl rfl (Nat.le_of_ble_eq_true rfl) (c_X6_advance E S48 (up (up (up (up (up (up (up (up (up G49 131 this 9 n20) 131 this 1 0) 131 this 2 (-1)) 131 this 4 n) 131 this 5 0) 131 this 10 0) 131 this 11 0) 131 this 13 0) 131 this 14 0) this  s51) ?_
    rintro _ _ _ ⟨rfl, ⟨G65, rfl⟩, rfl, -⟩
    have g66 : Gr [119, 120, 121, 122, 123, 124, 125, 126, 127, 136, 149] [(124, -1), (131, 1), (131, 2), (131, 4), (131, 5), (131, 6), (131, 7), (131, 8), (131, 9), (131, 10), (131, 11), (131, 13), (131, 14), (136, 0), (136, 1), (136, 2), (149, 2), (149, 3), (149, 4), (149, 5), (149, 6), (149, 7), (149, 8), (149, 9), (149, 10), (149, 11), (149, 12), (149, 13), (149, 14), (149, 15)] S G S48 (hw [(131, 5), (131, 6), (131, 7), (131, 8)] (up (up (up (up (up (up (up (up (up G49 131 this 9 n20) 131 this 1 0) 131 this 2 (-1)) 131 this 4 n) 131 this 5 0) 131 this 10 0) 131 this 11 0) 131 this 13 0) 131 this 14 0) G65) := (gr_hw (gr_up (gr_up (gr_up (gr_up (gr_up (gr_up (gr_up (gr_up (gr_up g54 rfl) rfl) rfl) rfl) rfl) rfl) rfl) rfl) rfl) rfl)
    have ci67 : CI E S48 (hw [(131, 5), (131, 6), (131, 7), (131, 8)] (up (up (up (up (up (up (up (up (up G49 131 this 9 n20) 131 this 1 0) 131 this 2 (-1)) 131 this 4 n) 131 this 5 0) 131 this 10 0) 131 this 11 0) 131 this 13 0) 131 this 14 0) G65) := (ci_hw (ci_up (ci_up (ci_up (ci_up (ci_up (ci_up (ci_up (ci_up (ci_up ci55 rfl) rfl) rfl) rfl) rfl) rfl) rfl) rfl) rfl) rfl)
    exact r_retV hX hP rfl rfl (by omega) (by omega) ⟨g66, rfl, ci67, ⟨n20, h56, r47.1, (Eq.trans (Eq.symm e53) (by omega : (0 : Int) = 0)), (Eq.trans (Eq.symm h61) (by omega : (0 : Int) = 0))⟩⟩
set_option maxRecDepth 100000 in
set_option maxHeartbeats 4000000 in
theorem c_X6_read (E : En) (S : Sg) (G : Gh) (this : Int) (n : Int) (hS : S this = 131) (n_a : 0 ≤ n) (n_b : n ≤ 400) (ci : CI E S G) : Calls E mX6_read [(2, this), (0, n)] S G 8 14 326 (fun r S' G' => Gr [119, 120, 121, 122, 123, 124, 125, 126, 127, 136, 149] [(106, -1), (107, -1), (119, -1), (120, -1), (121, -1), (122, -1), (123, -1), (124, -1), (131, 1), (131, 2), (131, 4), (131, 5), (131, 6), (131, 7), (131, 8), (131, 9), (131, 10), (131, 11), (131, 13), (131, 14), (136, 0), (136, 1), (136, 2), (149, 2), (149, 3), (149, 4), (149, 5), (149, 6), (149, 7), (149, 8), (149, 9), (149, 10), (149, 11), (149, 12), (149, 13), (149, 14), (149, 15)] S G S' G' ∧ ∃ z : Int, r = some (2, z) ∧ (z = -1 ∨ S' z = 136) ∧ CI E S' G') := by
  refine calls_by [(0, (2, this)), (1, (0, n))] rfl rfl (Nat.le_of_ble_eq_true rfl) (fun X hX => ?_)
  have hP := hPX6_read
  refine r_ex hX hP 2 (pc' := 2) (st' := [(0, n), (2, this)]) (lo' := [(0, (2, this)), (1, (0, n))]) rfl ?_
  refine r_tk hX (fun tk1 => ?_)
  refine r_callV gd hX hP rfl cv_X6_34_131 hS (d' := 4) (mc' := 14) (ms' := 326) (as' := [(0, n)]) (st := []) (by omega) (by omega) (by omega) rfl rfl (Nat.le_of_ble_eq_true rfl) (c_X6_begin E S G this n hS (by omega) (by omega) ci) ?_
  rintro _ S2 G3 ⟨g4, rfl, ci5, q6⟩
  have s7 : S2 this = 131 := gr_lab g4 hS (by decide)
  have g8 : Gr [119, 120, 121, 122, 123, 124, 125, 126, 127, 136, 149] [(106, -1), (107, -1), (119, -1), (120, -1), (121, -1), (122, -1), (123, -1), (124, -1), (131, 1), (131, 2), (131, 4), (131, 5), (131, 6), (131, 7), (131, 8), (131, 9), (131, 10), (131, 11), (131, 13), (131, 14), (136, 0), (136, 1), (136, 2), (149, 2), (149, 3), (149, 4), (149, 5), (149, 6), (149, 7), (149, 8), (149, 9), (149, 10), (149, 11), (149, 12), (149, 13), (149, 14), (149, 15)] S G S2 G3 := gr_call (gr_refl [119, 120, 121, 122, 123, 124, 125, 126, 127, 136, 149] [(106, -1), (107, -1), (119, -1), (120, -1), (121, -1), (122, -1), (123, -1), (124, -1), (131, 1), (131, 2), (131, 4), (131, 5), (131, 6), (131, 7), (131, 8), (131, 9), (131, 10), (131, 11), (131, 13), (131, 14), (136, 0), (136, 1), (136, 2), (149, 2), (149, 3), (149, 4), (149, 5), (149, 6), (149, 7), (149, 8), (149, 9), (149, 10), (149, 11), (149, 12), (149, 13), (149, 14), (149, 15)] S G) g4 rfl rfl
  obtain ⟨tx, tx_e, tx_s, s0_e, td_e⟩ := q6
  refine r_ex hX hP 2 (pc' := 7) (st' := []) (lo' := [(0, (2, this)), (1, (0, n)), (2, (0, 0))]) rfl ?_
  have x77 : ∀ (l2_x77 size_x77 told_x77 : Int) (Gx77 : Gh), size_x77 = (hw [(106, -1), (107, -1), (119, -1), (120, -1), (121, -1), (122, -1), (123, -1), (124, -1), (131, 1), (131, 2), (131, 5), (131, 6), (131, 7), (131, 8), (131, 10), (131, 11), (131, 13), (131, 14), (136, 0), (136, 1), (136, 2)] G3 Gx77) 136 tx 0 → told_x77 = (hw [(106, -1), (107, -1), (119, -1), (120, -1), (121, -1), (122, -1), (123, -1), (124, -1), (131, 1), (131, 2), (131, 5), (131, 6), (131, 7), (131, 8), (131, 10), (131, 11), (131, 13), (131, 14), (136, 0), (136, 1), (136, 2)] G3 Gx77) 131 this 10 → 0 ≤ l2_x77 → l2_x77 ≤ 401 → 0 ≤ size_x77 → size_x77 ≤ 30 → 0 ≤ told_x77 → told_x77 ≤ 30 → size_x77 ≤ told_x77 → CI E S2 (hw [(106, -1), (107, -1), (119, -1), (120, -1), (121, -1), (122, -1), (123, -1), (124, -1), (131, 1), (131, 2), (131, 5), (131, 6), (131, 7), (131, 8), (131, 10), (131, 11), (131, 13), (131, 14), (136, 0), (136, 1), (136, 2)] G3 Gx77) → X 14 326 77 [] [(0, (2, this)), (1, (0, n)), (2, (0, l2_x77))] S2 (hw [(106, -1), (107, -1), (119, -1), (120, -1), (121, -1), (122, -1), (123, -1), (124, -1), (131, 1), (131, 2), (131, 5), (131, 6), (131, 7), (131, 8), (131, 10), (131, 11), (131, 13), (131, 14), (136, 0), (136, 1), (136, 2)] G3 Gx77) := by
    intro l2_x77 size_x77 told_x77 Gx77 size_x77_e told_x77_e yx77_0 yx77_1 yx77_2 yx77_3 yx77_4 yx77_5 yx77_6 yx77_7
    refine r_ex hX hP 1 (pc' := 78) (st' := [(2, this)]) (lo' := [(0, (2, this)), (1, (0, n)), (2, (0, l2_x77))]) rfl ?_
    refine r_getI hX hP rfl fl_X6_9_131 s7 (fun ff9 ff9e ff9a ff9b => ?_)
    refine r_if_eq hX hP rfl (tgt := 86) rfl (by omega) (by omega) (fun c10 => ?_) (fun c10 => ?_)
    · skip
      refine r_ex hX hP 1 (pc' := 87) (st' := [(2, this)]) (lo' := [(0, (2, this)), (1, (0, n)), (2, (0, l2_x77))]) rfl ?_
      refine r_getKN hX hP rfl fl_X6_54_131 s7 (x := tx) tx_e ?_
      refine r_ex hX hP 3 (pc' := 93) (st' := [(2, (-1)), (2, this)]) (lo' := [(0, (2, this)), (1, (0, n)), (2, (2, tx))]) rfl ?_
      refine r_putNK hX hP rfl fp_X6_54_131 s7 (by decide) (Or.inl rfl) (fun h11 => ?_)
      refine r_ex hX hP 1 (pc' := 97) (st' := [(2, tx)]) (lo' := [(0, (2, this)), (1, (0, n)), (2, (2, tx))]) rfl ?_
      have g12 : Gr [119, 120, 121, 122, 123, 124, 125, 126, 127, 136, 149] [(106, -1), (107, -1), (119, -1), (120, -1), (121, -1), (122, -1), (123, -1), (124, -1), (131, 1), (131, 2), (131, 4), (131, 5), (131, 6), (131, 7), (131, 8), (131, 9), (131, 10), (131, 11), (131, 13), (131, 14), (136, 0), (136, 1), (136, 2), (149, 2), (149, 3), (149, 4), (149, 5), (149, 6), (149, 7), (149, 8), (149, 9), (149, 10), (149, 11), (149, 12), (149, 13), (149, 14), (149, 15)] S G S2 (up (hw [(106, -1), (107, -1), (119, -1), (120, -1), (121, -1), (122, -1), (123, -1), (124, -1), (131, 1), (131, 2), (131, 5), (131, 6), (131, 7), (131, 8), (131, 10), (131, 11), (131, 13), (131, 14), (136, 0), (136, 1), (136, 2)] G3 Gx77) 131 this 9 (-1)) := (gr_up (gr_hw g8 rfl) rfl)
      have ci13 : CI E S2 (up (hw [(106, -1), (107, -1), (119, -1), (120, -1), (121, -1), (122, -1), (123, -1), (124, -1), (131, 1), (131, 2), (131, 5), (131, 6), (131, 7), (131, 8), (131, 10), (131, 11), (131, 13), (131, 14), (136, 0), (136, 1), (136, 2)] G3 Gx77) 131 this 9 (-1)) := (ci_up yx77_7 rfl)
      exact r_retR hX hP rfl rfl (by first | exact Or.inl ⟨_, rfl⟩ | exact Or.inr ⟨_, rfl⟩) (by omega) (by omega) ⟨g12, tx, rfl, (Or.inr tx_s), ci13⟩
    · skip
      refine r_ex hX hP 1 (pc' := 85) (st' := [(2, (-1))]) (lo' := [(0, (2, this)), (1, (0, n)), (2, (0, l2_x77))]) rfl ?_
      have g14 : Gr [119, 120, 121, 122, 123, 124, 125, 126, 127, 136, 149] [(106, -1), (107, -1), (119, -1), (120, -1), (121, -1), (122, -1), (123, -1), (124, -1), (131, 1), (131, 2), (131, 4), (131, 5), (131, 6), (131, 7), (131, 8), (131, 9), (131, 10), (131, 11), (131, 13), (131, 14), (136, 0), (136, 1), (136, 2), (149, 2), (149, 3), (149, 4), (149, 5), (149, 6), (149, 7), (149, 8), (149, 9), (149, 10), (149, 11), (149, 12), (149, 13), (149, 14), (149, 15)] S G S2 (hw [(106, -1), (107, -1), (119, -1), (120, -1), (121, -1), (122, -1), (123, -1), (124, -1), (131, 1), (131, 2), (131, 5), (131, 6), (131, 7), (131, 8), (131, 10), (131, 11), (131, 13), (131, 14), (136, 0), (136, 1), (136, 2)] G3 Gx77) := (gr_hw g8 rfl)
      exact r_retR hX hP rfl rfl (by first | exact Or.inl ⟨_, rfl⟩ | exact Or.inr ⟨_, rfl⟩) (by omega) (by omega) ⟨g14, (-1), rfl, (Or.inl rfl), yx77_7⟩
  have loop7 : ∀ (nF : Nat) (l2_h7 size_h7 told_h7 : Int) (Gh7 : Gh), size_h7 = (hw [(106, -1), (107, -1), (119, -1), (120, -1), (121, -1), (122, -1), (123, -1), (124, -1), (131, 1), (131, 2), (131, 5), (131, 6), (131, 7), (131, 8), (131, 10), (131, 11), (131, 13), (131, 14), (136, 0), (136, 1), (136, 2)] G3 Gh7) 136 tx 0 → told_h7 = (hw [(106, -1), (107, -1), (119, -1), (120, -1), (121, -1), (122, -1), (123, -1), (124, -1), (131, 1), (131, 2), (131, 5), (131, 6), (131, 7), (131, 8), (131, 10), (131, 11), (131, 13), (131, 14), (136, 0), (136, 1), (136, 2)] G3 Gh7) 131 this 10 → 0 ≤ l2_h7 → l2_h7 ≤ 401 → 0 ≤ size_h7 → size_h7 ≤ 30 → 0 ≤ told_h7 → told_h7 ≤ 30 → size_h7 ≤ told_h7 → CI E S2 (hw [(106, -1), (107, -1), (119, -1), (120, -1), (121, -1), (122, -1), (123, -1), (124, -1), (131, 1), (131, 2), (131, 5), (131, 6), (131, 7), (131, 8), (131, 10), (131, 11), (131, 13), (131, 14), (136, 0), (136, 1), (136, 2)] G3 Gh7) → 401 - l2_h7 < (nF : Int) → X 14 326 7 [] [(0, (2, this)), (1, (0, n)), (2, (0, l2_h7))] S2 (hw [(106, -1), (107, -1), (119, -1), (120, -1), (121, -1), (122, -1), (123, -1), (124, -1), (131, 1), (131, 2), (131, 5), (131, 6), (131, 7), (131, 8), (131, 10), (131, 11), (131, 13), (131, 14), (136, 0), (136, 1), (136, 2)] G3 Gh7) := by
    intro nF
    induction nF with
    | zero => intro l2_h7 size_h7 told_h7 Gh7 size_h7_e told_h7_e yh7_0 yh7_1 yh7_2 yh7_3 yh7_4 yh7_5 yh7_6 yh7_7 ym7; exfalso; omega
    | succ nF ih7 =>
      intro l2_h7 size_h7 told_h7 Gh7 size_h7_e told_h7_e yh7_0 yh7_1 yh7_2 yh7_3 yh7_4 yh7_5 yh7_6 yh7_7 ym7
      refine r_ex hX hP 2 (pc' := 11) (st' := [(0, 400), (0, l2_h7)]) (lo' := [(0, (2, this)), (1, (0, n)), (2, (0, l2_h7))]) rfl ?_
      refine r_ic_gt hX hP rfl (tgt := 77) rfl (by omega) (by omega) (by omega) (by omega) (fun c15 => ?_) (fun c15 => ?_)
      · skip
        refine r_eqG (X := X) (hw_sub (hw_refl [(106, -1), (107, -1), (119, -1), (120, -1), (121, -1), (122, -1), (123, -1), (124, -1), (131, 1), (131, 2), (131, 5), (131, 6), (131, 7), (131, 8), (131, 10), (131, 11), (131, 13), (131, 14), (136, 0), (136, 1), (136, 2)] _) rfl) ?_
        exact x77 l2_h7 size_h7 told_h7 _ size_h7_e told_h7_e (by omega) (by omega) (by omega) (by omega) (by omega) (by omega) (by omega) yh7_7
      · skip
        refine r_ex hX hP 1 (pc' := 15) (st' := [(2, this)]) (lo' := [(0, (2, this)), (1, (0, n)), (2, (0, l2_h7))]) rfl ?_
        refine r_getI hX hP rfl fl_X6_9_131 s7 (fun ff16 ff16e ff16a ff16b => ?_)
        refine r_if_ne hX hP rfl (tgt := 77) rfl (by omega) (by omega) (fun c17 => ?_) (fun c17 => ?_)
        · skip
          refine r_eqG (X := X) (hw_sub (hw_refl [(106, -1), (107, -1), (119, -1), (120, -1), (121, -1), (122, -1), (123, -1), (124, -1), (131, 1), (131, 2), (131, 5), (131, 6), (131, 7), (131, 8), (131, 10), (131, 11), (131, 13), (131, 14), (136, 0), (136, 1), (136, 2)] _) rfl) ?_
          exact x77 l2_h7 size_h7 told_h7 _ size_h7_e told_h7_e (by omega) (by omega) (by omega) (by omega) (by omega) (by omega) (by omega) yh7_7
        · skip
          refine r_ex hX hP 1 (pc' := 22) (st' := [(2, this)]) (lo' := [(0, (2, this)), (1, (0, n)), (2, (0, l2_h7))]) rfl ?_
          refine r_getI hX hP rfl fl_X6_38_131 s7 (fun tf18 tf18e tf18a tf18b => ?_)
          refine r_if_ne hX hP rfl (tgt := 44) rfl (by omega) (by omega) (fun c19 => ?_) (fun c19 => ?_)
          · skip
            refine r_ex hX hP 1 (pc' := 45) (st' := [(2, this)]) (lo' := [(0, (2, this)), (1, (0, n)), (2, (0, l2_h7))]) rfl ?_
            refine r_getKI hX hP rfl fl_X6_38_131 s7 (x := tf18) tf18e ?_
            refine r_ex hX hP 1 (pc' := 50) (st' := [(0, 125), (0, tf18)]) (lo' := [(0, (2, this)), (1, (0, n)), (2, (0, l2_h7))]) rfl ?_
            refine r_ic_ne hX hP rfl (tgt := 67) rfl (by omega) (by omega) (by omega) (by omega) (fun c20 => ?_) (fun c20 => ?_)
            · skip
              refine r_ex hX hP 1 (pc' := 68) (st' := [(2, this)]) (lo' := [(0, (2, this)), (1, (0, n)), (2, (0, l2_h7))]) rfl ?_
              refine r_callV gd hX hP rfl cv_X6_51_131 s7 (d' := 7) (mc' := 0) (ms' := 0) (as' := []) (st := []) (by omega) (by omega) (by omega) rfl rfl (Nat.le_of_ble_eq_true rfl) (c_X6_clause E S2 (hw [(106, -1), (107, -1), (119, -1), (120, -1), (121, -1), (122, -1), (123, -1), (124, -1), (131, 1), (131, 2), (131, 5), (131, 6), (131, 7), (131, 8), (131, 10), (131, 11), (131, 13), (131, 14), (136, 0), (136, 1), (136, 2)] G3 Gh7) this  s7 tx tx_e tx_s size_h7 size_h7_e told_h7 told_h7_e (by omega) yh7_7) ?_
              rintro _ _ _ ⟨rfl, ⟨G21, rfl⟩, rfl, sih22, sih22e, toh23, toh23e, f24, ci25⟩
              refine r_peekI hX (tl_136 0 rfl (by decide)) tx_s (fun o26 o26e o26a o26b => ?_)
              obtain rfl : sih22 = o26 := sih22e.trans o26e.symm
              refine r_peekI hX (tl_131 10 rfl (by decide)) s7 (fun o27 o27e o27a o27b => ?_)
              obtain rfl : toh23 = o27 := toh23e.trans o27e.symm
              refine r_ex hX hP 2 (pc' := 7) (st' := []) (lo' := [(0, (2, this)), (1, (0, n)), (2, (0, (l2_h7 + 1)))]) rfl ?_
              refine r_eqG (X := X) (hw_sub (hw_base _ _ _) rfl) ?_
              exact ih7 (l2_h7 + 1) sih22 toh23 _ sih22e toh23e (by omega) (by omega) (by omega) (by omega) (by omega) (by omega) (by omega) ci25 (by omega)
            · skip
              refine r_ex hX hP 1 (pc' := 54) (st' := [(2, this)]) (lo' := [(0, (2, this)), (1, (0, n)), (2, (0, l2_h7))]) rfl ?_
              refine r_getI hX hP rfl fl_X6_41_131 s7 (fun df28 df28e df28a df28b => ?_)
              refine r_if_le hX hP rfl (tgt := 67) rfl (by omega) (by omega) (fun c29 => ?_) (fun c29 => ?_)
              · skip
                refine r_ex hX hP 1 (pc' := 68) (st' := [(2, this)]) (lo' := [(0, (2, this)), (1, (0, n)), (2, (0, l2_h7))]) rfl ?_
                refine r_callV gd hX hP rfl cv_X6_51_131 s7 (d' := 7) (mc' := 0) (ms' := 0) (as' := []) (st := []) (by omega) (by omega) (by omega) rfl rfl (Nat.le_of_ble_eq_true rfl) (c_X6_clause E S2 (hw [(106, -1), (107, -1), (119, -1), (120, -1), (121, -1), (122, -1), (123, -1), (124, -1), (131, 1), (131, 2), (131, 5), (131, 6), (131, 7), (131, 8), (131, 10), (131, 11), (131, 13), (131, 14), (136, 0), (136, 1), (136, 2)] G3 Gh7) this  s7 tx tx_e tx_s size_h7 size_h7_e told_h7 told_h7_e (by omega) yh7_7) ?_
                rintro _ _ _ ⟨rfl, ⟨G30, rfl⟩, rfl, sih31, sih31e, toh32, toh32e, f33, ci34⟩
                refine r_peekI hX (tl_136 0 rfl (by decide)) tx_s (fun o35 o35e o35a o35b => ?_)
                obtain rfl : sih31 = o35 := sih31e.trans o35e.symm
                refine r_peekI hX (tl_131 10 rfl (by decide)) s7 (fun o36 o36e o36a o36b => ?_)
                obtain rfl : toh32 = o36 := toh32e.trans o36e.symm
                refine r_ex hX hP 2 (pc' := 7) (st' := []) (lo' := [(0, (2, this)), (1, (0, n)), (2, (0, (l2_h7 + 1)))]) rfl ?_
                refine r_eqG (X := X) (hw_sub (hw_base _ _ _) rfl) ?_
                exact ih7 (l2_h7 + 1) sih31 toh32 _ sih31e toh32e (by omega) (by omega) (by omega) (by omega) (by omega) (by omega) (by omega) ci34 (by omega)
              · skip
                refine r_ex hX hP 1 (pc' := 61) (st' := [(2, this)]) (lo' := [(0, (2, this)), (1, (0, n)), (2, (0, l2_h7))]) rfl ?_
                refine r_callV gd hX hP rfl cv_X6_48_131 s7 (d' := 5) (mc' := 0) (ms' := 0) (as' := []) (st := []) (by omega) (by omega) (by omega) rfl rfl (Nat.le_of_ble_eq_true rfl) (c_X6_close E S2 (hw [(106, -1), (107, -1), (119, -1), (120, -1), (121, -1), (122, -1), (123, -1), (124, -1), (131, 1), (131, 2), (131, 5), (131, 6), (131, 7), (131, 8), (131, 10), (131, 11), (131, 13), (131, 14), (136, 0), (136, 1), (136, 2)] G3 Gh7) this  s7 df28 df28e (by omega)) ?_
                rintro _ _ _ ⟨rfl, ⟨G37, rfl⟩, rfl, -⟩
                refine r_ex hX hP 3 (pc' := 7) (st' := []) (lo' := [(0, (2, this)), (1, (0, n)), (2, (0, (l2_h7 + 1)))]) rfl ?_
                have ci38 : CI E S2 (hw [(106, -1), (131, 1), (131, 2), (131, 5), (131, 6), (131, 7), (131, 8), (131, 11)] (hw [(106, -1), (107, -1), (119, -1), (120, -1), (121, -1), (122, -1), (123, -1), (124, -1), (131, 1), (131, 2), (131, 5), (131, 6), (131, 7), (131, 8), (131, 10), (131, 11), (131, 13), (131, 14), (136, 0), (136, 1), (136, 2)] G3 Gh7) G37) := (ci_hw yh7_7 rfl)
                refine r_eqG (X := X) (hw_sub (hw_base _ _ _) rfl) ?_
                exact ih7 (l2_h7 + 1) size_h7 told_h7 _ size_h7_e told_h7_e (by omega) (by omega) (by omega) (by omega) (by omega) (by omega) (by omega) ci38 (by omega)
          · skip
            refine r_ex hX hP 1 (pc' := 29) (st' := [(2, this)]) (lo' := [(0, (2, this)), (1, (0, n)), (2, (0, l2_h7))]) rfl ?_
            refine r_getI hX hP rfl fl_X6_41_131 s7 (fun df39 df39e df39a df39b => ?_)
            refine r_if_le hX hP rfl (tgt := 77) rfl (by omega) (by omega) (fun c40 => ?_) (fun c40 => ?_)
            · skip
              refine r_eqG (X := X) (hw_sub (hw_refl [(106, -1), (107, -1), (119, -1), (120, -1), (121, -1), (122, -1), (123, -1), (124, -1), (131, 1), (131, 2), (131, 5), (131, 6), (131, 7), (131, 8), (131, 10), (131, 11), (131, 13), (131, 14), (136, 0), (136, 1), (136, 2)] _) rfl) ?_
              exact x77 l2_h7 size_h7 told_h7 _ size_h7_e told_h7_e (by omega) (by omega) (by omega) (by omega) (by omega) (by omega) (by omega) yh7_7
            · skip
              refine r_ex hX hP 2 (pc' := 37) (st' := [(0, 2), (2, this)]) (lo' := [(0, (2, this)), (1, (0, n)), (2, (0, l2_h7))]) rfl ?_
              refine r_callV gd hX hP rfl cv_X6_44_131 s7 (d' := 0) (mc' := 0) (ms' := 0) (as' := [(0, 2)]) (st := []) (by omega) (by omega) (by omega) rfl rfl (Nat.le_of_ble_eq_true rfl) (c_X6_fail E S2 (hw [(106, -1), (107, -1), (119, -1), (120, -1), (121, -1), (122, -1), (123, -1), (124, -1), (131, 1), (131, 2), (131, 5), (131, 6), (131, 7), (131, 8), (131, 10), (131, 11), (131, 13), (131, 14), (136, 0), (136, 1), (136, 2)] G3 Gh7) this 2 s7 (by omega) (by omega)) ?_
              rintro _ _ _ ⟨rfl, ⟨G41, rfl⟩, z42, rfl, flh43, flh43e, rfl, f44⟩
              refine r_peekI hX (tl_131 1 rfl (by decide)) s7 (fun o45 o45e o45a o45b => ?_)
              obtain rfl : flh43 = o45 := flh43e.trans o45e.symm
              refine r_ex hX hP 2 (pc' := 77) (st' := []) (lo' := [(0, (2, this)), (1, (0, n)), (2, (0, l2_h7))]) rfl ?_
              have ci46 : CI E S2 (hw [(131, 1), (131, 2)] (hw [(106, -1), (107, -1), (119, -1), (120, -1), (121, -1), (122, -1), (123, -1), (124, -1), (131, 1), (131, 2), (131, 5), (131, 6), (131, 7), (131, 8), (131, 10), (131, 11), (131, 13), (131, 14), (136, 0), (136, 1), (136, 2)] G3 Gh7) G41) := (ci_hw yh7_7 rfl)
              refine r_eqG (X := X) (hw_sub (hw_sub (hw_refl [(106, -1), (107, -1), (119, -1), (120, -1), (121, -1), (122, -1), (123, -1), (124, -1), (131, 1), (131, 2), (131, 5), (131, 6), (131, 7), (131, 8), (131, 10), (131, 11), (131, 13), (131, 14), (136, 0), (136, 1), (136, 2)] _) rfl) rfl) ?_
              exact x77 l2_h7 size_h7 told_h7 _ size_h7_e told_h7_e (by omega) (by omega) (by omega) (by omega) (by omega) (by omega) (by omega) ci46
  refine r_eqG (X := X) (hw_refl [(106, -1), (107, -1), (119, -1), (120, -1), (121, -1), (122, -1), (123, -1), (124, -1), (131, 1), (131, 2), (131, 5), (131, 6), (131, 7), (131, 8), (131, 10), (131, 11), (131, 13), (131, 14), (136, 0), (136, 1), (136, 2)] _) ?_
  exact loop7 ((401 - 0) + 1 : Int).toNat 0 0 0 _ (s0_e.symm) (td_e.symm) (by omega) (by omega) (by omega) (by omega) (by omega) (by omega) (by omega) ci5 (by omega)
