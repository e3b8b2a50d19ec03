set_option maxRecDepth 100000 in
set_option maxHeartbeats 4000000 in
theorem c_beginX (E : En) (S : Sg) (G : Gh) (this : Int) (n : Int) (hS : S this = 131) (tpa : Int) (tpa_e : tpa = G 131 this 3) (tpa_s : S tpa = 105) (na : Int) (na_e : na = G 131 this 15) (na_s : S na = 107) (nb : Int) (nb_e : nb = G 131 this 16) (nb_s : S nb = 107) (n_a : 0 ≤ n) (n_b : n ≤ 400) (ci : CI E S G) (TT : Tp) (tp : ∀ i : Int, G 105 tpa i = TT i) (ne1 : na ≠ nb) (ne2 : 0 ≤ G 131 this 9 → G 136 (G 131 this 9) 9 ≠ G 136 (G 131 this 9) 10) : Calls E mX6_begin [(2, this), (0, n)] S G 4 14 326 (fun r S' G' => Gr [119, 120, 121, 122, 123, 124, 125, 126, 127, 136, 149] [(124, -1), (131, 1), (131, 2), (131, 4), (131, 5), (131, 6), (131, 7), (131, 8), (131, 9), (131, 10), (131, 11), (131, 13), (131, 14), (136, 0), (136, 1), (136, 2), (149, 2), (149, 3), (149, 4), (149, 5), (149, 6), (149, 7), (149, 8), (149, 9), (149, 10), (149, 11), (149, 12), (149, 13), (149, 14), (149, 15)] S G S' G' ∧ r = none ∧ CI E S' G' ∧ (∃ tx : Int, tx = G' 131 this 9 ∧ S' tx = 136 ∧ RdC TT n (ud pS0 0 0) G' this tx ∧ (∀ u : Int, S u = 136 → u ≠ G 131 this 9 → u ≠ tx ∧ G' 136 u 1 = G 136 u 1 ∧ G' 136 u 2 = G 136 u 2))) := by
  refine calls_by [(0, (2, this)), (1, (0, n))] rfl rfl (Nat.le_of_ble_eq_true rfl) (fun X hX => ?_)
  have hP := hPX6_begin
  refine r_ex hX hP 1 (pc' := 1) (st' := [(2, this)]) (lo' := [(0, (2, this)), (1, (0, n))]) rfl ?_
  refine r_getN hX hP rfl fl_X6_54_131 hS (fun tf1 tf1e tf1s => ?_)
  refine r_ifnn hX hP rfl (tgt := 21) rfl (fun c2 => ?_) (fun c2 => ?_)
  · skip
    have s3 := nul_lab tf1s c2
    refine r_ex hX hP 1 (pc' := 22) (st' := [(2, this)]) (lo' := [(0, (2, this)), (1, (0, n))]) rfl ?_
    refine r_getKN hX hP rfl fl_X6_54_131 hS (x := tf1) tf1e ?_
    refine r_peekR hX (tl_136 9 rfl (by decide)) s3 (fun mop4 mop4e mop4s => ?_)
    refine r_peekR hX (tl_136 10 rfl (by decide)) s3 (fun smp5 smp5e smp5s => ?_)
    have ne6q : G 136 tf1 9 ≠ G 136 tf1 10 := by have e : tf1 = G 131 this 9 := tf1e; have q := ne2 (by rw [← e]; exact c2); rw [e]; exact q
    have ne6 : mop4 ≠ smp5 := fun e => ne6q ((mop4e.symm.trans e).trans smp5e)
    refine r_callV gd hX hP rfl cv_X6_61_136 s3 (d' := 1) (mc' := 0) (ms' := 0) (as' := []) (st := []) (by first | decide | omega) (by first | decide | omega) (by first | decide | omega) rfl rfl (Nat.le_of_ble_eq_true rfl) (c_clearX E S G tf1  s3 mop4 mop4e mop4s smp5 smp5e smp5s (by first | decide | omega)) ?_
    rintro _ _ _ ⟨rfl, ⟨G7, rfl⟩, rfl, sih8, sih8e, chh9, chh9e, fah10, fah10e, f11, f12, f13, f14, f15⟩
    refine r_peekI hX (tl_136 0 rfl (by decide)) s3 (fun o16 o16e o16a o16b => ?_)
    obtain rfl : sih8 = o16 := sih8e.trans o16e.symm
    refine r_peekI hX (tl_136 1 rfl (by decide)) s3 (fun o17 o17e o17a o17b => ?_)
    obtain rfl : chh9 = o17 := chh9e.trans o17e.symm
    refine r_peekI hX (tl_136 2 rfl (by decide)) s3 (fun o18 o18e o18a o18b => ?_)
    obtain rfl : fah10 = o18 := fah10e.trans o18e.symm
    refine r_ex hX hP 2 (pc' := 30) (st' := [(0, 0), (2, this)]) (lo' := [(0, (2, this)), (1, (0, n))]) rfl ?_
    refine r_putIK hX hP rfl fp_X6_9_131 hS (by first | decide | omega) (by first | decide | omega) (fun h19 => ?_)
    refine r_ex hX hP 2 (pc' := 35) (st' := [(0, (-1)), (2, this)]) (lo' := [(0, (2, this)), (1, (0, n))]) rfl ?_
    refine r_putIK hX hP rfl fp_X6_15_131 hS (by first | decide | omega) (by first | decide | omega) (fun h20 => ?_)
    refine r_ex hX hP 2 (pc' := 40) (st' := [(0, n), (2, this)]) (lo' := [(0, (2, this)), (1, (0, n))]) rfl ?_
    refine r_putIK hX hP rfl fp_X6_64_131 hS (by first | decide | omega) (by first | decide | omega) (fun h21 => ?_)
    refine r_ex hX hP 2 (pc' := 45) (st' := [(0, 0), (2, this)]) (lo' := [(0, (2, this)), (1, (0, n))]) rfl ?_
    refine r_putIK hX hP rfl fp_X6_67_131 hS (by first | decide | omega) (by first | decide | omega) (fun h22 => ?_)
    refine r_ex hX hP 2 (pc' := 50) (st' := [(0, 0), (2, this)]) (lo' := [(0, (2, this)), (1, (0, n))]) rfl ?_
    refine r_putIK hX hP rfl fp_X6_70_131 hS (by first | decide | omega) (by first | decide | omega) (fun h23 => ?_)
    refine r_ex hX hP 2 (pc' := 55) (st' := [(0, 0), (2, this)]) (lo' := [(0, (2, this)), (1, (0, n))]) rfl ?_
    refine r_putIK hX hP rfl fp_X6_41_131 hS (by first | decide | omega) (by first | decide | omega) (fun h24 => ?_)
    refine r_ex hX hP 2 (pc' := 60) (st' := [(0, 0), (2, this)]) (lo' := [(0, (2, this)), (1, (0, n))]) rfl ?_
    refine r_putIK hX hP rfl fp_X6_73_131 hS (by first | decide | omega) (by first | decide | omega) (fun h25 => ?_)
    refine r_ex hX hP 2 (pc' := 65) (st' := [(0, 0), (2, this)]) (lo' := [(0, (2, this)), (1, (0, n))]) rfl ?_
    refine r_putIK hX hP rfl fp_X6_77_131 hS (by first | decide | omega) (by first | decide | omega) (fun h26 => ?_)
    refine r_ex hX hP 1 (pc' := 69) (st' := [(2, this)]) (lo' := [(0, (2, this)), (1, (0, n))]) rfl ?_
    have g27 : Gr [119, 120, 121, 122, 123, 124, 125, 126, 127, 136, 149] [(124, -1), (131, 1), (131, 2), (131, 4), (131, 5), (131, 6), (131, 7), (131, 8), (131, 9), (131, 10), (131, 11), (131, 13), (131, 14), (136, 0), (136, 1), (136, 2), (149, 2), (149, 3), (149, 4), (149, 5), (149, 6), (149, 7), (149, 8), (149, 9), (149, 10), (149, 11), (149, 12), (149, 13), (149, 14), (149, 15)] S G S (up (up (up (up (up (up (up (up (hw [(124, -1), (136, 0), (136, 1), (136, 2)] G G7) 131 this 1 0) 131 this 2 (-1)) 131 this 4 n) 131 this 5 0) 131 this 10 0) 131 this 11 0) 131 this 13 0) 131 this 14 0) := (gr_up (gr_up (gr_up (gr_up (gr_up (gr_up (gr_up (gr_up (gr_hw (gr_refl [119, 120, 121, 122, 123, 124, 125, 126, 127, 136, 149] [(124, -1), (131, 1), (131, 2), (131, 4), (131, 5), (131, 6), (131, 7), (131, 8), (131, 9), (131, 10), (131, 11), (131, 13), (131, 14), (136, 0), (136, 1), (136, 2), (149, 2), (149, 3), (149, 4), (149, 5), (149, 6), (149, 7), (149, 8), (149, 9), (149, 10), (149, 11), (149, 12), (149, 13), (149, 14), (149, 15)] S G) rfl) rfl) rfl) rfl) rfl) rfl) rfl) rfl) rfl)
    have rd28 : RdC0 TT n 0 pS0 (up (up (up (up (up (up (up (up (hw [(124, -1), (136, 0), (136, 1), (136, 2)] G G7) 131 this 1 0) 131 this 2 (-1)) 131 this 4 n) 131 this 5 0) 131 this 10 0) 131 this 11 0) 131 this 13 0) 131 this 14 0) this tf1 := rz_mk (fun i => (congrArg (fun y : Int => (up (up (up (up (up (up (up (up (hw [(124, -1), (136, 0), (136, 1), (136, 2)] G G7) 131 this 1 0) 131 this 2 (-1)) 131 this 4 n) 131 this 5 0) 131 this 10 0) 131 this 11 0) 131 this 13 0) 131 this 14 0) 105 y i) tpa_e.symm).trans ((gr_at g27 tpa_s (by decide) rfl).trans (tp i))) h21.symm tf1e.symm h19.symm h20.symm h23.symm (chh9e.symm.trans (show chh9 = 0 from by omega)) (fah10e.symm.trans (show fah10 = -1 from by omega)) h25.symm h26.symm h24.symm (sih8e.symm.trans (show sih8 = 0 from by omega)) (fun hk => absurd (show (0 : Int) < 0 from hk) (by decide)) (fun hk => absurd (show (1 : Int) < 0 from hk) (by decide)) (fun hk => absurd (show (2 : Int) < 0 from hk) (by decide)) (fun hk => absurd (show (0 : Int) < 0 from hk) (by decide)) (fun hk => absurd (show (1 : Int) < 0 from hk) (by decide)) (fun hk => absurd (show (2 : Int) < 0 from hk) (by decide)) (fun hk => absurd (show (0 : Int) < 0 from hk) (by decide)) (fun hk => absurd (show (1 : Int) < 0 from hk) (by decide)) (fun hk => absurd (show (2 : Int) < 0 from hk) (by decide)) ((congrArg (fun y : Int => (up (up (up (up (up (up (up (up (hw [(124, -1), (136, 0), (136, 1), (136, 2)] G G7) 131 this 1 0) 131 this 2 (-1)) 131 this 4 n) 131 this 5 0) 131 this 10 0) 131 this 11 0) 131 this 13 0) 131 this 14 0) 124 y 0) mop4e.symm).trans (f14 0 (by decide) (by decide))) ((congrArg (fun y : Int => (up (up (up (up (up (up (up (up (hw [(124, -1), (136, 0), (136, 1), (136, 2)] G G7) 131 this 1 0) 131 this 2 (-1)) 131 this 4 n) 131 this 5 0) 131 this 10 0) 131 this 11 0) 131 this 13 0) 131 this 14 0) 124 y 1) mop4e.symm).trans (f14 1 (by decide) (by decide))) ((congrArg (fun y : Int => (up (up (up (up (up (up (up (up (hw [(124, -1), (136, 0), (136, 1), (136, 2)] G G7) 131 this 1 0) 131 this 2 (-1)) 131 this 4 n) 131 this 5 0) 131 this 10 0) 131 this 11 0) 131 this 13 0) 131 this 14 0) 124 y 2) mop4e.symm).trans (f14 2 (by decide) (by decide))) (fun e => ne1 ((na_e.trans e).trans nb_e.symm)) (fun e => ne6 ((mop4e.trans e).trans smp5e.symm)) n_b h22.symm (show (0 : Int) ≤ 0 from by decide) (show 0 ≤ n from by omega)
    have fr29 : ∀ u : Int, S u = 136 → u ≠ G 131 this 9 → u ≠ tf1 ∧ (up (up (up (up (up (up (up (up (hw [(124, -1), (136, 0), (136, 1), (136, 2)] G G7) 131 this 1 0) 131 this 2 (-1)) 131 this 4 n) 131 this 5 0) 131 this 10 0) 131 this 11 0) 131 this 13 0) 131 this 14 0) 136 u 1 = G 136 u 1 ∧ (up (up (up (up (up (up (up (up (hw [(124, -1), (136, 0), (136, 1), (136, 2)] G G7) 131 this 1 0) 131 this 2 (-1)) 131 this 4 n) 131 this 5 0) 131 this 10 0) 131 this 11 0) 131 this 13 0) 131 this 14 0) 136 u 2 = G 136 u 2 := fun u _ hn => by have e : tf1 = G 131 this 9 := tf1e; have n2 : u ≠ tf1 := fun q => hn (q.trans e); exact ⟨n2, f15 u n2⟩
    refine r_callV gd hX hP rfl cv_X6_80_131 hS (d' := 1) (mc' := 0) (ms' := 0) (as' := []) (st := []) (by first | decide | omega) (by first | decide | omega) (by first | decide | omega) rfl rfl (Nat.le_of_ble_eq_true rfl) (c_X6_advance0 E S (up (up (up (up (up (up (up (up (hw [(124, -1), (136, 0), (136, 1), (136, 2)] G G7) 131 this 1 0) 131 this 2 (-1)) 131 this 4 n) 131 this 5 0) 131 this 10 0) 131 this 11 0) 131 this 13 0) 131 this 14 0) this  hS tf1 tf1e s3 TT n 0 pS0 rd28) ?_
    rintro _ _ _ ⟨rfl, ⟨G30, rfl⟩, rfl, f31⟩
    have g32 : Gr [119, 120, 121, 122, 123, 124, 125, 126, 127, 136, 149] [(124, -1), (131, 1), (131, 2), (131, 4), (131, 5), (131, 6), (131, 7), (131, 8), (131, 9), (131, 10), (131, 11), (131, 13), (131, 14), (136, 0), (136, 1), (136, 2), (149, 2), (149, 3), (149, 4), (149, 5), (149, 6), (149, 7), (149, 8), (149, 9), (149, 10), (149, 11), (149, 12), (149, 13), (149, 14), (149, 15)] S G S (hw [(131, 5), (131, 6), (131, 7), (131, 8)] (up (up (up (up (up (up (up (up (hw [(124, -1), (136, 0), (136, 1), (136, 2)] G G7) 131 this 1 0) 131 this 2 (-1)) 131 this 4 n) 131 this 5 0) 131 this 10 0) 131 this 11 0) 131 this 13 0) 131 this 14 0) G30) := (gr_hw g27 rfl)
    have ci33 : CI E S (hw [(131, 5), (131, 6), (131, 7), (131, 8)] (up (up (up (up (up (up (up (up (hw [(124, -1), (136, 0), (136, 1), (136, 2)] G G7) 131 this 1 0) 131 this 2 (-1)) 131 this 4 n) 131 this 5 0) 131 this 10 0) 131 this 11 0) 131 this 13 0) 131 this 14 0) G30) := (ci_hw (ci_up (ci_up (ci_up (ci_up (ci_up (ci_up (ci_up (ci_up (ci_hw ci rfl) rfl) rfl) rfl) rfl) rfl) rfl) rfl) rfl) rfl)
    exact r_retV hX hP rfl rfl (by first | decide | omega) (by first | decide | omega) ⟨g32, rfl, ci33, ⟨tf1, tf1e, s3, f31, fr29⟩⟩
  · skip
    refine r_ex hX hP 1 (pc' := 8) (st' := [(2, this)]) (lo' := [(0, (2, this)), (1, (0, n))]) rfl ?_
    refine r_tk hX (fun tk34 => ?_)
    refine r_newA hX hP rfl (L := 149) (N := 16) nw_X6_58_149 (by first | decide | omega) (by first | decide | omega) (fun n35 S36 G37 n35z n35n n35l g38 n35v => ?_)
    have z39 : S n35 = 0 := gr_zero (gr_refl [119, 120, 121, 122, 123, 124, 125, 126, 127, 136, 149] [(124, -1), (131, 1), (131, 2), (131, 4), (131, 5), (131, 6), (131, 7), (131, 8), (131, 9), (131, 10), (131, 11), (131, 13), (131, 14), (136, 0), (136, 1), (136, 2), (149, 2), (149, 3), (149, 4), (149, 5), (149, 6), (149, 7), (149, 8), (149, 9), (149, 10), (149, 11), (149, 12), (149, 13), (149, 14), (149, 15)] S G) n35z
    have s40 : S36 this = 131 := gr_lab g38 hS (by decide)
    have s41 : S36 tpa = 105 := gr_lab g38 tpa_s (by decide)
    have s42 : S36 na = 107 := gr_lab g38 na_s (by decide)
    have s43 : S36 nb = 107 := gr_lab g38 nb_s (by decide)
    have e44 : tpa = G37 131 this 3 := gr_val g38 tpa_e hS (by decide) rfl
    have e45 : na = G37 131 this 15 := gr_val g38 na_e hS (by decide) rfl
    have e46 : nb = G37 131 this 16 := gr_val g38 nb_e hS (by decide) rfl
    have e47 : tf1 = G37 131 this 9 := gr_val g38 tf1e hS (by decide) rfl
    have g48 : Gr [119, 120, 121, 122, 123, 124, 125, 126, 127, 136, 149] [(124, -1), (131, 1), (131, 2), (131, 4), (131, 5), (131, 6), (131, 7), (131, 8), (131, 9), (131, 10), (131, 11), (131, 13), (131, 14), (136, 0), (136, 1), (136, 2), (149, 2), (149, 3), (149, 4), (149, 5), (149, 6), (149, 7), (149, 8), (149, 9), (149, 10), (149, 11), (149, 12), (149, 13), (149, 14), (149, 15)] S G S36 G37 := gr_call (gr_refl [119, 120, 121, 122, 123, 124, 125, 126, 127, 136, 149] [(124, -1), (131, 1), (131, 2), (131, 4), (131, 5), (131, 6), (131, 7), (131, 8), (131, 9), (131, 10), (131, 11), (131, 13), (131, 14), (136, 0), (136, 1), (136, 2), (149, 2), (149, 3), (149, 4), (149, 5), (149, 6), (149, 7), (149, 8), (149, 9), (149, 10), (149, 11), (149, 12), (149, 13), (149, 14), (149, 15)] S G) g38 rfl rfl
    have ci49 : CI E S36 G37 := ci_gr ci tk34 g38 rfl rfl
    have e50 : 0 = G37 149 n35 0 := (n35v 0).symm
    have e51 : 0 = G37 149 n35 1 := (n35v 1).symm
    refine r_ex hX hP 1 (pc' := 12) (st' := [(2, n35), (2, n35), (2, this)]) (lo' := [(0, (2, this)), (1, (0, n))]) rfl ?_
    refine r_tk hX (fun tk52 => ?_)
    refine r_callI gd hX hP rfl ci_X6_60 n35n (d' := 3) (mc' := 13) (ms' := 310) (as' := []) (st := [(2, n35), (2, this)]) (by first | decide | omega) (by first | decide | omega) (by first | decide | omega) rfl rfl (Nat.le_of_ble_eq_true rfl) (c_initX E S36 G37 n35  n35l) ?_
    rintro _ S53 G54 ⟨g55, rfl, fah56, fah56e, f57, q58, q59, q60, q61, q62, hf63⟩
    have s64 : S53 this = 131 := gr_lab g55 s40 (by decide)
    have s65 : S53 tpa = 105 := gr_lab g55 s41 (by decide)
    have s66 : S53 na = 107 := gr_lab g55 s42 (by decide)
    have s67 : S53 nb = 107 := gr_lab g55 s43 (by decide)
    have s68 : S53 n35 = 149 := gr_lab g55 n35l (by decide)
    have e69 : tpa = G54 131 this 3 := gr_val g55 e44 s40 (by decide) rfl
    have e70 : na = G54 131 this 15 := gr_val g55 e45 s40 (by decide) rfl
    have e71 : nb = G54 131 this 16 := gr_val g55 e46 s40 (by decide) rfl
    have e72 : tf1 = G54 131 this 9 := gr_val g55 e47 s40 (by decide) rfl
    have e73 : 0 = G54 149 n35 0 := gr_val g55 e50 n35l (by decide) rfl
    have e74 : 0 = G54 149 n35 1 := gr_val g55 e51 n35l (by decide) rfl
    have g75 : Gr [119, 120, 121, 122, 123, 124, 125, 126, 127, 136, 149] [(124, -1), (131, 1), (131, 2), (131, 4), (131, 5), (131, 6), (131, 7), (131, 8), (131, 9), (131, 10), (131, 11), (131, 13), (131, 14), (136, 0), (136, 1), (136, 2), (149, 2), (149, 3), (149, 4), (149, 5), (149, 6), (149, 7), (149, 8), (149, 9), (149, 10), (149, 11), (149, 12), (149, 13), (149, 14), (149, 15)] S G S53 G54 := gr_call g48 g55 rfl rfl
    have ci76 : CI E S53 G54 := ci_gr ci49 tk52 g55 rfl rfl
    refine r_peekI hX (tl_149 2 rfl (by decide)) s68 (fun o77 o77e o77a o77b => ?_)
    obtain rfl : fah56 = o77 := fah56e.trans o77e.symm
    have e78 : ((-1) : Int) = G54 149 n35 2 := by rw [← f57]; exact fah56e
    refine r_finA hX (L := 149) (ci := 10) (fs := fs_149) rfl s68 (by decide) (fun hr79 => ?_)
    refine r_tk hX (fun tk81 => ?_)
    refine r_relabF hX (L := 149) (L' := 136) (ci := 10) (fs := fs_149) (fs' := fs_136) rfl rfl rfl (by decide) (by decide) nf_149 (by decide) s68 hf63 (fun S83 G84 r82 => ?_)
    have s86 : S83 this = 131 := r82.lab s68 s64 (by decide)
    have s87 : S83 tpa = 105 := r82.lab s68 s65 (by decide)
    have s88 : S83 na = 107 := r82.lab s68 s66 (by decide)
    have s89 : S83 nb = 107 := r82.lab s68 s67 (by decide)
    have e90 : tpa = G84 131 this 3 := rs_val r82 s68 e69 s64 (by decide)
    have e91 : na = G84 131 this 15 := rs_val r82 s68 e70 s64 (by decide)
    have e92 : nb = G84 131 this 16 := rs_val r82 s68 e71 s64 (by decide)
    have e93 : tf1 = G84 131 this 9 := rs_val r82 s68 e72 s64 (by decide)
    have e94 : 0 = G84 136 n35 0 := e73.trans (r82.2.2.1 0).symm
    have e95 : 0 = G84 136 n35 1 := e74.trans (r82.2.2.1 1).symm
    have e96 : (-1) = G84 136 n35 2 := e78.trans (r82.2.2.1 2).symm
    have g97 : Gr [119, 120, 121, 122, 123, 124, 125, 126, 127, 136, 149] [(124, -1), (131, 1), (131, 2), (131, 4), (131, 5), (131, 6), (131, 7), (131, 8), (131, 9), (131, 10), (131, 11), (131, 13), (131, 14), (136, 0), (136, 1), (136, 2), (149, 2), (149, 3), (149, 4), (149, 5), (149, 6), (149, 7), (149, 8), (149, 9), (149, 10), (149, 11), (149, 12), (149, 13), (149, 14), (149, 15)] S G S83 G84 := gr_rs g75 r82 z39 rfl
    have ci98 : CI E S83 G84 := ci_rs ci76 tk81 r82 s68 rfl rfl (fun _ => new_txt g55 tk52 rfl rfl rfl q58 q59 q60 hf63) (fun e => absurd e (by decide))
    have mx99 : ∀ j : Int, 0 ≤ j → j ≤ 2 → G84 124 (G84 136 n35 9) j = -1 := fun j h0 h1 => (congrArg (fun y : Int => G84 124 y j) (r82.2.2.1 9)).trans ((r82.2.2.2 124 _ j (fun e => by have q : S53 (G54 149 n35 9) = 124 := (hf63 9 (by decide)).1; rw [e, s68] at q; exact absurd q (by decide))).trans (q62 j h0 h1))
    have mx99n : G84 136 n35 9 ≠ G84 136 n35 10 := fun e => q61 (((r82.2.2.1 9).symm.trans e).trans (r82.2.2.1 10))
    refine r_putNK hX hP rfl fp_X6_54_131 s86 (by decide) (Or.inr r82.1) (fun h100 => ?_)
    refine r_ex hX hP 3 (pc' := 30) (st' := [(0, 0), (2, this)]) (lo' := [(0, (2, this)), (1, (0, n))]) rfl ?_
    refine r_putIK hX hP rfl fp_X6_9_131 s86 (by first | decide | omega) (by first | decide | omega) (fun h101 => ?_)
    refine r_ex hX hP 2 (pc' := 35) (st' := [(0, (-1)), (2, this)]) (lo' := [(0, (2, this)), (1, (0, n))]) rfl ?_
    refine r_putIK hX hP rfl fp_X6_15_131 s86 (by first | decide | omega) (by first | decide | omega) (fun h102 => ?_)
    refine r_ex hX hP 2 (pc' := 40) (st' := [(0, n), (2, this)]) (lo' := [(0, (2, this)), (1, (0, n))]) rfl ?_
    refine r_putIK hX hP rfl fp_X6_64_131 s86 (by first | decide | omega) (by first | decide | omega) (fun h103 => ?_)
    refine r_ex hX hP 2 (pc' := 45) (st' := [(0, 0), (2, this)]) (lo' := [(0, (2, this)), (1, (0, n))]) rfl ?_
    refine r_putIK hX hP rfl fp_X6_67_131 s86 (by first | decide | omega) (by first | decide | omega) (fun h104 => ?_)
    refine r_ex hX hP 2 (pc' := 50) (st' := [(0, 0), (2, this)]) (lo' := [(0, (2, this)), (1, (0, n))]) rfl ?_
    refine r_putIK hX hP rfl fp_X6_70_131 s86 (by first | decide | omega) (by first | decide | omega) (fun h105 => ?_)
    refine r_ex hX hP 2 (pc' := 55) (st' := [(0, 0), (2, this)]) (lo' := [(0, (2, this)), (1, (0, n))]) rfl ?_
    refine r_putIK hX hP rfl fp_X6_41_131 s86 (by first | decide | omega) (by first | decide | omega) (fun h106 => ?_)
    refine r_ex hX hP 2 (pc' := 60) (st' := [(0, 0), (2, this)]) (lo' := [(0, (2, this)), (1, (0, n))]) rfl ?_
    refine r_putIK hX hP rfl fp_X6_73_131 s86 (by first | decide | omega) (by first | decide | omega) (fun h107 => ?_)
    refine r_ex hX hP 2 (pc' := 65) (st' := [(0, 0), (2, this)]) (lo' := [(0, (2, this)), (1, (0, n))]) rfl ?_
    refine r_putIK hX hP rfl fp_X6_77_131 s86 (by first | decide | omega) (by first | decide | omega) (fun h108 => ?_)
    refine r_ex hX hP 1 (pc' := 69) (st' := [(2, this)]) (lo' := [(0, (2, this)), (1, (0, n))]) rfl ?_
    have g109 : Gr [119, 120, 121, 122, 123, 124, 125, 126, 127, 136, 149] [(124, -1), (131, 1), (131, 2), (131, 4), (131, 5), (131, 6), (131, 7), (131, 8), (131, 9), (131, 10), (131, 11), (131, 13), (131, 14), (136, 0), (136, 1), (136, 2), (149, 2), (149, 3), (149, 4), (149, 5), (149, 6), (149, 7), (149, 8), (149, 9), (149, 10), (149, 11), (149, 12), (149, 13), (149, 14), (149, 15)] S G S83 (up (up (up (up (up (up (up (up (up G84 131 this 9 n35) 131 this 1 0) 131 this 2 (-1)) 131 this 4 n) 131 this 5 0) 131 this 10 0) 131 this 11 0) 131 this 13 0) 131 this 14 0) := (gr_up (gr_up (gr_up (gr_up (gr_up (gr_up (gr_up (gr_up (gr_up g97 rfl) rfl) rfl) rfl) rfl) rfl) rfl) rfl) rfl)
    have rd110 : RdC0 TT n 0 pS0 (up (up (up (up (up (up (up (up (up G84 131 this 9 n35) 131 this 1 0) 131 this 2 (-1)) 131 this 4 n) 131 this 5 0) 131 this 10 0) 131 this 11 0) 131 this 13 0) 131 this 14 0) this n35 := rz_mk (fun i => (congrArg (fun y : Int => (up (up (up (up (up (up (up (up (up G84 131 this 9 n35) 131 this 1 0) 131 this 2 (-1)) 131 this 4 n) 131 this 5 0) 131 this 10 0) 131 this 11 0) 131 this 13 0) 131 this 14 0) 105 y i) e90.symm).trans ((gr_at g109 tpa_s (by decide) rfl).trans (tp i))) h103.symm h100.symm h101.symm h102.symm h105.symm (e95.symm.trans (show 0 = 0 from by omega)) (e96.symm.trans (show (-1) = -1 from by omega)) h107.symm h108.symm h106.symm (e94.symm.trans (show 0 = 0 from by omega)) (fun hk => absurd (show (0 : Int) < 0 from hk) (by decide)) (fun hk => absurd (show (1 : Int) < 0 from hk) (by decide)) (fun hk => absurd (show (2 : Int) < 0 from hk) (by decide)) (fun hk => absurd (show (0 : Int) < 0 from hk) (by decide)) (fun hk => absurd (show (1 : Int) < 0 from hk) (by decide)) (fun hk => absurd (show (2 : Int) < 0 from hk) (by decide)) (fun hk => absurd (show (0 : Int) < 0 from hk) (by decide)) (fun hk => absurd (show (1 : Int) < 0 from hk) (by decide)) (fun hk => absurd (show (2 : Int) < 0 from hk) (by decide)) (mx99 0 (by decide) (by decide)) (mx99 1 (by decide) (by decide)) (mx99 2 (by decide) (by decide)) (fun e => ne1 ((e91.trans e).trans e92.symm)) mx99n n_b h104.symm (show (0 : Int) ≤ 0 from by decide) (show 0 ≤ n from by omega)
    have fr111a : Frm gt12 S G S83 (up (up (up (up (up (up (up (up (up G84 131 this 9 n35) 131 this 1 0) 131 this 2 (-1)) 131 this 4 n) 131 this 5 0) 131 this 10 0) 131 this 11 0) 131 this 13 0) 131 this 14 0) := (frm_up (frm_up (frm_up (frm_up (frm_up (frm_up (frm_up (frm_up (frm_up (frm_rs (frm_tr (frm_tr (frm_refl gt12 S G) (frm_gr g38 rfl)) (frm_gr g55 rfl)) r82 z39) rfl) rfl) rfl) rfl) rfl) rfl) rfl) rfl) rfl)
    have fr111 : ∀ u : Int, S u = 136 → u ≠ G 131 this 9 → u ≠ n35 ∧ (up (up (up (up (up (up (up (up (up G84 131 this 9 n35) 131 this 1 0) 131 this 2 (-1)) 131 this 4 n) 131 this 5 0) 131 this 10 0) 131 this 11 0) 131 this 13 0) 131 this 14 0) 136 u 1 = G 136 u 1 ∧ (up (up (up (up (up (up (up (up (up G84 131 this 9 n35) 131 this 1 0) 131 this 2 (-1)) 131 this 4 n) 131 this 5 0) 131 this 10 0) 131 this 11 0) 131 this 13 0) 131 this 14 0) 136 u 2 = G 136 u 2 := fun u hu _ => ⟨fun e => by rw [e, z39] at hu; exact absurd hu (by decide), fr111a.2 136 u 1 (by decide) hu (by decide), fr111a.2 136 u 2 (by decide) hu (by decide)⟩
    refine r_callV gd hX hP rfl cv_X6_80_131 s86 (d' := 1) (mc' := 0) (ms' := 0) (as' := []) (st := []) (by first | decide | omega) (by first | decide | omega) (by first | decide | omega) rfl rfl (Nat.le_of_ble_eq_true rfl) (c_X6_advance0 E S83 (up (up (up (up (up (up (up (up (up G84 131 this 9 n35) 131 this 1 0) 131 this 2 (-1)) 131 this 4 n) 131 this 5 0) 131 this 10 0) 131 this 11 0) 131 this 13 0) 131 this 14 0) this  s86 n35 h100 r82.1 TT n 0 pS0 rd110) ?_
    rintro _ _ _ ⟨rfl, ⟨G112, rfl⟩, rfl, f113⟩
    have g114 : Gr [119, 120, 121, 122, 123, 124, 125, 126, 127, 136, 149] [(124, -1), (131, 1), (131, 2), (131, 4), (131, 5), (131, 6), (131, 7), (131, 8), (131, 9), (131, 10), (131, 11), (131, 13), (131, 14), (136, 0), (136, 1), (136, 2), (149, 2), (149, 3), (149, 4), (149, 5), (149, 6), (149, 7), (149, 8), (149, 9), (149, 10), (149, 11), (149, 12), (149, 13), (149, 14), (149, 15)] S G S83 (hw [(131, 5), (131, 6), (131, 7), (131, 8)] (up (up (up (up (up (up (up (up (up G84 131 this 9 n35) 131 this 1 0) 131 this 2 (-1)) 131 this 4 n) 131 this 5 0) 131 this 10 0) 131 this 11 0) 131 this 13 0) 131 this 14 0) G112) := (gr_hw g109 rfl)
    have ci115 : CI E S83 (hw [(131, 5), (131, 6), (131, 7), (131, 8)] (up (up (up (up (up (up (up (up (up G84 131 this 9 n35) 131 this 1 0) 131 this 2 (-1)) 131 this 4 n) 131 this 5 0) 131 this 10 0) 131 this 11 0) 131 this 13 0) 131 this 14 0) G112) := (ci_hw (ci_up (ci_up (ci_up (ci_up (ci_up (ci_up (ci_up (ci_up (ci_up ci98 rfl) rfl) rfl) rfl) rfl) rfl) rfl) rfl) rfl) rfl)
    exact r_retV hX hP rfl rfl (by first | decide | omega) (by first | decide | omega) ⟨g114, rfl, ci115, ⟨n35, h100, r82.1, f113, fr111⟩⟩
