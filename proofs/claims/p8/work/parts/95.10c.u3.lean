set_option maxRecDepth 100000 in
set_option maxHeartbeats 4000000 in
theorem c_add_LpiT (E : En) (S : Sg) (G : Gh) (this : Int) (e : Int) (hS : S this = 157) (e_s : S e = 138) (sz : Int) (sz_e : sz = G 157 this 2) (pre0 : sz + 1 ≤ 60) (ci : CI E S G) : Calls E mJx4a65c_add_9ea2d [(2, this), (2, e)] S G 14 1 73 (fun r S' G' => Gr [173, 174, 175, 176, 177, 178] [(157, 0), (157, 1), (157, 2), (173, -1), (174, -1), (175, -1), (176, -1), (177, -1), (178, -1)] S G S' G' ∧ ∃ z : Int, r = some (0, z) ∧ 1 ≤ z ∧ z ≤ 1 ∧ CI E S' G' ∧ G' 157 this 2 = sz + 1 ∧ (∀ i : Int, 0 ≤ i → i < sz → elm S' G' 157 this i = elm S G 157 this i) ∧ elm S' G' 157 this sz = e) := by
  refine calls_by [(0, (2, this)), (1, (2, e))] rfl rfl (Nat.le_of_ble_eq_true rfl) (fun X hX => ?_)
  have hP := hPJx4a65c_add_9ea2d
  refine r_peekI hX (tl_157 2 rfl (by decide)) hS (fun sz_o sz_oe sz_oa sz_ob => ?_)
  obtain rfl : sz = sz_o := sz_e.trans sz_oe.symm
  refine r_tk hX (fun tk0 => ?_)
  refine r_ex hX hP 2 (pc' := 2) (st' := [(2, this), (2, this)]) (lo' := [(0, (2, this)), (1, (2, e))]) rfl ?_
  refine r_getUI hX hP rfl fu_157 hS (fun mf1 mf1e mf1a mf1b => ?_)
  refine r_ex hX hP 2 (pc' := 7) (st' := [(0, (mf1 + 1)), (2, this)]) (lo' := [(0, (2, this)), (1, (2, e))]) rfl ?_
  refine r_hvI hX (fun w2 w2a w2b w2e => ?_)
  refine r_putUI hX hP rfl fu_157 hS (by first | decide | omega) (by first | decide | omega) ?_
  refine r_ex hX hP 3 (pc' := 13) (st' := [(2, this), (2, e), (2, this)]) (lo' := [(0, (2, this)), (1, (2, e))]) rfl ?_
  refine r_get5 hX hP rfl fl_Jx4a65c_9_157 hS (fun ef3 ef3e ef3o => ?_)
  refine r_ex hX hP 1 (pc' := 17) (st' := [(2, this), (2, ef3), (2, e), (2, this)]) (lo' := [(0, (2, this)), (1, (2, e))]) rfl ?_
  refine r_getKI hX hP rfl fl_Jx4a65c_48_157 hS (x := sz) sz_e ?_
  rcases ci.2.2.2.2.1 this hS with ⟨q1, q2⟩ | ⟨q1, q2, q3⟩ | ⟨q1, q2, q3⟩ | ⟨q1, q2, q3⟩ | ⟨q1, q2, q3⟩ | ⟨q1, q2, q3⟩ | ⟨q1, q2, q3⟩
  · skip
    obtain rfl : ef3 = Ad E 0 := ef3e.trans q1
    have q2 : sz = 0 := sz_e.trans q2
    have g4 : Gr [173, 174, 175, 176, 177, 178] [(157, 0), (157, 1), (157, 2), (173, -1), (174, -1), (175, -1), (176, -1), (177, -1), (178, -1)] S G S (up G 157 this 0 w2) := (gr_up (gr_refl [173, 174, 175, 176, 177, 178] [(157, 0), (157, 1), (157, 2), (173, -1), (174, -1), (175, -1), (176, -1), (177, -1), (178, -1)] S G) rfl)
    refine r_callV gd hX hP rfl cv_Jx4a65c_131_157 hS (d' := 12) (mc' := 1) (ms' := 10) (as' := [(2, e), (2, (Ad E 0)), (0, sz)]) (st := []) (by first | decide | omega) (by first | decide | omega) (by first | decide | omega) rfl rfl (Nat.le_of_ble_eq_true rfl) (c_ad3_Lpi_ET E S (up G 157 this 0 w2) this e (Ad E 0) sz hS e_s (by first | decide | omega) (by first | decide | omega) sz_e rfl ef3e) ?_
    rintro _ S5 G6 ⟨g7, rfl, q8, q9, q10, q11⟩
    have s12 : S5 this = 157 := gr_lab g7 hS (by decide)
    have s13 : S5 e = 138 := gr_lab g7 e_s (by decide)
    have g14 : Gr [173, 174, 175, 176, 177, 178] [(157, 0), (157, 1), (157, 2), (173, -1), (174, -1), (175, -1), (176, -1), (177, -1), (178, -1)] S G S5 G6 := gr_call g4 g7 rfl rfl
    refine r_ex hX hP 1 (pc' := 24) (st' := [(0, 1)]) (lo' := [(0, (2, this)), (1, (2, e))]) rfl ?_
    exact r_retZ hX hP rfl rfl (by first | decide | omega) (by first | decide | omega) (by first | decide | omega) (by first | decide | omega) ⟨g14, 1, rfl, (by first | decide | omega), (by first | decide | omega), (ci_ad3 ci tk0 g14 rfl rfl hS q8 (by have e := q9; omega)), q9, (fun i h0 h1 => by exfalso; omega), q11⟩
  · skip
    have qs : S ef3 = 173 := by rw [ef3e]; exact q1
    have q2 : sz ≤ 10 := by rw [sz_e]; exact q2
    have q3 : ∀ i : Int, 0 ≤ i → i < sz → S (G 173 ef3 i) = 138 := by rw [sz_e, ef3e]; exact q3
    have g15 : Gr [173, 174, 175, 176, 177, 178] [(157, 0), (157, 1), (157, 2), (173, -1), (174, -1), (175, -1), (176, -1), (177, -1), (178, -1)] S G S (up G 157 this 0 w2) := (gr_up (gr_refl [173, 174, 175, 176, 177, 178] [(157, 0), (157, 1), (157, 2), (173, -1), (174, -1), (175, -1), (176, -1), (177, -1), (178, -1)] S G) rfl)
    refine r_callV gd hX hP rfl cv_Jx4a65c_131_157 hS (d' := 12) (mc' := 1) (ms' := 15) (as' := [(2, e), (2, ef3), (0, sz)]) (st := []) (by first | decide | omega) (by first | decide | omega) (by first | decide | omega) rfl rfl (Nat.le_of_ble_eq_true rfl) (c_ad3_Lpi_0T E S (up G 157 this 0 w2) this e ef3 sz hS e_s qs (by first | decide | omega) (by first | decide | omega) sz_e ef3e q3) ?_
    rintro _ S16 G17 ⟨g18, rfl, q19, q20, q21, q22⟩
    have s23 : S16 this = 157 := gr_lab g18 hS (by decide)
    have s24 : S16 e = 138 := gr_lab g18 e_s (by decide)
    have s25 : S16 ef3 = 173 := gr_lab g18 qs (by decide)
    have g26 : Gr [173, 174, 175, 176, 177, 178] [(157, 0), (157, 1), (157, 2), (173, -1), (174, -1), (175, -1), (176, -1), (177, -1), (178, -1)] S G S16 G17 := gr_call g15 g18 rfl rfl
    refine r_ex hX hP 1 (pc' := 24) (st' := [(0, 1)]) (lo' := [(0, (2, this)), (1, (2, e))]) rfl ?_
    exact r_retZ hX hP rfl rfl (by first | decide | omega) (by first | decide | omega) (by first | decide | omega) (by first | decide | omega) ⟨g26, 1, rfl, (by first | decide | omega), (by first | decide | omega), (ci_ad3 ci tk0 g26 rfl rfl hS q19 (by have e := q20; omega)), q20, (fun i h0 h1 => (q21 i h0 h1).trans (elm_up (by decide) (by first | decide | omega))), q22⟩
  · skip
    have qs : S ef3 = 174 := by rw [ef3e]; exact q1
    have q2 : sz ≤ 15 := by rw [sz_e]; exact q2
    have q3 : ∀ i : Int, 0 ≤ i → i < sz → S (G 174 ef3 i) = 138 := by rw [sz_e, ef3e]; exact q3
    have g27 : Gr [173, 174, 175, 176, 177, 178] [(157, 0), (157, 1), (157, 2), (173, -1), (174, -1), (175, -1), (176, -1), (177, -1), (178, -1)] S G S (up G 157 this 0 w2) := (gr_up (gr_refl [173, 174, 175, 176, 177, 178] [(157, 0), (157, 1), (157, 2), (173, -1), (174, -1), (175, -1), (176, -1), (177, -1), (178, -1)] S G) rfl)
    refine r_callV gd hX hP rfl cv_Jx4a65c_131_157 hS (d' := 12) (mc' := 1) (ms' := 22) (as' := [(2, e), (2, ef3), (0, sz)]) (st := []) (by first | decide | omega) (by first | decide | omega) (by first | decide | omega) rfl rfl (Nat.le_of_ble_eq_true rfl) (c_ad3_Lpi_1T E S (up G 157 this 0 w2) this e ef3 sz hS e_s qs (by first | decide | omega) (by first | decide | omega) sz_e ef3e q3) ?_
    rintro _ S28 G29 ⟨g30, rfl, q31, q32, q33, q34⟩
    have s35 : S28 this = 157 := gr_lab g30 hS (by decide)
    have s36 : S28 e = 138 := gr_lab g30 e_s (by decide)
    have s37 : S28 ef3 = 174 := gr_lab g30 qs (by decide)
    have g38 : Gr [173, 174, 175, 176, 177, 178] [(157, 0), (157, 1), (157, 2), (173, -1), (174, -1), (175, -1), (176, -1), (177, -1), (178, -1)] S G S28 G29 := gr_call g27 g30 rfl rfl
    refine r_ex hX hP 1 (pc' := 24) (st' := [(0, 1)]) (lo' := [(0, (2, this)), (1, (2, e))]) rfl ?_
    exact r_retZ hX hP rfl rfl (by first | decide | omega) (by first | decide | omega) (by first | decide | omega) (by first | decide | omega) ⟨g38, 1, rfl, (by first | decide | omega), (by first | decide | omega), (ci_ad3 ci tk0 g38 rfl rfl hS q31 (by have e := q32; omega)), q32, (fun i h0 h1 => (q33 i h0 h1).trans (elm_up (by decide) (by first | decide | omega))), q34⟩
  · skip
    have qs : S ef3 = 175 := by rw [ef3e]; exact q1
    have q2 : sz ≤ 22 := by rw [sz_e]; exact q2
    have q3 : ∀ i : Int, 0 ≤ i → i < sz → S (G 175 ef3 i) = 138 := by rw [sz_e, ef3e]; exact q3
    have g39 : Gr [173, 174, 175, 176, 177, 178] [(157, 0), (157, 1), (157, 2), (173, -1), (174, -1), (175, -1), (176, -1), (177, -1), (178, -1)] S G S (up G 157 this 0 w2) := (gr_up (gr_refl [173, 174, 175, 176, 177, 178] [(157, 0), (157, 1), (157, 2), (173, -1), (174, -1), (175, -1), (176, -1), (177, -1), (178, -1)] S G) rfl)
    refine r_callV gd hX hP rfl cv_Jx4a65c_131_157 hS (d' := 12) (mc' := 1) (ms' := 33) (as' := [(2, e), (2, ef3), (0, sz)]) (st := []) (by first | decide | omega) (by first | decide | omega) (by first | decide | omega) rfl rfl (Nat.le_of_ble_eq_true rfl) (c_ad3_Lpi_2T E S (up G 157 this 0 w2) this e ef3 sz hS e_s qs (by first | decide | omega) (by first | decide | omega) sz_e ef3e q3) ?_
    rintro _ S40 G41 ⟨g42, rfl, q43, q44, q45, q46⟩
    have s47 : S40 this = 157 := gr_lab g42 hS (by decide)
    have s48 : S40 e = 138 := gr_lab g42 e_s (by decide)
    have s49 : S40 ef3 = 175 := gr_lab g42 qs (by decide)
    have g50 : Gr [173, 174, 175, 176, 177, 178] [(157, 0), (157, 1), (157, 2), (173, -1), (174, -1), (175, -1), (176, -1), (177, -1), (178, -1)] S G S40 G41 := gr_call g39 g42 rfl rfl
    refine r_ex hX hP 1 (pc' := 24) (st' := [(0, 1)]) (lo' := [(0, (2, this)), (1, (2, e))]) rfl ?_
    exact r_retZ hX hP rfl rfl (by first | decide | omega) (by first | decide | omega) (by first | decide | omega) (by first | decide | omega) ⟨g50, 1, rfl, (by first | decide | omega), (by first | decide | omega), (ci_ad3 ci tk0 g50 rfl rfl hS q43 (by have e := q44; omega)), q44, (fun i h0 h1 => (q45 i h0 h1).trans (elm_up (by decide) (by first | decide | omega))), q46⟩
  · skip
    have qs : S ef3 = 176 := by rw [ef3e]; exact q1
    have q2 : sz ≤ 33 := by rw [sz_e]; exact q2
    have q3 : ∀ i : Int, 0 ≤ i → i < sz → S (G 176 ef3 i) = 138 := by rw [sz_e, ef3e]; exact q3
    have g51 : Gr [173, 174, 175, 176, 177, 178] [(157, 0), (157, 1), (157, 2), (173, -1), (174, -1), (175, -1), (176, -1), (177, -1), (178, -1)] S G S (up G 157 this 0 w2) := (gr_up (gr_refl [173, 174, 175, 176, 177, 178] [(157, 0), (157, 1), (157, 2), (173, -1), (174, -1), (175, -1), (176, -1), (177, -1), (178, -1)] S G) rfl)
    refine r_callV gd hX hP rfl cv_Jx4a65c_131_157 hS (d' := 12) (mc' := 1) (ms' := 49) (as' := [(2, e), (2, ef3), (0, sz)]) (st := []) (by first | decide | omega) (by first | decide | omega) (by first | decide | omega) rfl rfl (Nat.le_of_ble_eq_true rfl) (c_ad3_Lpi_3T E S (up G 157 this 0 w2) this e ef3 sz hS e_s qs (by first | decide | omega) (by first | decide | omega) sz_e ef3e q3) ?_
    rintro _ S52 G53 ⟨g54, rfl, q55, q56, q57, q58⟩
    have s59 : S52 this = 157 := gr_lab g54 hS (by decide)
    have s60 : S52 e = 138 := gr_lab g54 e_s (by decide)
    have s61 : S52 ef3 = 176 := gr_lab g54 qs (by decide)
    have g62 : Gr [173, 174, 175, 176, 177, 178] [(157, 0), (157, 1), (157, 2), (173, -1), (174, -1), (175, -1), (176, -1), (177, -1), (178, -1)] S G S52 G53 := gr_call g51 g54 rfl rfl
    refine r_ex hX hP 1 (pc' := 24) (st' := [(0, 1)]) (lo' := [(0, (2, this)), (1, (2, e))]) rfl ?_
    exact r_retZ hX hP rfl rfl (by first | decide | omega) (by first | decide | omega) (by first | decide | omega) (by first | decide | omega) ⟨g62, 1, rfl, (by first | decide | omega), (by first | decide | omega), (ci_ad3 ci tk0 g62 rfl rfl hS q55 (by have e := q56; omega)), q56, (fun i h0 h1 => (q57 i h0 h1).trans (elm_up (by decide) (by first | decide | omega))), q58⟩
  · skip
    have qs : S ef3 = 177 := by rw [ef3e]; exact q1
    have q2 : sz ≤ 49 := by rw [sz_e]; exact q2
    have q3 : ∀ i : Int, 0 ≤ i → i < sz → S (G 177 ef3 i) = 138 := by rw [sz_e, ef3e]; exact q3
    have g63 : Gr [173, 174, 175, 176, 177, 178] [(157, 0), (157, 1), (157, 2), (173, -1), (174, -1), (175, -1), (176, -1), (177, -1), (178, -1)] S G S (up G 157 this 0 w2) := (gr_up (gr_refl [173, 174, 175, 176, 177, 178] [(157, 0), (157, 1), (157, 2), (173, -1), (174, -1), (175, -1), (176, -1), (177, -1), (178, -1)] S G) rfl)
    refine r_callV gd hX hP rfl cv_Jx4a65c_131_157 hS (d' := 12) (mc' := 1) (ms' := 73) (as' := [(2, e), (2, ef3), (0, sz)]) (st := []) (by first | decide | omega) (by first | decide | omega) (by first | decide | omega) rfl rfl (Nat.le_of_ble_eq_true rfl) (c_ad3_Lpi_4T E S (up G 157 this 0 w2) this e ef3 sz hS e_s qs (by first | decide | omega) (by first | decide | omega) sz_e ef3e q3) ?_
    rintro _ S64 G65 ⟨g66, rfl, q67, q68, q69, q70⟩
    have s71 : S64 this = 157 := gr_lab g66 hS (by decide)
    have s72 : S64 e = 138 := gr_lab g66 e_s (by decide)
    have s73 : S64 ef3 = 177 := gr_lab g66 qs (by decide)
    have g74 : Gr [173, 174, 175, 176, 177, 178] [(157, 0), (157, 1), (157, 2), (173, -1), (174, -1), (175, -1), (176, -1), (177, -1), (178, -1)] S G S64 G65 := gr_call g63 g66 rfl rfl
    refine r_ex hX hP 1 (pc' := 24) (st' := [(0, 1)]) (lo' := [(0, (2, this)), (1, (2, e))]) rfl ?_
    exact r_retZ hX hP rfl rfl (by first | decide | omega) (by first | decide | omega) (by first | decide | omega) (by first | decide | omega) ⟨g74, 1, rfl, (by first | decide | omega), (by first | decide | omega), (ci_ad3 ci tk0 g74 rfl rfl hS q67 (by have e := q68; omega)), q68, (fun i h0 h1 => (q69 i h0 h1).trans (elm_up (by decide) (by first | decide | omega))), q70⟩
  · skip
    have qs : S ef3 = 178 := by rw [ef3e]; exact q1
    have q2 : sz ≤ 73 := by rw [sz_e]; exact q2
    have q3 : ∀ i : Int, 0 ≤ i → i < sz → S (G 178 ef3 i) = 138 := by rw [sz_e, ef3e]; exact q3
    have g75 : Gr [173, 174, 175, 176, 177, 178] [(157, 0), (157, 1), (157, 2), (173, -1), (174, -1), (175, -1), (176, -1), (177, -1), (178, -1)] S G S (up G 157 this 0 w2) := (gr_up (gr_refl [173, 174, 175, 176, 177, 178] [(157, 0), (157, 1), (157, 2), (173, -1), (174, -1), (175, -1), (176, -1), (177, -1), (178, -1)] S G) rfl)
    refine r_callV gd hX hP rfl cv_Jx4a65c_131_157 hS (d' := 12) (mc' := 0) (ms' := 0) (as' := [(2, e), (2, ef3), (0, sz)]) (st := []) (by first | decide | omega) (by first | decide | omega) (by first | decide | omega) rfl rfl (Nat.le_of_ble_eq_true rfl) (c_ad3_Lpi_5T E S (up G 157 this 0 w2) this e ef3 sz hS e_s qs (by first | decide | omega) (by first | decide | omega) sz_e ef3e q3) ?_
    rintro _ S76 G77 ⟨g78, rfl, q79, q80, q81, q82⟩
    have s83 : S76 this = 157 := gr_lab g78 hS (by decide)
    have s84 : S76 e = 138 := gr_lab g78 e_s (by decide)
    have s85 : S76 ef3 = 178 := gr_lab g78 qs (by decide)
    have e86 : ef3 = G77 157 this 1 := gr_val g78 ef3e hS (by decide) rfl
    have g87 : Gr [173, 174, 175, 176, 177, 178] [(157, 0), (157, 1), (157, 2), (173, -1), (174, -1), (175, -1), (176, -1), (177, -1), (178, -1)] S G S76 G77 := gr_call g75 g78 rfl rfl
    refine r_ex hX hP 1 (pc' := 24) (st' := [(0, 1)]) (lo' := [(0, (2, this)), (1, (2, e))]) rfl ?_
    exact r_retZ hX hP rfl rfl (by first | decide | omega) (by first | decide | omega) (by first | decide | omega) (by first | decide | omega) ⟨g87, 1, rfl, (by first | decide | omega), (by first | decide | omega), (ci_ad3 ci tk0 g87 rfl rfl hS q79 (by have e := q80; omega)), q80, (fun i h0 h1 => (q81 i h0 h1).trans (elm_up (by decide) (by first | decide | omega))), q82⟩
set_option maxRecDepth 100000 in
set_option maxHeartbeats 4000000 in
theorem c_ad3_Lop_ET (E : En) (S : Sg) (G : Gh) (this : Int) (e : Int) (elementData : Int) (s : Int) (hS : S this = 158) (e_s : S e = 141) (s_a : 0 ≤ s) (s_b : s ≤ 0) (s_e : s = G 158 this 2) (ed_x : elementData = Ad E 0) (ed_e : Ad E 0 = G 158 this 1) : Calls E mJx4a65c_add_72be8 [(2, this), (2, e), (2, elementData), (0, s)] S G 12 1 10 (fun r S' G' => Gr [179] [(158, 1), (158, 2), (179, -1)] S G S' G' ∧ r = none ∧ LB4 E S' G' this ∧ G' 158 this 2 = s + 1 ∧ (∀ i : Int, 0 ≤ i → i < s → elm S' G' 158 this i = elm S G 158 this i) ∧ elm S' G' 158 this s = e) := by
  refine calls_by [(0, (2, this)), (1, (2, e)), (2, (2, elementData)), (3, (0, s))] rfl rfl (Nat.le_of_ble_eq_true rfl) (fun X hX => ?_)
  have hP := hPJx4a65c_add_72be8
  subst ed_x
  refine r_ex hX hP 2 (pc' := 2) (st' := [(2, (Ad E 0)), (0, s)]) (lo' := [(0, (2, this)), (1, (2, e)), (2, (2, (Ad E 0))), (3, (0, s))]) rfl ?_
  refine r_alenE hX hP rfl ?_
  refine r_ic_ne hX hP rfl (tgt := 11) rfl (by first | decide | omega) (by first | decide | omega) (by first | decide | omega) (by first | decide | omega) (fun c1 => ?_) (fun c1 => ?_)
  · skip
    exfalso; omega
  · skip
    refine r_ex hX hP 1 (pc' := 7) (st' := [(2, this)]) (lo' := [(0, (2, this)), (1, (2, e)), (2, (2, (Ad E 0))), (3, (0, s))]) rfl ?_
    have e2 : 0 = G 158 this 2 := by have e := s_e; omega
    refine r_callV gd hX hP rfl cv_Jx4a65c_129_158 hS (d' := 10) (mc' := 1) (ms' := 10) (as' := []) (st := []) (by first | decide | omega) (by first | decide | omega) (by first | decide | omega) rfl rfl (Nat.le_of_ble_eq_true rfl) (c_gr0_Lop_E E S G this  hS ed_e e2) ?_
    rintro _ S3 G4 ⟨g5, z6, rfl, z6s, q7⟩
    have s8 : S3 this = 158 := gr_lab g5 hS (by decide)
    have s9 : S3 e = 141 := gr_lab g5 e_s (by decide)
    have e10 : s = G4 158 this 2 := gr_val g5 s_e hS (by decide) rfl
    have g11 : Gr [179] [(158, 1), (158, 2), (179, -1)] S G S3 G4 := gr_call (gr_refl [179] [(158, 1), (158, 2), (179, -1)] S G) g5 rfl rfl
    have e12 : z6 = G4 158 this 1 := q7.symm
    refine r_ex hX hP 4 (pc' := 14) (st' := [(2, e), (0, s), (2, z6)]) (lo' := [(0, (2, this)), (1, (2, e)), (2, (2, z6)), (3, (0, s))]) rfl ?_
    refine r_aast hX hP rfl (L := 179) al_179 ck_141_O z6s s9 (by first | decide | omega) (by first | decide | omega) ?_
    refine r_ex hX hP 4 (pc' := 19) (st' := [(0, (s + 1)), (2, this)]) (lo' := [(0, (2, this)), (1, (2, e)), (2, (2, z6)), (3, (0, s))]) rfl ?_
    refine r_putIK hX hP rfl fp_Jx4a65c_48_158 s8 (by first | decide | omega) (by first | decide | omega) (fun h13 => ?_)
    have g14 : Gr [179] [(158, 1), (158, 2), (179, -1)] S G S3 (up (up G4 179 z6 s e) 158 this 2 (s + 1)) := (gr_up (gr_up g11 rfl) rfl)
    exact r_retV hX hP rfl rfl (by first | decide | omega) (by first | decide | omega) ⟨g14, rfl, (Or.inr ((lb_mk (G' := (up (up G4 179 z6 s e) 158 this 2 (s + 1))) e12 z6s h13 (by first | decide | omega) (le_store (fun i h0 h1 => by exfalso; omega) s9)))), (h13).symm, (fun i h0 h1 => by exfalso; omega), ((elm_mk (G := (up (up G4 179 z6 s e) 158 this 2 (s + 1))) (i := s) e12 z6s).trans (show (up G4 179 z6 s e) 179 z6 s = e from up_self _ _ _ _ _))⟩
set_option maxRecDepth 100000 in
set_option maxHeartbeats 4000000 in
theorem c_ad3_Lop_0T (E : En) (S : Sg) (G : Gh) (this : Int) (e : Int) (elementData : Int) (s : Int) (hS : S this = 158) (e_s : S e = 141) (elementData_s : S elementData = 179) (s_a : 0 ≤ s) (s_b : s ≤ 9) (s_e : s = G 158 this 2) (ed_e : elementData = G 158 this 1) (els : ∀ i : Int, 0 ≤ i → i < s → S (G 179 elementData i) = 141) : Calls E mJx4a65c_add_72be8 [(2, this), (2, e), (2, elementData), (0, s)] S G 12 0 0 (fun r S' G' => Gr [] [(158, 2), (179, -1)] S G S' G' ∧ r = none ∧ LB4 E S' G' this ∧ G' 158 this 2 = s + 1 ∧ (∀ i : Int, 0 ≤ i → i < s → elm S' G' 158 this i = elm S G 158 this i) ∧ elm S' G' 158 this s = e) := by
  refine calls_by [(0, (2, this)), (1, (2, e)), (2, (2, elementData)), (3, (0, s))] rfl rfl (Nat.le_of_ble_eq_true rfl) (fun X hX => ?_)
  have hP := hPJx4a65c_add_72be8
  refine r_ex hX hP 2 (pc' := 2) (st' := [(2, elementData), (0, s)]) (lo' := [(0, (2, this)), (1, (2, e)), (2, (2, elementData)), (3, (0, s))]) rfl ?_
  refine r_alen hX hP rfl al_179 elementData_s ?_
  refine r_ic_ne hX hP rfl (tgt := 11) rfl (by first | decide | omega) (by first | decide | omega) (by first | decide | omega) (by first | decide | omega) (fun c1 => ?_) (fun c1 => ?_)
  · skip
    refine r_ex hX hP 3 (pc' := 14) (st' := [(2, e), (0, s), (2, elementData)]) (lo' := [(0, (2, this)), (1, (2, e)), (2, (2, elementData)), (3, (0, s))]) rfl ?_
    refine r_aast hX hP rfl (L := 179) al_179 ck_141_O elementData_s e_s (by first | decide | omega) (by first | decide | omega) ?_
    refine r_ex hX hP 4 (pc' := 19) (st' := [(0, (s + 1)), (2, this)]) (lo' := [(0, (2, this)), (1, (2, e)), (2, (2, elementData)), (3, (0, s))]) rfl ?_
    refine r_putIK hX hP rfl fp_Jx4a65c_48_158 hS (by first | decide | omega) (by first | decide | omega) (fun h2 => ?_)
    have g3 : Gr [] [(158, 2), (179, -1)] S G S (up (up G 179 elementData s e) 158 this 2 (s + 1)) := (gr_up (gr_up (gr_refl [] [(158, 2), (179, -1)] S G) rfl) rfl)
    exact r_retV hX hP rfl rfl (by first | decide | omega) (by first | decide | omega) ⟨g3, rfl, (Or.inr ((lb_mk (G' := (up (up G 179 elementData s e) 158 this 2 (s + 1))) ed_e elementData_s h2 (by first | decide | omega) (le_store els e_s)))), (h2).symm, (fun i h0 h1 => (elm_mk (G := (up (up G 179 elementData s e) 158 this 2 (s + 1))) (i := i) ed_e elementData_s).trans (((show (up G 179 elementData s e) 179 elementData i = _ from up_ne (fun q => absurd q.2.2 (by first | decide | omega)))).trans (elm_mk (G := G) (i := i) ed_e elementData_s).symm)), ((elm_mk (G := (up (up G 179 elementData s e) 158 this 2 (s + 1))) (i := s) ed_e elementData_s).trans (show (up G 179 elementData s e) 179 elementData s = e from up_self _ _ _ _ _))⟩
  · skip
    exfalso; omega
set_option maxRecDepth 100000 in
set_option maxHeartbeats 4000000 in
theorem c_add_LopT (E : En) (S : Sg) (G : Gh) (this : Int) (e : Int) (hS : S this = 158) (e_s : S e = 141) (sz : Int) (sz_e : sz = G 158 this 2) (pre0 : sz + 1 ≤ 10) (ci : CI E S G) : Calls E mJx4a65c_add_9ea2d [(2, this), (2, e)] S G 14 1 10 (fun r S' G' => Gr [179] [(158, 0), (158, 1), (158, 2), (179, -1)] S G S' G' ∧ ∃ z : Int, r = some (0, z) ∧ 1 ≤ z ∧ z ≤ 1 ∧ CI E S' G' ∧ G' 158 this 2 = sz + 1 ∧ (∀ i : Int, 0 ≤ i → i < sz → elm S' G' 158 this i = elm S G 158 this i) ∧ elm S' G' 158 this sz = e) := by
  refine calls_by [(0, (2, this)), (1, (2, e))] rfl rfl (Nat.le_of_ble_eq_true rfl) (fun X hX => ?_)
  have hP := hPJx4a65c_add_9ea2d
  refine r_peekI hX (tl_158 2 rfl (by decide)) hS (fun sz_o sz_oe sz_oa sz_ob => ?_)
  obtain rfl : sz = sz_o := sz_e.trans sz_oe.symm
  refine r_tk hX (fun tk0 => ?_)
  refine r_ex hX hP 2 (pc' := 2) (st' := [(2, this), (2, this)]) (lo' := [(0, (2, this)), (1, (2, e))]) rfl ?_
  refine r_getUI hX hP rfl fu_158 hS (fun mf1 mf1e mf1a mf1b => ?_)
  refine r_ex hX hP 2 (pc' := 7) (st' := [(0, (mf1 + 1)), (2, this)]) (lo' := [(0, (2, this)), (1, (2, e))]) rfl ?_
  refine r_hvI hX (fun w2 w2a w2b w2e => ?_)
  refine r_putUI hX hP rfl fu_158 hS (by first | decide | omega) (by first | decide | omega) ?_
  refine r_ex hX hP 3 (pc' := 13) (st' := [(2, this), (2, e), (2, this)]) (lo' := [(0, (2, this)), (1, (2, e))]) rfl ?_
  refine r_get5 hX hP rfl fl_Jx4a65c_9_158 hS (fun ef3 ef3e ef3o => ?_)
  refine r_ex hX hP 1 (pc' := 17) (st' := [(2, this), (2, ef3), (2, e), (2, this)]) (lo' := [(0, (2, this)), (1, (2, e))]) rfl ?_
  refine r_getKI hX hP rfl fl_Jx4a65c_48_158 hS (x := sz) sz_e ?_
  rcases ci.2.2.2.2.2.1 this hS with ⟨q1, q2⟩ | ⟨q1, q2, q3⟩
  · skip
    obtain rfl : ef3 = Ad E 0 := ef3e.trans q1
    have q2 : sz = 0 := sz_e.trans q2
    have g4 : Gr [179] [(158, 0), (158, 1), (158, 2), (179, -1)] S G S (up G 158 this 0 w2) := (gr_up (gr_refl [179] [(158, 0), (158, 1), (158, 2), (179, -1)] S G) rfl)
    refine r_callV gd hX hP rfl cv_Jx4a65c_131_158 hS (d' := 12) (mc' := 1) (ms' := 10) (as' := [(2, e), (2, (Ad E 0)), (0, sz)]) (st := []) (by first | decide | omega) (by first | decide | omega) (by first | decide | omega) rfl rfl (Nat.le_of_ble_eq_true rfl) (c_ad3_Lop_ET E S (up G 158 this 0 w2) this e (Ad E 0) sz hS e_s (by first | decide | omega) (by first | decide | omega) sz_e rfl ef3e) ?_
    rintro _ S5 G6 ⟨g7, rfl, q8, q9, q10, q11⟩
    have s12 : S5 this = 158 := gr_lab g7 hS (by decide)
    have s13 : S5 e = 141 := gr_lab g7 e_s (by decide)
    have g14 : Gr [179] [(158, 0), (158, 1), (158, 2), (179, -1)] S G S5 G6 := gr_call g4 g7 rfl rfl
    refine r_ex hX hP 1 (pc' := 24) (st' := [(0, 1)]) (lo' := [(0, (2, this)), (1, (2, e))]) rfl ?_
    exact r_retZ hX hP rfl rfl (by first | decide | omega) (by first | decide | omega) (by first | decide | omega) (by first | decide | omega) ⟨g14, 1, rfl, (by first | decide | omega), (by first | decide | omega), (ci_ad4 ci tk0 g14 rfl rfl hS q8 (by have e := q9; omega)), q9, (fun i h0 h1 => by exfalso; omega), q11⟩
  · skip
    have qs : S ef3 = 179 := by rw [ef3e]; exact q1
    have q2 : sz ≤ 10 := by rw [sz_e]; exact q2
    have q3 : ∀ i : Int, 0 ≤ i → i < sz → S (G 179 ef3 i) = 141 := by rw [sz_e, ef3e]; exact q3
    have g15 : Gr [179] [(158, 0), (158, 1), (158, 2), (179, -1)] S G S (up G 158 this 0 w2) := (gr_up (gr_refl [179] [(158, 0), (158, 1), (158, 2), (179, -1)] S G) rfl)
    refine r_callV gd hX hP rfl cv_Jx4a65c_131_158 hS (d' := 12) (mc' := 0) (ms' := 0) (as' := [(2, e), (2, ef3), (0, sz)]) (st := []) (by first | decide | omega) (by first | decide | omega) (by first | decide | omega) rfl rfl (Nat.le_of_ble_eq_true rfl) (c_ad3_Lop_0T E S (up G 158 this 0 w2) this e ef3 sz hS e_s qs (by first | decide | omega) (by first | decide | omega) sz_e ef3e q3) ?_
    rintro _ S16 G17 ⟨g18, rfl, q19, q20, q21, q22⟩
    have s23 : S16 this = 158 := gr_lab g18 hS (by decide)
    have s24 : S16 e = 141 := gr_lab g18 e_s (by decide)
    have s25 : S16 ef3 = 179 := gr_lab g18 qs (by decide)
    have e26 : ef3 = G17 158 this 1 := gr_val g18 ef3e hS (by decide) rfl
    have g27 : Gr [179] [(158, 0), (158, 1), (158, 2), (179, -1)] S G S16 G17 := gr_call g15 g18 rfl rfl
    refine r_ex hX hP 1 (pc' := 24) (st' := [(0, 1)]) (lo' := [(0, (2, this)), (1, (2, e))]) rfl ?_
    exact r_retZ hX hP rfl rfl (by first | decide | omega) (by first | decide | omega) (by first | decide | omega) (by first | decide | omega) ⟨g27, 1, rfl, (by first | decide | omega), (by first | decide | omega), (ci_ad4 ci tk0 g27 rfl rfl hS q19 (by have e := q20; omega)), q20, (fun i h0 h1 => (q21 i h0 h1).trans (elm_up (by decide) (by first | decide | omega))), q22⟩
set_option maxRecDepth 100000 in
set_option maxHeartbeats 4000000 in
theorem c_ad3_Lna_ET (E : En) (S : Sg) (G : Gh) (this : Int) (e : Int) (elementData : Int) (s : Int) (hS : S this = 159) (e_s : S e = 141) (s_a : 0 ≤ s) (s_b : s ≤ 0) (s_e : s = G 159 this 2) (ed_x : elementData = Ad E 0) (ed_e : Ad E 0 = G 159 this 1) : Calls E mJx4a65c_add_72be8 [(2, this), (2, e), (2, elementData), (0, s)] S G 12 1 10 (fun r S' G' => Gr [180] [(159, 1), (159, 2), (180, -1)] S G S' G' ∧ r = none ∧ LB5 E S' G' this ∧ G' 159 this 2 = s + 1 ∧ (∀ i : Int, 0 ≤ i → i < s → elm S' G' 159 this i = elm S G 159 this i) ∧ elm S' G' 159 this s = e) := by
  refine calls_by [(0, (2, this)), (1, (2, e)), (2, (2, elementData)), (3, (0, s))] rfl rfl (Nat.le_of_ble_eq_true rfl) (fun X hX => ?_)
  have hP := hPJx4a65c_add_72be8
  subst ed_x
  refine r_ex hX hP 2 (pc' := 2) (st' := [(2, (Ad E 0)), (0, s)]) (lo' := [(0, (2, this)), (1, (2, e)), (2, (2, (Ad E 0))), (3, (0, s))]) rfl ?_
  refine r_alenE hX hP rfl ?_
  refine r_ic_ne hX hP rfl (tgt := 11) rfl (by first | decide | omega) (by first | decide | omega) (by first | decide | omega) (by first | decide | omega) (fun c1 => ?_) (fun c1 => ?_)
  · skip
    exfalso; omega
  · skip
    refine r_ex hX hP 1 (pc' := 7) (st' := [(2, this)]) (lo' := [(0, (2, this)), (1, (2, e)), (2, (2, (Ad E 0))), (3, (0, s))]) rfl ?_
    have e2 : 0 = G 159 this 2 := by have e := s_e; omega
    refine r_callV gd hX hP rfl cv_Jx4a65c_129_159 hS (d' := 10) (mc' := 1) (ms' := 10) (as' := []) (st := []) (by first | decide | omega) (by first | decide | omega) (by first | decide | omega) rfl rfl (Nat.le_of_ble_eq_true rfl) (c_gr0_Lna_E E S G this  hS ed_e e2) ?_
    rintro _ S3 G4 ⟨g5, z6, rfl, z6s, q7⟩
    have s8 : S3 this = 159 := gr_lab g5 hS (by decide)
    have s9 : S3 e = 141 := gr_lab g5 e_s (by decide)
    have e10 : s = G4 159 this 2 := gr_val g5 s_e hS (by decide) rfl
    have g11 : Gr [180] [(159, 1), (159, 2), (180, -1)] S G S3 G4 := gr_call (gr_refl [180] [(159, 1), (159, 2), (180, -1)] S G) g5 rfl rfl
    have e12 : z6 = G4 159 this 1 := q7.symm
    refine r_ex hX hP 4 (pc' := 14) (st' := [(2, e), (0, s), (2, z6)]) (lo' := [(0, (2, this)), (1, (2, e)), (2, (2, z6)), (3, (0, s))]) rfl ?_
    refine r_aast hX hP rfl (L := 180) al_180 ck_141_O z6s s9 (by first | decide | omega) (by first | decide | omega) ?_
    refine r_ex hX hP 4 (pc' := 19) (st' := [(0, (s + 1)), (2, this)]) (lo' := [(0, (2, this)), (1, (2, e)), (2, (2, z6)), (3, (0, s))]) rfl ?_
    refine r_putIK hX hP rfl fp_Jx4a65c_48_159 s8 (by first | decide | omega) (by first | decide | omega) (fun h13 => ?_)
    have g14 : Gr [180] [(159, 1), (159, 2), (180, -1)] S G S3 (up (up G4 180 z6 s e) 159 this 2 (s + 1)) := (gr_up (gr_up g11 rfl) rfl)
    exact r_retV hX hP rfl rfl (by first | decide | omega) (by first | decide | omega) ⟨g14, rfl, (Or.inr (Or.inl (lb_mk (G' := (up (up G4 180 z6 s e) 159 this 2 (s + 1))) e12 z6s h13 (by first | decide | omega) (le_store (fun i h0 h1 => by exfalso; omega) s9)))), (h13).symm, (fun i h0 h1 => by exfalso; omega), ((elm_mk (G := (up (up G4 180 z6 s e) 159 this 2 (s + 1))) (i := s) e12 z6s).trans (show (up G4 180 z6 s e) 180 z6 s = e from up_self _ _ _ _ _))⟩
set_option maxRecDepth 100000 in
set_option maxHeartbeats 4000000 in
theorem c_ad3_Lna_0T (E : En) (S : Sg) (G : Gh) (this : Int) (e : Int) (elementData : Int) (s : Int) (hS : S this = 159) (e_s : S e = 141) (elementData_s : S elementData = 180) (s_a : 0 ≤ s) (s_b : s ≤ 10) (s_e : s = G 159 this 2) (ed_e : elementData = G 159 this 1) (els : ∀ i : Int, 0 ≤ i → i < s → S (G 180 elementData i) = 141) : Calls E mJx4a65c_add_72be8 [(2, this), (2, e), (2, elementData), (0, s)] S G 12 1 15 (fun r S' G' => Gr [181] [(159, 1), (159, 2), (180, -1), (181, -1)] S G S' G' ∧ r = none ∧ LB5 E S' G' this ∧ G' 159 this 2 = s + 1 ∧ (∀ i : Int, 0 ≤ i → i < s → elm S' G' 159 this i = elm S G 159 this i) ∧ elm S' G' 159 this s = e) := by
  refine calls_by [(0, (2, this)), (1, (2, e)), (2, (2, elementData)), (3, (0, s))] rfl rfl (Nat.le_of_ble_eq_true rfl) (fun X hX => ?_)
  have hP := hPJx4a65c_add_72be8
  refine r_ex hX hP 2 (pc' := 2) (st' := [(2, elementData), (0, s)]) (lo' := [(0, (2, this)), (1, (2, e)), (2, (2, elementData)), (3, (0, s))]) rfl ?_
  refine r_alen hX hP rfl al_180 elementData_s ?_
  refine r_ic_ne hX hP rfl (tgt := 11) rfl (by first | decide | omega) (by first | decide | omega) (by first | decide | omega) (by first | decide | omega) (fun c1 => ?_) (fun c1 => ?_)
  · skip
    refine r_ex hX hP 3 (pc' := 14) (st' := [(2, e), (0, s), (2, elementData)]) (lo' := [(0, (2, this)), (1, (2, e)), (2, (2, elementData)), (3, (0, s))]) rfl ?_
    refine r_aast hX hP rfl (L := 180) al_180 ck_141_O elementData_s e_s (by first | decide | omega) (by first | decide | omega) ?_
    refine r_ex hX hP 4 (pc' := 19) (st' := [(0, (s + 1)), (2, this)]) (lo' := [(0, (2, this)), (1, (2, e)), (2, (2, elementData)), (3, (0, s))]) rfl ?_
    refine r_putIK hX hP rfl fp_Jx4a65c_48_159 hS (by first | decide | omega) (by first | decide | omega) (fun h2 => ?_)
    have g3 : Gr [181] [(159, 1), (159, 2), (180, -1), (181, -1)] S G S (up (up G 180 elementData s e) 159 this 2 (s + 1)) := (gr_up (gr_up (gr_refl [181] [(159, 1), (159, 2), (180, -1), (181, -1)] S G) rfl) rfl)
    exact r_retV hX hP rfl rfl (by first | decide | omega) (by first | decide | omega) ⟨g3, rfl, (Or.inr (Or.inl (lb_mk (G' := (up (up G 180 elementData s e) 159 this 2 (s + 1))) ed_e elementData_s h2 (by first | decide | omega) (le_store els e_s)))), (h2).symm, (fun i h0 h1 => (elm_mk (G := (up (up G 180 elementData s e) 159 this 2 (s + 1))) (i := i) ed_e elementData_s).trans (((show (up G 180 elementData s e) 180 elementData i = _ from up_ne (fun q => absurd q.2.2 (by first | decide | omega)))).trans (elm_mk (G := G) (i := i) ed_e elementData_s).symm)), ((elm_mk (G := (up (up G 180 elementData s e) 159 this 2 (s + 1))) (i := s) ed_e elementData_s).trans (show (up G 180 elementData s e) 180 elementData s = e from up_self _ _ _ _ _))⟩
  · skip
    refine r_ex hX hP 1 (pc' := 7) (st' := [(2, this)]) (lo' := [(0, (2, this)), (1, (2, e)), (2, (2, elementData)), (3, (0, s))]) rfl ?_
    have e4 : 10 = G 159 this 2 := by have e := s_e; omega
    refine r_callV gd hX hP rfl cv_Jx4a65c_129_159 hS (d' := 10) (mc' := 1) (ms' := 15) (as' := []) (st := []) (by first | decide | omega) (by first | decide | omega) (by first | decide | omega) rfl rfl (Nat.le_of_ble_eq_true rfl) (c_gr0_Lna_0 E S G this  hS elementData ed_e elementData_s e4) ?_
    rintro _ S5 G6 ⟨g7, z8, rfl, z8s, q9, q10⟩
    have s11 : S5 this = 159 := gr_lab g7 hS (by decide)
    have s12 : S5 e = 141 := gr_lab g7 e_s (by decide)
    have s13 : S5 elementData = 180 := gr_lab g7 elementData_s (by decide)
    have e14 : s = G6 159 this 2 := gr_val g7 s_e hS (by decide) rfl
    have g15 : Gr [181] [(159, 1), (159, 2), (180, -1), (181, -1)] S G S5 G6 := gr_call (gr_refl [181] [(159, 1), (159, 2), (180, -1), (181, -1)] S G) g7 rfl rfl
    have e16 : z8 = G6 159 this 1 := q9.symm
    refine r_ex hX hP 4 (pc' := 14) (st' := [(2, e), (0, s), (2, z8)]) (lo' := [(0, (2, this)), (1, (2, e)), (2, (2, z8)), (3, (0, s))]) rfl ?_
    refine r_aast hX hP rfl (L := 181) al_181 ck_141_O z8s s12 (by first | decide | omega) (by first | decide | omega) ?_
    refine r_ex hX hP 4 (pc' := 19) (st' := [(0, (s + 1)), (2, this)]) (lo' := [(0, (2, this)), (1, (2, e)), (2, (2, z8)), (3, (0, s))]) rfl ?_
    refine r_putIK hX hP rfl fp_Jx4a65c_48_159 s11 (by first | decide | omega) (by first | decide | omega) (fun h17 => ?_)
    have g18 : Gr [181] [(159, 1), (159, 2), (180, -1), (181, -1)] S G S5 (up (up G6 181 z8 s e) 159 this 2 (s + 1)) := (gr_up (gr_up g15 rfl) rfl)
    exact r_retV hX hP rfl rfl (by first | decide | omega) (by first | decide | omega) ⟨g18, rfl, (Or.inr (Or.inr (Or.inl (lb_mk (G' := (up (up G6 181 z8 s e) 159 this 2 (s + 1))) e16 z8s h17 (by first | decide | omega) (le_store (fun i h0 h1 => by rw [q10 i h0 (by first | decide | omega)]; exact gr_lab g7 (els i h0 h1) (by decide)) s12))))), (h17).symm, (fun i h0 h1 => (elm_mk (G := (up (up G6 181 z8 s e) 159 this 2 (s + 1))) (i := i) e16 z8s).trans ((((show (up G6 181 z8 s e) 181 z8 i = _ from up_ne (fun q => absurd q.2.2 (by first | decide | omega)))).trans (q10 i h0 (by first | decide | omega))).trans (elm_mk (G := G) (i := i) ed_e elementData_s).symm)), ((elm_mk (G := (up (up G6 181 z8 s e) 159 this 2 (s + 1))) (i := s) e16 z8s).trans (show (up G6 181 z8 s e) 181 z8 s = e from up_self _ _ _ _ _))⟩
set_option maxRecDepth 100000 in
set_option maxHeartbeats 4000000 in
theorem c_ad3_Lna_1T (E : En) (S : Sg) (G : Gh) (this : Int) (e : Int) (elementData : Int) (s : Int) (hS : S this = 159) (e_s : S e = 141) (elementData_s : S elementData = 181) (s_a : 0 ≤ s) (s_b : s ≤ 15) (s_e : s = G 159 this 2) (ed_e : elementData = G 159 this 1) (els : ∀ i : Int, 0 ≤ i → i < s → S (G 181 elementData i) = 141) : Calls E mJx4a65c_add_72be8 [(2, this), (2, e), (2, elementData), (0, s)] S G 12 1 22 (fun r S' G' => Gr [182] [(159, 1), (159, 2), (181, -1), (182, -1)] S G S' G' ∧ r = none ∧ LB5 E S' G' this ∧ G' 159 this 2 = s + 1 ∧ (∀ i : Int, 0 ≤ i → i < s → elm S' G' 159 this i = elm S G 159 this i) ∧ elm S' G' 159 this s = e) := by
  refine calls_by [(0, (2, this)), (1, (2, e)), (2, (2, elementData)), (3, (0, s))] rfl rfl (Nat.le_of_ble_eq_true rfl) (fun X hX => ?_)
  have hP := hPJx4a65c_add_72be8
  refine r_ex hX hP 2 (pc' := 2) (st' := [(2, elementData), (0, s)]) (lo' := [(0, (2, this)), (1, (2, e)), (2, (2, elementData)), (3, (0, s))]) rfl ?_
  refine r_alen hX hP rfl al_181 elementData_s ?_
  refine r_ic_ne hX hP rfl (tgt := 11) rfl (by first | decide | omega) (by first | decide | omega) (by first | decide | omega) (by first | decide | omega) (fun c1 => ?_) (fun c1 => ?_)
  · skip
    refine r_ex hX hP 3 (pc' := 14) (st' := [(2, e), (0, s), (2, elementData)]) (lo' := [(0, (2, this)), (1, (2, e)), (2, (2, elementData)), (3, (0, s))]) rfl ?_
    refine r_aast hX hP rfl (L := 181) al_181 ck_141_O elementData_s e_s (by first | decide | omega) (by first | decide | omega) ?_
    refine r_ex hX hP 4 (pc' := 19) (st' := [(0, (s + 1)), (2, this)]) (lo' := [(0, (2, this)), (1, (2, e)), (2, (2, elementData)), (3, (0, s))]) rfl ?_
    refine r_putIK hX hP rfl fp_Jx4a65c_48_159 hS (by first | decide | omega) (by first | decide | omega) (fun h2 => ?_)
    have g3 : Gr [182] [(159, 1), (159, 2), (181, -1), (182, -1)] S G S (up (up G 181 elementData s e) 159 this 2 (s + 1)) := (gr_up (gr_up (gr_refl [182] [(159, 1), (159, 2), (181, -1), (182, -1)] S G) rfl) rfl)
    exact r_retV hX hP rfl rfl (by first | decide | omega) (by first | decide | omega) ⟨g3, rfl, (Or.inr (Or.inr (Or.inl (lb_mk (G' := (up (up G 181 elementData s e) 159 this 2 (s + 1))) ed_e elementData_s h2 (by first | decide | omega) (le_store els e_s))))), (h2).symm, (fun i h0 h1 => (elm_mk (G := (up (up G 181 elementData s e) 159 this 2 (s + 1))) (i := i) ed_e elementData_s).trans (((show (up G 181 elementData s e) 181 elementData i = _ from up_ne (fun q => absurd q.2.2 (by first | decide | omega)))).trans (elm_mk (G := G) (i := i) ed_e elementData_s).symm)), ((elm_mk (G := (up (up G 181 elementData s e) 159 this 2 (s + 1))) (i := s) ed_e elementData_s).trans (show (up G 181 elementData s e) 181 elementData s = e from up_self _ _ _ _ _))⟩
  · skip
    refine r_ex hX hP 1 (pc' := 7) (st' := [(2, this)]) (lo' := [(0, (2, this)), (1, (2, e)), (2, (2, elementData)), (3, (0, s))]) rfl ?_
    have e4 : 15 = G 159 this 2 := by have e := s_e; omega
    refine r_callV gd hX hP rfl cv_Jx4a65c_129_159 hS (d' := 10) (mc' := 1) (ms' := 22) (as' := []) (st := []) (by first | decide | omega) (by first | decide | omega) (by first | decide | omega) rfl rfl (Nat.le_of_ble_eq_true rfl) (c_gr0_Lna_1 E S G this  hS elementData ed_e elementData_s e4) ?_
    rintro _ S5 G6 ⟨g7, z8, rfl, z8s, q9, q10⟩
    have s11 : S5 this = 159 := gr_lab g7 hS (by decide)
    have s12 : S5 e = 141 := gr_lab g7 e_s (by decide)
    have s13 : S5 elementData = 181 := gr_lab g7 elementData_s (by decide)
    have e14 : s = G6 159 this 2 := gr_val g7 s_e hS (by decide) rfl
    have g15 : Gr [182] [(159, 1), (159, 2), (181, -1), (182, -1)] S G S5 G6 := gr_call (gr_refl [182] [(159, 1), (159, 2), (181, -1), (182, -1)] S G) g7 rfl rfl
    have e16 : z8 = G6 159 this 1 := q9.symm
    refine r_ex hX hP 4 (pc' := 14) (st' := [(2, e), (0, s), (2, z8)]) (lo' := [(0, (2, this)), (1, (2, e)), (2, (2, z8)), (3, (0, s))]) rfl ?_
    refine r_aast hX hP rfl (L := 182) al_182 ck_141_O z8s s12 (by first | decide | omega) (by first | decide | omega) ?_
    refine r_ex hX hP 4 (pc' := 19) (st' := [(0, (s + 1)), (2, this)]) (lo' := [(0, (2, this)), (1, (2, e)), (2, (2, z8)), (3, (0, s))]) rfl ?_
    refine r_putIK hX hP rfl fp_Jx4a65c_48_159 s11 (by first | decide | omega) (by first | decide | omega) (fun h17 => ?_)
    have g18 : Gr [182] [(159, 1), (159, 2), (181, -1), (182, -1)] S G S5 (up (up G6 182 z8 s e) 159 this 2 (s + 1)) := (gr_up (gr_up g15 rfl) rfl)
    exact r_retV hX hP rfl rfl (by first | decide | omega) (by first | decide | omega) ⟨g18, rfl, (Or.inr (Or.inr (Or.inr (Or.inl (lb_mk (G' := (up (up G6 182 z8 s e) 159 this 2 (s + 1))) e16 z8s h17 (by first | decide | omega) (le_store (fun i h0 h1 => by rw [q10 i h0 (by first | decide | omega)]; exact gr_lab g7 (els i h0 h1) (by decide)) s12)))))), (h17).symm, (fun i h0 h1 => (elm_mk (G := (up (up G6 182 z8 s e) 159 this 2 (s + 1))) (i := i) e16 z8s).trans ((((show (up G6 182 z8 s e) 182 z8 i = _ from up_ne (fun q => absurd q.2.2 (by first | decide | omega)))).trans (q10 i h0 (by first | decide | omega))).trans (elm_mk (G := G) (i := i) ed_e elementData_s).symm)), ((elm_mk (G := (up (up G6 182 z8 s e) 159 this 2 (s + 1))) (i := s) e16 z8s).trans (show (up G6 182 z8 s e) 182 z8 s = e from up_self _ _ _ _ _))⟩
set_option maxRecDepth 100000 in
set_option maxHeartbeats 4000000 in
theorem c_ad3_Lna_2T (E : En) (S : Sg) (G : Gh) (this : Int) (e : Int) (elementData : Int) (s : Int) (hS : S this = 159) (e_s : S e = 141) (elementData_s : S elementData = 182) (s_a : 0 ≤ s) (s_b : s ≤ 22) (s_e : s = G 159 this 2) (ed_e : elementData = G 159 this 1) (els : ∀ i : Int, 0 ≤ i → i < s → S (G 182 elementData i) = 141) : Calls E mJx4a65c_add_72be8 [(2, this), (2, e), (2, elementData), (0, s)] S G 12 1 33 (fun r S' G' => Gr [183] [(159, 1), (159, 2), (182, -1), (183, -1)] S G S' G' ∧ r = none ∧ LB5 E S' G' this ∧ G' 159 this 2 = s + 1 ∧ (∀ i : Int, 0 ≤ i → i < s → elm S' G' 159 this i = elm S G 159 this i) ∧ elm S' G' 159 this s = e) := by
  refine calls_by [(0, (2, this)), (1, (2, e)), (2, (2, elementData)), (3, (0, s))] rfl rfl (Nat.le_of_ble_eq_true rfl) (fun X hX => ?_)
  have hP := hPJx4a65c_add_72be8
  refine r_ex hX hP 2 (pc' := 2) (st' := [(2, elementData), (0, s)]) (lo' := [(0, (2, this)), (1, (2, e)), (2, (2, elementData)), (3, (0, s))]) rfl ?_
  refine r_alen hX hP rfl al_182 elementData_s ?_
  refine r_ic_ne hX hP rfl (tgt := 11) rfl (by first | decide | omega) (by first | decide | omega) (by first | decide | omega) (by first | decide | omega) (fun c1 => ?_) (fun c1 => ?_)
  · skip
    refine r_ex hX hP 3 (pc' := 14) (st' := [(2, e), (0, s), (2, elementData)]) (lo' := [(0, (2, this)), (1, (2, e)), (2, (2, elementData)), (3, (0, s))]) rfl ?_
    refine r_aast hX hP rfl (L := 182) al_182 ck_141_O elementData_s e_s (by first | decide | omega) (by first | decide | omega) ?_
    refine r_ex hX hP 4 (pc' := 19) (st' := [(0, (s + 1)), (2, this)]) (lo' := [(0, (2, this)), (1, (2, e)), (2, (2, elementData)), (3, (0, s))]) rfl ?_
    refine r_putIK hX hP rfl fp_Jx4a65c_48_159 hS (by first | decide | omega) (by first | decide | omega) (fun h2 => ?_)
    have g3 : Gr [183] [(159, 1), (159, 2), (182, -1), (183, -1)] S G S (up (up G 182 elementData s e) 159 this 2 (s + 1)) := (gr_up (gr_up (gr_refl [183] [(159, 1), (159, 2), (182, -1), (183, -1)] S G) rfl) rfl)
    exact r_retV hX hP rfl rfl (by first | decide | omega) (by first | decide | omega) ⟨g3, rfl, (Or.inr (Or.inr (Or.inr (Or.inl (lb_mk (G' := (up (up G 182 elementData s e) 159 this 2 (s + 1))) ed_e elementData_s h2 (by first | decide | omega) (le_store els e_s)))))), (h2).symm, (fun i h0 h1 => (elm_mk (G := (up (up G 182 elementData s e) 159 this 2 (s + 1))) (i := i) ed_e elementData_s).trans (((show (up G 182 elementData s e) 182 elementData i = _ from up_ne (fun q => absurd q.2.2 (by first | decide | omega)))).trans (elm_mk (G := G) (i := i) ed_e elementData_s).symm)), ((elm_mk (G := (up (up G 182 elementData s e) 159 this 2 (s + 1))) (i := s) ed_e elementData_s).trans (show (up G 182 elementData s e) 182 elementData s = e from up_self _ _ _ _ _))⟩
  · skip
    refine r_ex hX hP 1 (pc' := 7) (st' := [(2, this)]) (lo' := [(0, (2, this)), (1, (2, e)), (2, (2, elementData)), (3, (0, s))]) rfl ?_
    have e4 : 22 = G 159 this 2 := by have e := s_e; omega
    refine r_callV gd hX hP rfl cv_Jx4a65c_129_159 hS (d' := 10) (mc' := 1) (ms' := 33) (as' := []) (st := []) (by first | decide | omega) (by first | decide | omega) (by first | decide | omega) rfl rfl (Nat.le_of_ble_eq_true rfl) (c_gr0_Lna_2 E S G this  hS elementData ed_e elementData_s e4) ?_
    rintro _ S5 G6 ⟨g7, z8, rfl, z8s, q9, q10⟩
    have s11 : S5 this = 159 := gr_lab g7 hS (by decide)
    have s12 : S5 e = 141 := gr_lab g7 e_s (by decide)
    have s13 : S5 elementData = 182 := gr_lab g7 elementData_s (by decide)
    have e14 : s = G6 159 this 2 := gr_val g7 s_e hS (by decide) rfl
    have g15 : Gr [183] [(159, 1), (159, 2), (182, -1), (183, -1)] S G S5 G6 := gr_call (gr_refl [183] [(159, 1), (159, 2), (182, -1), (183, -1)] S G) g7 rfl rfl
    have e16 : z8 = G6 159 this 1 := q9.symm
    refine r_ex hX hP 4 (pc' := 14) (st' := [(2, e), (0, s), (2, z8)]) (lo' := [(0, (2, this)), (1, (2, e)), (2, (2, z8)), (3, (0, s))]) rfl ?_
    refine r_aast hX hP rfl (L := 183) al_183 ck_141_O z8s s12 (by first | decide | omega) (by first | decide | omega) ?_
    refine r_ex hX hP 4 (pc' := 19) (st' := [(0, (s + 1)), (2, this)]) (lo' := [(0, (2, this)), (1, (2, e)), (2, (2, z8)), (3, (0, s))]) rfl ?_
    refine r_putIK hX hP rfl fp_Jx4a65c_48_159 s11 (by first | decide | omega) (by first | decide | omega) (fun h17 => ?_)
    have g18 : Gr [183] [(159, 1), (159, 2), (182, -1), (183, -1)] S G S5 (up (up G6 183 z8 s e) 159 this 2 (s + 1)) := (gr_up (gr_up g15 rfl) rfl)
    exact r_retV hX hP rfl rfl (by first | decide | omega) (by first | decide | omega) ⟨g18, rfl, (Or.inr (Or.inr (Or.inr (Or.inr (Or.inl (lb_mk (G' := (up (up G6 183 z8 s e) 159 this 2 (s + 1))) e16 z8s h17 (by first | decide | omega) (le_store (fun i h0 h1 => by rw [q10 i h0 (by first | decide | omega)]; exact gr_lab g7 (els i h0 h1) (by decide)) s12))))))), (h17).symm, (fun i h0 h1 => (elm_mk (G := (up (up G6 183 z8 s e) 159 this 2 (s + 1))) (i := i) e16 z8s).trans ((((show (up G6 183 z8 s e) 183 z8 i = _ from up_ne (fun q => absurd q.2.2 (by first | decide | omega)))).trans (q10 i h0 (by first | decide | omega))).trans (elm_mk (G := G) (i := i) ed_e elementData_s).symm)), ((elm_mk (G := (up (up G6 183 z8 s e) 159 this 2 (s + 1))) (i := s) e16 z8s).trans (show (up G6 183 z8 s e) 183 z8 s = e from up_self _ _ _ _ _))⟩
set_option maxRecDepth 100000 in
set_option maxHeartbeats 4000000 in
theorem c_ad3_Lna_3T (E : En) (S : Sg) (G : Gh) (this : Int) (e : Int) (elementData : Int) (s : Int) (hS : S this = 159) (e_s : S e = 141) (elementData_s : S elementData = 183) (s_a : 0 ≤ s) (s_b : s ≤ 33) (s_e : s = G 159 this 2) (ed_e : elementData = G 159 this 1) (els : ∀ i : Int, 0 ≤ i → i < s → S (G 183 elementData i) = 141) : Calls E mJx4a65c_add_72be8 [(2, this), (2, e), (2, elementData), (0, s)] S G 12 1 49 (fun r S' G' => Gr [184] [(159, 1), (159, 2), (183, -1), (184, -1)] S G S' G' ∧ r = none ∧ LB5 E S' G' this ∧ G' 159 this 2 = s + 1 ∧ (∀ i : Int, 0 ≤ i → i < s → elm S' G' 159 this i = elm S G 159 this i) ∧ elm S' G' 159 this s = e) := by
  refine calls_by [(0, (2, this)), (1, (2, e)), (2, (2, elementData)), (3, (0, s))] rfl rfl (Nat.le_of_ble_eq_true rfl) (fun X hX => ?_)
  have hP := hPJx4a65c_add_72be8
  refine r_ex hX hP 2 (pc' := 2) (st' := [(2, elementData), (0, s)]) (lo' := [(0, (2, this)), (1, (2, e)), (2, (2, elementData)), (3, (0, s))]) rfl ?_
  refine r_alen hX hP rfl al_183 elementData_s ?_
  refine r_ic_ne hX hP rfl (tgt := 11) rfl (by first | decide | omega) (by first | decide | omega) (by first | decide | omega) (by first | decide | omega) (fun c1 => ?_) (fun c1 => ?_)
  · skip
    refine r_ex hX hP 3 (pc' := 14) (st' := [(2, e), (0, s), (2, elementData)]) (lo' := [(0, (2, this)), (1, (2, e)), (2, (2, elementData)), (3, (0, s))]) rfl ?_
    refine r_aast hX hP rfl (L := 183) al_183 ck_141_O elementData_s e_s (by first | decide | omega) (by first | decide | omega) ?_
    refine r_ex hX hP 4 (pc' := 19) (st' := [(0, (s + 1)), (2, this)]) (lo' := [(0, (2, this)), (1, (2, e)), (2, (2, elementData)), (3, (0, s))]) rfl ?_
    refine r_putIK hX hP rfl fp_Jx4a65c_48_159 hS (by first | decide | omega) (by first | decide | omega) (fun h2 => ?_)
    have g3 : Gr [184] [(159, 1), (159, 2), (183, -1), (184, -1)] S G S (up (up G 183 elementData s e) 159 this 2 (s + 1)) := (gr_up (gr_up (gr_refl [184] [(159, 1), (159, 2), (183, -1), (184, -1)] S G) rfl) rfl)
    exact r_retV hX hP rfl rfl (by first | decide | omega) (by first | decide | omega) ⟨g3, rfl, (Or.inr (Or.inr (Or.inr (Or.inr (Or.inl (lb_mk (G' := (up (up G 183 elementData s e) 159 this 2 (s + 1))) ed_e elementData_s h2 (by first | decide | omega) (le_store els e_s))))))), (h2).symm, (fun i h0 h1 => (elm_mk (G := (up (up G 183 elementData s e) 159 this 2 (s + 1))) (i := i) ed_e elementData_s).trans (((show (up G 183 elementData s e) 183 elementData i = _ from up_ne (fun q => absurd q.2.2 (by first | decide | omega)))).trans (elm_mk (G := G) (i := i) ed_e elementData_s).symm)), ((elm_mk (G := (up (up G 183 elementData s e) 159 this 2 (s + 1))) (i := s) ed_e elementData_s).trans (show (up G 183 elementData s e) 183 elementData s = e from up_self _ _ _ _ _))⟩
  · skip
    refine r_ex hX hP 1 (pc' := 7) (st' := [(2, this)]) (lo' := [(0, (2, this)), (1, (2, e)), (2, (2, elementData)), (3, (0, s))]) rfl ?_
    have e4 : 33 = G 159 this 2 := by have e := s_e; omega
    refine r_callV gd hX hP rfl cv_Jx4a65c_129_159 hS (d' := 10) (mc' := 1) (ms' := 49) (as' := []) (st := []) (by first | decide | omega) (by first | decide | omega) (by first | decide | omega) rfl rfl (Nat.le_of_ble_eq_true rfl) (c_gr0_Lna_3 E S G this  hS elementData ed_e elementData_s e4) ?_
    rintro _ S5 G6 ⟨g7, z8, rfl, z8s, q9, q10⟩
    have s11 : S5 this = 159 := gr_lab g7 hS (by decide)
    have s12 : S5 e = 141 := gr_lab g7 e_s (by decide)
    have s13 : S5 elementData = 183 := gr_lab g7 elementData_s (by decide)
    have e14 : s = G6 159 this 2 := gr_val g7 s_e hS (by decide) rfl
    have g15 : Gr [184] [(159, 1), (159, 2), (183, -1), (184, -1)] S G S5 G6 := gr_call (gr_refl [184] [(159, 1), (159, 2), (183, -1), (184, -1)] S G) g7 rfl rfl
    have e16 : z8 = G6 159 this 1 := q9.symm
    refine r_ex hX hP 4 (pc' := 14) (st' := [(2, e), (0, s), (2, z8)]) (lo' := [(0, (2, this)), (1, (2, e)), (2, (2, z8)), (3, (0, s))]) rfl ?_
    refine r_aast hX hP rfl (L := 184) al_184 ck_141_O z8s s12 (by first | decide | omega) (by first | decide | omega) ?_
    refine r_ex hX hP 4 (pc' := 19) (st' := [(0, (s + 1)), (2, this)]) (lo' := [(0, (2, this)), (1, (2, e)), (2, (2, z8)), (3, (0, s))]) rfl ?_
    refine r_putIK hX hP rfl fp_Jx4a65c_48_159 s11 (by first | decide | omega) (by first | decide | omega) (fun h17 => ?_)
    have g18 : Gr [184] [(159, 1), (159, 2), (183, -1), (184, -1)] S G S5 (up (up G6 184 z8 s e) 159 this 2 (s + 1)) := (gr_up (gr_up g15 rfl) rfl)
    exact r_retV hX hP rfl rfl (by first | decide | omega) (by first | decide | omega) ⟨g18, rfl, (Or.inr (Or.inr (Or.inr (Or.inr (Or.inr (Or.inl (lb_mk (G' := (up (up G6 184 z8 s e) 159 this 2 (s + 1))) e16 z8s h17 (by first | decide | omega) (le_store (fun i h0 h1 => by rw [q10 i h0 (by first | decide | omega)]; exact gr_lab g7 (els i h0 h1) (by decide)) s12)))))))), (h17).symm, (fun i h0 h1 => (elm_mk (G := (up (up G6 184 z8 s e) 159 this 2 (s + 1))) (i := i) e16 z8s).trans ((((show (up G6 184 z8 s e) 184 z8 i = _ from up_ne (fun q => absurd q.2.2 (by first | decide | omega)))).trans (q10 i h0 (by first | decide | omega))).trans (elm_mk (G := G) (i := i) ed_e elementData_s).symm)), ((elm_mk (G := (up (up G6 184 z8 s e) 159 this 2 (s + 1))) (i := s) e16 z8s).trans (show (up G6 184 z8 s e) 184 z8 s = e from up_self _ _ _ _ _))⟩
set_option maxRecDepth 100000 in
set_option maxHeartbeats 4000000 in
theorem c_ad3_Lna_4T (E : En) (S : Sg) (G : Gh) (this : Int) (e : Int) (elementData : Int) (s : Int) (hS : S this = 159) (e_s : S e = 141) (elementData_s : S elementData = 184) (s_a : 0 ≤ s) (s_b : s ≤ 49) (s_e : s = G 159 this 2) (ed_e : elementData = G 159 this 1) (els : ∀ i : Int, 0 ≤ i → i < s → S (G 184 elementData i) = 141) : Calls E mJx4a65c_add_72be8 [(2, this), (2, e), (2, elementData), (0, s)] S G 12 1 73 (fun r S' G' => Gr [185] [(159, 1), (159, 2), (184, -1), (185, -1)] S G S' G' ∧ r = none ∧ LB5 E S' G' this ∧ G' 159 this 2 = s + 1 ∧ (∀ i : Int, 0 ≤ i → i < s → elm S' G' 159 this i = elm S G 159 this i) ∧ elm S' G' 159 this s = e) := by
  refine calls_by [(0, (2, this)), (1, (2, e)), (2, (2, elementData)), (3, (0, s))] rfl rfl (Nat.le_of_ble_eq_true rfl) (fun X hX => ?_)
  have hP := hPJx4a65c_add_72be8
  refine r_ex hX hP 2 (pc' := 2) (st' := [(2, elementData), (0, s)]) (lo' := [(0, (2, this)), (1, (2, e)), (2, (2, elementData)), (3, (0, s))]) rfl ?_
  refine r_alen hX hP rfl al_184 elementData_s ?_
  refine r_ic_ne hX hP rfl (tgt := 11) rfl (by first | decide | omega) (by first | decide | omega) (by first | decide | omega) (by first | decide | omega) (fun c1 => ?_) (fun c1 => ?_)
  · skip
    refine r_ex hX hP 3 (pc' := 14) (st' := [(2, e), (0, s), (2, elementData)]) (lo' := [(0, (2, this)), (1, (2, e)), (2, (2, elementData)), (3, (0, s))]) rfl ?_
    refine r_aast hX hP rfl (L := 184) al_184 ck_141_O elementData_s e_s (by first | decide | omega) (by first | decide | omega) ?_
    refine r_ex hX hP 4 (pc' := 19) (st' := [(0, (s + 1)), (2, this)]) (lo' := [(0, (2, this)), (1, (2, e)), (2, (2, elementData)), (3, (0, s))]) rfl ?_
    refine r_putIK hX hP rfl fp_Jx4a65c_48_159 hS (by first | decide | omega) (by first | decide | omega) (fun h2 => ?_)
    have g3 : Gr [185] [(159, 1), (159, 2), (184, -1), (185, -1)] S G S (up (up G 184 elementData s e) 159 this 2 (s + 1)) := (gr_up (gr_up (gr_refl [185] [(159, 1), (159, 2), (184, -1), (185, -1)] S G) rfl) rfl)
    exact r_retV hX hP rfl rfl (by first | decide | omega) (by first | decide | omega) ⟨g3, rfl, (Or.inr (Or.inr (Or.inr (Or.inr (Or.inr (Or.inl (lb_mk (G' := (up (up G 184 elementData s e) 159 this 2 (s + 1))) ed_e elementData_s h2 (by first | decide | omega) (le_store els e_s)))))))), (h2).symm, (fun i h0 h1 => (elm_mk (G := (up (up G 184 elementData s e) 159 this 2 (s + 1))) (i := i) ed_e elementData_s).trans (((show (up G 184 elementData s e) 184 elementData i = _ from up_ne (fun q => absurd q.2.2 (by first | decide | omega)))).trans (elm_mk (G := G) (i := i) ed_e elementData_s).symm)), ((elm_mk (G := (up (up G 184 elementData s e) 159 this 2 (s + 1))) (i := s) ed_e elementData_s).trans (show (up G 184 elementData s e) 184 elementData s = e from up_self _ _ _ _ _))⟩
  · skip
    refine r_ex hX hP 1 (pc' := 7) (st' := [(2, this)]) (lo' := [(0, (2, this)), (1, (2, e)), (2, (2, elementData)), (3, (0, s))]) rfl ?_
    have e4 : 49 = G 159 this 2 := by have e := s_e; omega
    refine r_callV gd hX hP rfl cv_Jx4a65c_129_159 hS (d' := 10) (mc' := 1) (ms' := 73) (as' := []) (st := []) (by first | decide | omega) (by first | decide | omega) (by first | decide | omega) rfl rfl (Nat.le_of_ble_eq_true rfl) (c_gr0_Lna_4 E S G this  hS elementData ed_e elementData_s e4) ?_
    rintro _ S5 G6 ⟨g7, z8, rfl, z8s, q9, q10⟩
    have s11 : S5 this = 159 := gr_lab g7 hS (by decide)
    have s12 : S5 e = 141 := gr_lab g7 e_s (by decide)
    have s13 : S5 elementData = 184 := gr_lab g7 elementData_s (by decide)
    have e14 : s = G6 159 this 2 := gr_val g7 s_e hS (by decide) rfl
    have g15 : Gr [185] [(159, 1), (159, 2), (184, -1), (185, -1)] S G S5 G6 := gr_call (gr_refl [185] [(159, 1), (159, 2), (184, -1), (185, -1)] S G) g7 rfl rfl
    have e16 : z8 = G6 159 this 1 := q9.symm
    refine r_ex hX hP 4 (pc' := 14) (st' := [(2, e), (0, s), (2, z8)]) (lo' := [(0, (2, this)), (1, (2, e)), (2, (2, z8)), (3, (0, s))]) rfl ?_
    refine r_aast hX hP rfl (L := 185) al_185 ck_141_O z8s s12 (by first | decide | omega) (by first | decide | omega) ?_
    refine r_ex hX hP 4 (pc' := 19) (st' := [(0, (s + 1)), (2, this)]) (lo' := [(0, (2, this)), (1, (2, e)), (2, (2, z8)), (3, (0, s))]) rfl ?_
    refine r_putIK hX hP rfl fp_Jx4a65c_48_159 s11 (by first | decide | omega) (by first | decide | omega) (fun h17 => ?_)
    have g18 : Gr [185] [(159, 1), (159, 2), (184, -1), (185, -1)] S G S5 (up (up G6 185 z8 s e) 159 this 2 (s + 1)) := (gr_up (gr_up g15 rfl) rfl)
    exact r_retV hX hP rfl rfl (by first | decide | omega) (by first | decide | omega) ⟨g18, rfl, (Or.inr (Or.inr (Or.inr (Or.inr (Or.inr (Or.inr ((lb_mk (G' := (up (up G6 185 z8 s e) 159 this 2 (s + 1))) e16 z8s h17 (by first | decide | omega) (le_store (fun i h0 h1 => by rw [q10 i h0 (by first | decide | omega)]; exact gr_lab g7 (els i h0 h1) (by decide)) s12))))))))), (h17).symm, (fun i h0 h1 => (elm_mk (G := (up (up G6 185 z8 s e) 159 this 2 (s + 1))) (i := i) e16 z8s).trans ((((show (up G6 185 z8 s e) 185 z8 i = _ from up_ne (fun q => absurd q.2.2 (by first | decide | omega)))).trans (q10 i h0 (by first | decide | omega))).trans (elm_mk (G := G) (i := i) ed_e elementData_s).symm)), ((elm_mk (G := (up (up G6 185 z8 s e) 159 this 2 (s + 1))) (i := s) e16 z8s).trans (show (up G6 185 z8 s e) 185 z8 s = e from up_self _ _ _ _ _))⟩
set_option maxRecDepth 100000 in
set_option maxHeartbeats 4000000 in
theorem c_ad3_Lna_5T (E : En) (S : Sg) (G : Gh) (this : Int) (e : Int) (elementData : Int) (s : Int) (hS : S this = 159) (e_s : S e = 141) (elementData_s : S elementData = 185) (s_a : 0 ≤ s) (s_b : s ≤ 59) (s_e : s = G 159 this 2) (ed_e : elementData = G 159 this 1) (els : ∀ i : Int, 0 ≤ i → i < s → S (G 185 elementData i) = 141) : Calls E mJx4a65c_add_72be8 [(2, this), (2, e), (2, elementData), (0, s)] S G 12 0 0 (fun r S' G' => Gr [] [(159, 2), (185, -1)] S G S' G' ∧ r = none ∧ LB5 E S' G' this ∧ G' 159 this 2 = s + 1 ∧ (∀ i : Int, 0 ≤ i → i < s → elm S' G' 159 this i = elm S G 159 this i) ∧ elm S' G' 159 this s = e) := by
  refine calls_by [(0, (2, this)), (1, (2, e)), (2, (2, elementData)), (3, (0, s))] rfl rfl (Nat.le_of_ble_eq_true rfl) (fun X hX => ?_)
  have hP := hPJx4a65c_add_72be8
  refine r_ex hX hP 2 (pc' := 2) (st' := [(2, elementData), (0, s)]) (lo' := [(0, (2, this)), (1, (2, e)), (2, (2, elementData)), (3, (0, s))]) rfl ?_
  refine r_alen hX hP rfl al_185 elementData_s ?_
  refine r_ic_ne hX hP rfl (tgt := 11) rfl (by first | decide | omega) (by first | decide | omega) (by first | decide | omega) (by first | decide | omega) (fun c1 => ?_) (fun c1 => ?_)
  · skip
    refine r_ex hX hP 3 (pc' := 14) (st' := [(2, e), (0, s), (2, elementData)]) (lo' := [(0, (2, this)), (1, (2, e)), (2, (2, elementData)), (3, (0, s))]) rfl ?_
    refine r_aast hX hP rfl (L := 185) al_185 ck_141_O elementData_s e_s (by first | decide | omega) (by first | decide | omega) ?_
    refine r_ex hX hP 4 (pc' := 19) (st' := [(0, (s + 1)), (2, this)]) (lo' := [(0, (2, this)), (1, (2, e)), (2, (2, elementData)), (3, (0, s))]) rfl ?_
    refine r_putIK hX hP rfl fp_Jx4a65c_48_159 hS (by first | decide | omega) (by first | decide | omega) (fun h2 => ?_)
    have g3 : Gr [] [(159, 2), (185, -1)] S G S (up (up G 185 elementData s e) 159 this 2 (s + 1)) := (gr_up (gr_up (gr_refl [] [(159, 2), (185, -1)] S G) rfl) rfl)
    exact r_retV hX hP rfl rfl (by first | decide | omega) (by first | decide | omega) ⟨g3, rfl, (Or.inr (Or.inr (Or.inr (Or.inr (Or.inr (Or.inr ((lb_mk (G' := (up (up G 185 elementData s e) 159 this 2 (s + 1))) ed_e elementData_s h2 (by first | decide | omega) (le_store els e_s))))))))), (h2).symm, (fun i h0 h1 => (elm_mk (G := (up (up G 185 elementData s e) 159 this 2 (s + 1))) (i := i) ed_e elementData_s).trans (((show (up G 185 elementData s e) 185 elementData i = _ from up_ne (fun q => absurd q.2.2 (by first | decide | omega)))).trans (elm_mk (G := G) (i := i) ed_e elementData_s).symm)), ((elm_mk (G := (up (up G 185 elementData s e) 159 this 2 (s + 1))) (i := s) ed_e elementData_s).trans (show (up G 185 elementData s e) 185 elementData s = e from up_self _ _ _ _ _))⟩
  · skip
    exfalso; omega
set_option maxRecDepth 100000 in
set_option maxHeartbeats 4000000 in
theorem c_add_LnaT (E : En) (S : Sg) (G : Gh) (this : Int) (e : Int) (hS : S this = 159) (e_s : S e = 141) (sz : Int) (sz_e : sz = G 159 this 2) (pre0 : sz + 1 ≤ 60) (ci : CI E S G) : Calls E mJx4a65c_add_9ea2d [(2, this), (2, e)] S G 14 1 73 (fun r S' G' => Gr [180, 181, 182, 183, 184, 185] [(159, 0), (159, 1), (159, 2), (180, -1), (181, -1), (182, -1), (183, -1), (184, -1), (185, -1)] S G S' G' ∧ ∃ z : Int, r = some (0, z) ∧ 1 ≤ z ∧ z ≤ 1 ∧ CI E S' G' ∧ G' 159 this 2 = sz + 1 ∧ (∀ i : Int, 0 ≤ i → i < sz → elm S' G' 159 this i = elm S G 159 this i) ∧ elm S' G' 159 this sz = e) := by
  refine calls_by [(0, (2, this)), (1, (2, e))] rfl rfl (Nat.le_of_ble_eq_true rfl) (fun X hX => ?_)
  have hP := hPJx4a65c_add_9ea2d
  refine r_peekI hX (tl_159 2 rfl (by decide)) hS (fun sz_o sz_oe sz_oa sz_ob => ?_)
  obtain rfl : sz = sz_o := sz_e.trans sz_oe.symm
  refine r_tk hX (fun tk0 => ?_)
  refine r_ex hX hP 2 (pc' := 2) (st' := [(2, this), (2, this)]) (lo' := [(0, (2, this)), (1, (2, e))]) rfl ?_
  refine r_getUI hX hP rfl fu_159 hS (fun mf1 mf1e mf1a mf1b => ?_)
  refine r_ex hX hP 2 (pc' := 7) (st' := [(0, (mf1 + 1)), (2, this)]) (lo' := [(0, (2, this)), (1, (2, e))]) rfl ?_
  refine r_hvI hX (fun w2 w2a w2b w2e => ?_)
  refine r_putUI hX hP rfl fu_159 hS (by first | decide | omega) (by first | decide | omega) ?_
  refine r_ex hX hP 3 (pc' := 13) (st' := [(2, this), (2, e), (2, this)]) (lo' := [(0, (2, this)), (1, (2, e))]) rfl ?_
  refine r_get5 hX hP rfl fl_Jx4a65c_9_159 hS (fun ef3 ef3e ef3o => ?_)
  refine r_ex hX hP 1 (pc' := 17) (st' := [(2, this), (2, ef3), (2, e), (2, this)]) (lo' := [(0, (2, this)), (1, (2, e))]) rfl ?_
  refine r_getKI hX hP rfl fl_Jx4a65c_48_159 hS (x := sz) sz_e ?_
  rcases ci.2.2.2.2.2.2.1 this hS with ⟨q1, q2⟩ | ⟨q1, q2, q3⟩ | ⟨q1, q2, q3⟩ | ⟨q1, q2, q3⟩ | ⟨q1, q2, q3⟩ | ⟨q1, q2, q3⟩ | ⟨q1, q2, q3⟩
  · skip
    obtain rfl : ef3 = Ad E 0 := ef3e.trans q1
    have q2 : sz = 0 := sz_e.trans q2
    have g4 : Gr [180, 181, 182, 183, 184, 185] [(159, 0), (159, 1), (159, 2), (180, -1), (181, -1), (182, -1), (183, -1), (184, -1), (185, -1)] S G S (up G 159 this 0 w2) := (gr_up (gr_refl [180, 181, 182, 183, 184, 185] [(159, 0), (159, 1), (159, 2), (180, -1), (181, -1), (182, -1), (183, -1), (184, -1), (185, -1)] S G) rfl)
    refine r_callV gd hX hP rfl cv_Jx4a65c_131_159 hS (d' := 12) (mc' := 1) (ms' := 10) (as' := [(2, e), (2, (Ad E 0)), (0, sz)]) (st := []) (by first | decide | omega) (by first | decide | omega) (by first | decide | omega) rfl rfl (Nat.le_of_ble_eq_true rfl) (c_ad3_Lna_ET E S (up G 159 this 0 w2) this e (Ad E 0) sz hS e_s (by first | decide | omega) (by first | decide | omega) sz_e rfl ef3e) ?_
    rintro _ S5 G6 ⟨g7, rfl, q8, q9, q10, q11⟩
    have s12 : S5 this = 159 := gr_lab g7 hS (by decide)
    have s13 : S5 e = 141 := gr_lab g7 e_s (by decide)
    have g14 : Gr [180, 181, 182, 183, 184, 185] [(159, 0), (159, 1), (159, 2), (180, -1), (181, -1), (182, -1), (183, -1), (184, -1), (185, -1)] S G S5 G6 := gr_call g4 g7 rfl rfl
    refine r_ex hX hP 1 (pc' := 24) (st' := [(0, 1)]) (lo' := [(0, (2, this)), (1, (2, e))]) rfl ?_
    exact r_retZ hX hP rfl rfl (by first | decide | omega) (by first | decide | omega) (by first | decide | omega) (by first | decide | omega) ⟨g14, 1, rfl, (by first | decide | omega), (by first | decide | omega), (ci_ad5 ci tk0 g14 rfl rfl hS q8 (by have e := q9; omega)), q9, (fun i h0 h1 => by exfalso; omega), q11⟩
  · skip
    have qs : S ef3 = 180 := by rw [ef3e]; exact q1
    have q2 : sz ≤ 10 := by rw [sz_e]; exact q2
    have q3 : ∀ i : Int, 0 ≤ i → i < sz → S (G 180 ef3 i) = 141 := by rw [sz_e, ef3e]; exact q3
    have g15 : Gr [180, 181, 182, 183, 184, 185] [(159, 0), (159, 1), (159, 2), (180, -1), (181, -1), (182, -1), (183, -1), (184, -1), (185, -1)] S G S (up G 159 this 0 w2) := (gr_up (gr_refl [180, 181, 182, 183, 184, 185] [(159, 0), (159, 1), (159, 2), (180, -1), (181, -1), (182, -1), (183, -1), (184, -1), (185, -1)] S G) rfl)
    refine r_callV gd hX hP rfl cv_Jx4a65c_131_159 hS (d' := 12) (mc' := 1) (ms' := 15) (as' := [(2, e), (2, ef3), (0, sz)]) (st := []) (by first | decide | omega) (by first | decide | omega) (by first | decide | omega) rfl rfl (Nat.le_of_ble_eq_true rfl) (c_ad3_Lna_0T E S (up G 159 this 0 w2) this e ef3 sz hS e_s qs (by first | decide | omega) (by first | decide | omega) sz_e ef3e q3) ?_
    rintro _ S16 G17 ⟨g18, rfl, q19, q20, q21, q22⟩
    have s23 : S16 this = 159 := gr_lab g18 hS (by decide)
    have s24 : S16 e = 141 := gr_lab g18 e_s (by decide)
    have s25 : S16 ef3 = 180 := gr_lab g18 qs (by decide)
    have g26 : Gr [180, 181, 182, 183, 184, 185] [(159, 0), (159, 1), (159, 2), (180, -1), (181, -1), (182, -1), (183, -1), (184, -1), (185, -1)] S G S16 G17 := gr_call g15 g18 rfl rfl
    refine r_ex hX hP 1 (pc' := 24) (st' := [(0, 1)]) (lo' := [(0, (2, this)), (1, (2, e))]) rfl ?_
    exact r_retZ hX hP rfl rfl (by first | decide | omega) (by first | decide | omega) (by first | decide | omega) (by first | decide | omega) ⟨g26, 1, rfl, (by first | decide | omega), (by first | decide | omega), (ci_ad5 ci tk0 g26 rfl rfl hS q19 (by have e := q20; omega)), q20, (fun i h0 h1 => (q21 i h0 h1).trans (elm_up (by decide) (by first | decide | omega))), q22⟩
  · skip
    have qs : S ef3 = 181 := by rw [ef3e]; exact q1
    have q2 : sz ≤ 15 := by rw [sz_e]; exact q2
    have q3 : ∀ i : Int, 0 ≤ i → i < sz → S (G 181 ef3 i) = 141 := by rw [sz_e, ef3e]; exact q3
    have g27 : Gr [180, 181, 182, 183, 184, 185] [(159, 0), (159, 1), (159, 2), (180, -1), (181, -1), (182, -1), (183, -1), (184, -1), (185, -1)] S G S (up G 159 this 0 w2) := (gr_up (gr_refl [180, 181, 182, 183, 184, 185] [(159, 0), (159, 1), (159, 2), (180, -1), (181, -1), (182, -1), (183, -1), (184, -1), (185, -1)] S G) rfl)
    refine r_callV gd hX hP rfl cv_Jx4a65c_131_159 hS (d' := 12) (mc' := 1) (ms' := 22) (as' := [(2, e), (2, ef3), (0, sz)]) (st := []) (by first | decide | omega) (by first | decide | omega) (by first | decide | omega) rfl rfl (Nat.le_of_ble_eq_true rfl) (c_ad3_Lna_1T E S (up G 159 this 0 w2) this e ef3 sz hS e_s qs (by first | decide | omega) (by first | decide | omega) sz_e ef3e q3) ?_
    rintro _ S28 G29 ⟨g30, rfl, q31, q32, q33, q34⟩
    have s35 : S28 this = 159 := gr_lab g30 hS (by decide)
    have s36 : S28 e = 141 := gr_lab g30 e_s (by decide)
    have s37 : S28 ef3 = 181 := gr_lab g30 qs (by decide)
    have g38 : Gr [180, 181, 182, 183, 184, 185] [(159, 0), (159, 1), (159, 2), (180, -1), (181, -1), (182, -1), (183, -1), (184, -1), (185, -1)] S G S28 G29 := gr_call g27 g30 rfl rfl
    refine r_ex hX hP 1 (pc' := 24) (st' := [(0, 1)]) (lo' := [(0, (2, this)), (1, (2, e))]) rfl ?_
    exact r_retZ hX hP rfl rfl (by first | decide | omega) (by first | decide | omega) (by first | decide | omega) (by first | decide | omega) ⟨g38, 1, rfl, (by first | decide | omega), (by first | decide | omega), (ci_ad5 ci tk0 g38 rfl rfl hS q31 (by have e := q32; omega)), q32, (fun i h0 h1 => (q33 i h0 h1).trans (elm_up (by decide) (by first | decide | omega))), q34⟩
  · skip
    have qs : S ef3 = 182 := by rw [ef3e]; exact q1
    have q2 : sz ≤ 22 := by rw [sz_e]; exact q2
    have q3 : ∀ i : Int, 0 ≤ i → i < sz → S (G 182 ef3 i) = 141 := by rw [sz_e, ef3e]; exact q3
    have g39 : Gr [180, 181, 182, 183, 184, 185] [(159, 0), (159, 1), (159, 2), (180, -1), (181, -1), (182, -1), (183, -1), (184, -1), (185, -1)] S G S (up G 159 this 0 w2) := (gr_up (gr_refl [180, 181, 182, 183, 184, 185] [(159, 0), (159, 1), (159, 2), (180, -1), (181, -1), (182, -1), (183, -1), (184, -1), (185, -1)] S G) rfl)
    refine r_callV gd hX hP rfl cv_Jx4a65c_131_159 hS (d' := 12) (mc' := 1) (ms' := 33) (as' := [(2, e), (2, ef3), (0, sz)]) (st := []) (by first | decide | omega) (by first | decide | omega) (by first | decide | omega) rfl rfl (Nat.le_of_ble_eq_true rfl) (c_ad3_Lna_2T E S (up G 159 this 0 w2) this e ef3 sz hS e_s qs (by first | decide | omega) (by first | decide | omega) sz_e ef3e q3) ?_
    rintro _ S40 G41 ⟨g42, rfl, q43, q44, q45, q46⟩
    have s47 : S40 this = 159 := gr_lab g42 hS (by decide)
    have s48 : S40 e = 141 := gr_lab g42 e_s (by decide)
    have s49 : S40 ef3 = 182 := gr_lab g42 qs (by decide)
    have g50 : Gr [180, 181, 182, 183, 184, 185] [(159, 0), (159, 1), (159, 2), (180, -1), (181, -1), (182, -1), (183, -1), (184, -1), (185, -1)] S G S40 G41 := gr_call g39 g42 rfl rfl
    refine r_ex hX hP 1 (pc' := 24) (st' := [(0, 1)]) (lo' := [(0, (2, this)), (1, (2, e))]) rfl ?_
    exact r_retZ hX hP rfl rfl (by first | decide | omega) (by first | decide | omega) (by first | decide | omega) (by first | decide | omega) ⟨g50, 1, rfl, (by first | decide | omega), (by first | decide | omega), (ci_ad5 ci tk0 g50 rfl rfl hS q43 (by have e := q44; omega)), q44, (fun i h0 h1 => (q45 i h0 h1).trans (elm_up (by decide) (by first | decide | omega))), q46⟩
  · skip
    have qs : S ef3 = 183 := by rw [ef3e]; exact q1
    have q2 : sz ≤ 33 := by rw [sz_e]; exact q2
    have q3 : ∀ i : Int, 0 ≤ i → i < sz → S (G 183 ef3 i) = 141 := by rw [sz_e, ef3e]; exact q3
    have g51 : Gr [180, 181, 182, 183, 184, 185] [(159, 0), (159, 1), (159, 2), (180, -1), (181, -1), (182, -1), (183, -1), (184, -1), (185, -1)] S G S (up G 159 this 0 w2) := (gr_up (gr_refl [180, 181, 182, 183, 184, 185] [(159, 0), (159, 1), (159, 2), (180, -1), (181, -1), (182, -1), (183, -1), (184, -1), (185, -1)] S G) rfl)
    refine r_callV gd hX hP rfl cv_Jx4a65c_131_159 hS (d' := 12) (mc' := 1) (ms' := 49) (as' := [(2, e), (2, ef3), (0, sz)]) (st := []) (by first | decide | omega) (by first | decide | omega) (by first | decide | omega) rfl rfl (Nat.le_of_ble_eq_true rfl) (c_ad3_Lna_3T E S (up G 159 this 0 w2) this e ef3 sz hS e_s qs (by first | decide | omega) (by first | decide | omega) sz_e ef3e q3) ?_
    rintro _ S52 G53 ⟨g54, rfl, q55, q56, q57, q58⟩
    have s59 : S52 this = 159 := gr_lab g54 hS (by decide)
    have s60 : S52 e = 141 := gr_lab g54 e_s (by decide)
    have s61 : S52 ef3 = 183 := gr_lab g54 qs (by decide)
    have g62 : Gr [180, 181, 182, 183, 184, 185] [(159, 0), (159, 1), (159, 2), (180, -1), (181, -1), (182, -1), (183, -1), (184, -1), (185, -1)] S G S52 G53 := gr_call g51 g54 rfl rfl
    refine r_ex hX hP 1 (pc' := 24) (st' := [(0, 1)]) (lo' := [(0, (2, this)), (1, (2, e))]) rfl ?_
    exact r_retZ hX hP rfl rfl (by first | decide | omega) (by first | decide | omega) (by first | decide | omega) (by first | decide | omega) ⟨g62, 1, rfl, (by first | decide | omega), (by first | decide | omega), (ci_ad5 ci tk0 g62 rfl rfl hS q55 (by have e := q56; omega)), q56, (fun i h0 h1 => (q57 i h0 h1).trans (elm_up (by decide) (by first | decide | omega))), q58⟩
  · skip
    have qs : S ef3 = 184 := by rw [ef3e]; exact q1
    have q2 : sz ≤ 49 := by rw [sz_e]; exact q2
    have q3 : ∀ i : Int, 0 ≤ i → i < sz → S (G 184 ef3 i) = 141 := by rw [sz_e, ef3e]; exact q3
    have g63 : Gr [180, 181, 182, 183, 184, 185] [(159, 0), (159, 1), (159, 2), (180, -1), (181, -1), (182, -1), (183, -1), (184, -1), (185, -1)] S G S (up G 159 this 0 w2) := (gr_up (gr_refl [180, 181, 182, 183, 184, 185] [(159, 0), (159, 1), (159, 2), (180, -1), (181, -1), (182, -1), (183, -1), (184, -1), (185, -1)] S G) rfl)
    refine r_callV gd hX hP rfl cv_Jx4a65c_131_159 hS (d' := 12) (mc' := 1) (ms' := 73) (as' := [(2, e), (2, ef3), (0, sz)]) (st := []) (by first | decide | omega) (by first | decide | omega) (by first | decide | omega) rfl rfl (Nat.le_of_ble_eq_true rfl) (c_ad3_Lna_4T E S (up G 159 this 0 w2) this e ef3 sz hS e_s qs (by first | decide | omega) (by first | decide | omega) sz_e ef3e q3) ?_
    rintro _ S64 G65 ⟨g66, rfl, q67, q68, q69, q70⟩
    have s71 : S64 this = 159 := gr_lab g66 hS (by decide)
    have s72 : S64 e = 141 := gr_lab g66 e_s (by decide)
    have s73 : S64 ef3 = 184 := gr_lab g66 qs (by decide)
    have g74 : Gr [180, 181, 182, 183, 184, 185] [(159, 0), (159, 1), (159, 2), (180, -1), (181, -1), (182, -1), (183, -1), (184, -1), (185, -1)] S G S64 G65 := gr_call g63 g66 rfl rfl
    refine r_ex hX hP 1 (pc' := 24) (st' := [(0, 1)]) (lo' := [(0, (2, this)), (1, (2, e))]) rfl ?_
    exact r_retZ hX hP rfl rfl (by first | decide | omega) (by first | decide | omega) (by first | decide | omega) (by first | decide | omega) ⟨g74, 1, rfl, (by first | decide | omega), (by first | decide | omega), (ci_ad5 ci tk0 g74 rfl rfl hS q67 (by have e := q68; omega)), q68, (fun i h0 h1 => (q69 i h0 h1).trans (elm_up (by decide) (by first | decide | omega))), q70⟩
  · skip
    have qs : S ef3 = 185 := by rw [ef3e]; exact q1
    have q2 : sz ≤ 73 := by rw [sz_e]; exact q2
    have q3 : ∀ i : Int, 0 ≤ i → i < sz → S (G 185 ef3 i) = 141 := by rw [sz_e, ef3e]; exact q3
    have g75 : Gr [180, 181, 182, 183, 184, 185] [(159, 0), (159, 1), (159, 2), (180, -1), (181, -1), (182, -1), (183, -1), (184, -1), (185, -1)] S G S (up G 159 this 0 w2) := (gr_up (gr_refl [180, 181, 182, 183, 184, 185] [(159, 0), (159, 1), (159, 2), (180, -1), (181, -1), (182, -1), (183, -1), (184, -1), (185, -1)] S G) rfl)
    refine r_callV gd hX hP rfl cv_Jx4a65c_131_159 hS (d' := 12) (mc' := 0) (ms' := 0) (as' := [(2, e), (2, ef3), (0, sz)]) (st := []) (by first | decide | omega) (by first | decide | omega) (by first | decide | omega) rfl rfl (Nat.le_of_ble_eq_true rfl) (c_ad3_Lna_5T E S (up G 159 this 0 w2) this e ef3 sz hS e_s qs (by first | decide | omega) (by first | decide | omega) sz_e ef3e q3) ?_
    rintro _ S76 G77 ⟨g78, rfl, q79, q80, q81, q82⟩
    have s83 : S76 this = 159 := gr_lab g78 hS (by decide)
    have s84 : S76 e = 141 := gr_lab g78 e_s (by decide)
    have s85 : S76 ef3 = 185 := gr_lab g78 qs (by decide)
    have e86 : ef3 = G77 159 this 1 := gr_val g78 ef3e hS (by decide) rfl
    have g87 : Gr [180, 181, 182, 183, 184, 185] [(159, 0), (159, 1), (159, 2), (180, -1), (181, -1), (182, -1), (183, -1), (184, -1), (185, -1)] S G S76 G77 := gr_call g75 g78 rfl rfl
    refine r_ex hX hP 1 (pc' := 24) (st' := [(0, 1)]) (lo' := [(0, (2, this)), (1, (2, e))]) rfl ?_
    exact r_retZ hX hP rfl rfl (by first | decide | omega) (by first | decide | omega) (by first | decide | omega) (by first | decide | omega) ⟨g87, 1, rfl, (by first | decide | omega), (by first | decide | omega), (ci_ad5 ci tk0 g87 rfl rfl hS q79 (by have e := q80; omega)), q80, (fun i h0 h1 => (q81 i h0 h1).trans (elm_up (by decide) (by first | decide | omega))), q82⟩
set_option maxRecDepth 100000 in
set_option maxHeartbeats 4000000 in
theorem c_X11_tellT (E : En) (S : Sg) (G : Gh) (this : Int) (known : Int) (hS : S this = 128) (known_a : 0 ≤ known) (known_b : known ≤ 40000) : Calls E mX11_tell [(2, this), (0, known)] S G 0 0 0 (fun r S' G' => S = S' ∧ (∃ G1, hw [(128, 1), (129, 1)] G G1 = G') ∧ r = none ∧ ∃ l2 : Int, l2 = G' 128 this 1 ∧ l2 = known) := by
  refine calls_by [(0, (2, this)), (1, (0, known))] rfl rfl (Nat.le_of_ble_eq_true rfl) (fun X hX => ?_)
  have hP := hPX11_tell
  refine r_ex hX hP 2 (pc' := 2) (st' := [(0, known), (2, this)]) (lo' := [(0, (2, this)), (1, (0, known))]) rfl ?_
  refine r_putIK hX hP rfl fp_X11_129_128 hS (by first | decide | omega) (by first | decide | omega) (fun h1 => ?_)
  refine r_ex hX hP 1 (pc' := 6) (st' := [(2, this)]) (lo' := [(0, (2, this)), (1, (0, known))]) rfl ?_
  refine r_getR hX hP rfl fl_X11_16_128 hS (fun rf2 rf2e rf2s => ?_)
  refine r_ex hX hP 1 (pc' := 10) (st' := [(0, 1), (2, rf2)]) (lo' := [(0, (2, this)), (1, (0, known))]) rfl ?_
  refine r_putIK hX hP rfl fp_X11_96_129 rf2s (by first | decide | omega) (by first | decide | omega) (fun h3 => ?_)
  exact r_retV hX hP rfl rfl (by first | decide | omega) (by first | decide | omega) ⟨rfl, ⟨_, (hw_up (hw_up (hw_refl _ _) rfl) rfl).symm⟩, rfl, known, h1, (by first | decide | omega)⟩
set_option maxRecDepth 100000 in
set_option maxHeartbeats 4000000 in
theorem c_told_EntrT (E : En) (S : Sg) (G : Gh) (this : Int) (known : Int) (hS : S this = 152) (known_a : 0 ≤ known) (known_b : known ≤ 40000) : Calls E mX10_init [(2, this), (0, known)] S G 3 0 0 (fun r S' G' => S = S' ∧ (∃ G1, hw [(152, 0), (152, 1)] G G1 = G') ∧ r = none ∧ ∃ kn : Int, kn = G' 152 this 0 ∧ ∃ st : Int, st = G' 152 this 1 ∧ kn = known ∧ st = -1) := by
  refine calls_by [(0, (2, this)), (1, (0, known))] rfl rfl (Nat.le_of_ble_eq_true rfl) (fun X hX => ?_)
  have hP := hPX10_init
  refine r_ex hX hP 1 (pc' := 1) (st' := [(2, this)]) (lo' := [(0, (2, this)), (1, (0, known))]) rfl ?_
  refine r_nn hX hS (by decide) (fun p1 => ?_)
  refine r_objI hX hP rfl (tbg sg3 24 rfl rfl) (tbg sg1 33 rfl rfl) (tbg sg1 34 rfl rfl) p1 (by first | decide | omega) (Nat.le_of_ble_eq_true rfl) ?_
  refine r_ex hX hP 2 (pc' := 6) (st' := [(0, (-1)), (2, this)]) (lo' := [(0, (2, this)), (1, (0, known))]) rfl ?_
  refine r_putIK hX hP rfl fp_X10_9_152 hS (by first | decide | omega) (by first | decide | omega) (fun h2 => ?_)
  refine r_ex hX hP 2 (pc' := 11) (st' := [(0, known), (2, this)]) (lo' := [(0, (2, this)), (1, (0, known))]) rfl ?_
  refine r_putFI hX hP rfl rfl fq_X10_15_152 hS (by first | decide | omega) (by first | decide | omega) (fun h3 => ?_)
  exact r_retV hX hP rfl rfl (by first | decide | omega) (by first | decide | omega) ⟨rfl, ⟨_, (hw_up (hw_up (hw_refl _ _) rfl) rfl).symm⟩, rfl, known, h3, (-1), h2, (by first | decide | omega), (by first | decide | omega)⟩
set_option maxRecDepth 100000 in
set_option maxHeartbeats 4000000 in
theorem c_told_EvtrT (E : En) (S : Sg) (G : Gh) (this : Int) (known : Int) (hS : S this = 150) (known_a : 0 ≤ known) (known_b : known ≤ 40000) : Calls E mX10_init [(2, this), (0, known)] S G 3 0 0 (fun r S' G' => S = S' ∧ (∃ G1, hw [(150, 0), (150, 1)] G G1 = G') ∧ r = none ∧ ∃ kn : Int, kn = G' 150 this 0 ∧ ∃ st : Int, st = G' 150 this 1 ∧ kn = known ∧ st = -1) := by
  refine calls_by [(0, (2, this)), (1, (0, known))] rfl rfl (Nat.le_of_ble_eq_true rfl) (fun X hX => ?_)
  have hP := hPX10_init
  refine r_ex hX hP 1 (pc' := 1) (st' := [(2, this)]) (lo' := [(0, (2, this)), (1, (0, known))]) rfl ?_
  refine r_nn hX hS (by decide) (fun p1 => ?_)
  refine r_objI hX hP rfl (tbg sg3 24 rfl rfl) (tbg sg1 33 rfl rfl) (tbg sg1 34 rfl rfl) p1 (by first | decide | omega) (Nat.le_of_ble_eq_true rfl) ?_
  refine r_ex hX hP 2 (pc' := 6) (st' := [(0, (-1)), (2, this)]) (lo' := [(0, (2, this)), (1, (0, known))]) rfl ?_
  refine r_putIK hX hP rfl fp_X10_9_150 hS (by first | decide | omega) (by first | decide | omega) (fun h2 => ?_)
  refine r_ex hX hP 2 (pc' := 11) (st' := [(0, known), (2, this)]) (lo' := [(0, (2, this)), (1, (0, known))]) rfl ?_
  refine r_putFI hX hP rfl rfl fq_X10_15_150 hS (by first | decide | omega) (by first | decide | omega) (fun h3 => ?_)
  exact r_retV hX hP rfl rfl (by first | decide | omega) (by first | decide | omega) ⟨rfl, ⟨_, (hw_up (hw_up (hw_refl _ _) rfl) rfl).symm⟩, rfl, known, h3, (-1), h2, (by first | decide | omega), (by first | decide | omega)⟩
set_option maxRecDepth 100000 in
set_option maxHeartbeats 4000000 in
theorem c_told_PckrT (E : En) (S : Sg) (G : Gh) (this : Int) (known : Int) (hS : S this = 151) (known_a : 0 ≤ known) (known_b : known ≤ 40000) : Calls E mX10_init [(2, this), (0, known)] S G 3 0 0 (fun r S' G' => S = S' ∧ (∃ G1, hw [(151, 0), (151, 1)] G G1 = G') ∧ r = none ∧ ∃ kn : Int, kn = G' 151 this 0 ∧ ∃ st : Int, st = G' 151 this 1 ∧ kn = known ∧ st = -1) := by
  refine calls_by [(0, (2, this)), (1, (0, known))] rfl rfl (Nat.le_of_ble_eq_true rfl) (fun X hX => ?_)
  have hP := hPX10_init
  refine r_ex hX hP 1 (pc' := 1) (st' := [(2, this)]) (lo' := [(0, (2, this)), (1, (0, known))]) rfl ?_
  refine r_nn hX hS (by decide) (fun p1 => ?_)
  refine r_objI hX hP rfl (tbg sg3 24 rfl rfl) (tbg sg1 33 rfl rfl) (tbg sg1 34 rfl rfl) p1 (by first | decide | omega) (Nat.le_of_ble_eq_true rfl) ?_
  refine r_ex hX hP 2 (pc' := 6) (st' := [(0, (-1)), (2, this)]) (lo' := [(0, (2, this)), (1, (0, known))]) rfl ?_
  refine r_putIK hX hP rfl fp_X10_9_151 hS (by first | decide | omega) (by first | decide | omega) (fun h2 => ?_)
  refine r_ex hX hP 2 (pc' := 11) (st' := [(0, known), (2, this)]) (lo' := [(0, (2, this)), (1, (0, known))]) rfl ?_
  refine r_putFI hX hP rfl rfl fq_X10_15_151 hS (by first | decide | omega) (by first | decide | omega) (fun h3 => ?_)
  exact r_retV hX hP rfl rfl (by first | decide | omega) (by first | decide | omega) ⟨rfl, ⟨_, (hw_up (hw_up (hw_refl _ _) rfl) rfl).symm⟩, rfl, known, h3, (-1), h2, (by first | decide | omega), (by first | decide | omega)⟩
set_option maxRecDepth 100000 in
set_option maxHeartbeats 4000000 in
theorem c_X1_initT (E : En) (S : Sg) (G : Gh) (this : Int) (paper : Int) (day : Int) (number : Int) (known : Int) (hS : S this = 152) (paper_a : 0 ≤ paper) (paper_b : paper ≤ 19) (day_a : 0 ≤ day) (day_b : day ≤ 40000) (number_a : (-2147483648) ≤ number) (number_b : number ≤ 2147483647) (known_a : 0 ≤ known) (known_b : known ≤ 40000) : Calls E mX1_init [(2, this), (0, paper), (0, day), (0, number), (0, known)] S G 4 0 0 (fun r S' G' => S = S' ∧ (∃ G1, hw [(152, 0), (152, 1), (152, 2), (152, 3), (152, 4), (152, 5), (152, 6)] G G1 = G') ∧ r = none ∧ ∃ kn : Int, kn = G' 152 this 0 ∧ ∃ st : Int, st = G' 152 this 1 ∧ ∃ p2 : Int, p2 = G' 152 this 2 ∧ ∃ d2 : Int, d2 = G' 152 this 3 ∧ ∃ n2 : Int, n2 = G' 152 this 4 ∧ kn = known ∧ st = -1 ∧ p2 = paper ∧ d2 = day ∧ n2 = number) := by
  refine calls_by [(0, (2, this)), (1, (0, paper)), (2, (0, day)), (3, (0, number)), (4, (0, known))] rfl rfl (Nat.le_of_ble_eq_true rfl) (fun X hX => ?_)
  have hP := hPX1_init
  refine r_ex hX hP 2 (pc' := 3) (st' := [(0, known), (2, this)]) (lo' := [(0, (2, this)), (1, (0, paper)), (2, (0, day)), (3, (0, number)), (4, (0, known))]) rfl ?_
  refine r_nn hX hS (by decide) (fun p1 => ?_)
  refine r_callI gd hX hP rfl ci_X1_3 p1 (d' := 3) (mc' := 0) (ms' := 0) (as' := [(0, known)]) (st := []) (by first | decide | omega) (by first | decide | omega) (by first | decide | omega) rfl rfl (Nat.le_of_ble_eq_true rfl) (c_told_EntrT E S G this known hS (by first | decide | omega) (by first | decide | omega)) ?_
  rintro _ _ _ ⟨rfl, ⟨G2, rfl⟩, rfl, knh3, knh3e, sth4, sth4e, f5, f6⟩
  refine r_peekI hX (tl_152 0 rfl (by decide)) hS (fun o7 o7e o7a o7b => ?_)
  obtain rfl : knh3 = o7 := knh3e.trans o7e.symm
  refine r_peekI hX (tl_152 1 rfl (by decide)) hS (fun o8 o8e o8a o8b => ?_)
  obtain rfl : sth4 = o8 := sth4e.trans o8e.symm
  have e9 : known = (hw [(152, 0), (152, 1)] G G2) 152 this 0 := by rw [← f5]; exact knh3e
  have e10 : ((-1) : Int) = (hw [(152, 0), (152, 1)] G G2) 152 this 1 := by rw [← f6]; exact sth4e
  refine r_ex hX hP 2 (pc' := 8) (st' := [(0, (-1)), (2, this)]) (lo' := [(0, (2, this)), (1, (0, paper)), (2, (0, day)), (3, (0, number)), (4, (0, known))]) rfl ?_
  refine r_putIK hX hP rfl fp_X1_9_152 hS (by first | decide | omega) (by first | decide | omega) (fun h11 => ?_)
  refine r_ex hX hP 2 (pc' := 13) (st' := [(0, (-1)), (2, this)]) (lo' := [(0, (2, this)), (1, (0, paper)), (2, (0, day)), (3, (0, number)), (4, (0, known))]) rfl ?_
  refine r_putIK hX hP rfl fp_X1_15_152 hS (by first | decide | omega) (by first | decide | omega) (fun h12 => ?_)
  refine r_ex hX hP 2 (pc' := 18) (st' := [(0, paper), (2, this)]) (lo' := [(0, (2, this)), (1, (0, paper)), (2, (0, day)), (3, (0, number)), (4, (0, known))]) rfl ?_
  refine r_putFI hX hP rfl rfl fq_X1_18_152 hS (by first | decide | omega) (by first | decide | omega) (fun h13 => ?_)
  refine r_ex hX hP 2 (pc' := 23) (st' := [(0, day), (2, this)]) (lo' := [(0, (2, this)), (1, (0, paper)), (2, (0, day)), (3, (0, number)), (4, (0, known))]) rfl ?_
  refine r_putFI hX hP rfl rfl fq_X1_21_152 hS (by first | decide | omega) (by first | decide | omega) (fun h14 => ?_)
  refine r_ex hX hP 2 (pc' := 28) (st' := [(0, number), (2, this)]) (lo' := [(0, (2, this)), (1, (0, paper)), (2, (0, day)), (3, (0, number)), (4, (0, known))]) rfl ?_
  refine r_putFI hX hP rfl rfl fq_X1_24_152 hS (by first | decide | omega) (by first | decide | omega) (fun h15 => ?_)
  exact r_retV hX hP rfl rfl (by first | decide | omega) (by first | decide | omega) ⟨rfl, ⟨_, (hw_up (hw_up (hw_up (hw_up (hw_up (hw_sub (hw_refl _ _) rfl) rfl) rfl) rfl) rfl) rfl).symm⟩, rfl, known, e9, (-1), e10, paper, h13, day, h14, number, h15, (by first | decide | omega), (by first | decide | omega), (by first | decide | omega), (by first | decide | omega), (by first | decide | omega)⟩
set_option maxRecDepth 100000 in
set_option maxHeartbeats 4000000 in
theorem c_X2_initT (E : En) (S : Sg) (G : Gh) (this : Int) (paper : Int) (text : Int) (known : Int) (hS : S this = 150) (text_s : S text = 136) (paper_a : 0 ≤ paper) (paper_b : paper ≤ 19) (known_a : 0 ≤ known) (known_b : known ≤ 40000) : Calls E mX2_init [(2, this), (0, paper), (2, text), (0, known)] S G 4 0 0 (fun r S' G' => S = S' ∧ (∃ G1, hw [(150, 0), (150, 1), (150, 2), (150, 3)] G G1 = G') ∧ r = none ∧ ∃ kn : Int, kn = G' 150 this 0 ∧ ∃ st : Int, st = G' 150 this 1 ∧ ∃ p2 : Int, p2 = G' 150 this 2 ∧ ∃ tx2 : Int, tx2 = G' 150 this 3 ∧ kn = known ∧ st = -1 ∧ p2 = paper ∧ tx2 = text) := by
  refine calls_by [(0, (2, this)), (1, (0, paper)), (2, (2, text)), (3, (0, known))] rfl rfl (Nat.le_of_ble_eq_true rfl) (fun X hX => ?_)
  have hP := hPX2_init
  refine r_ex hX hP 2 (pc' := 2) (st' := [(0, known), (2, this)]) (lo' := [(0, (2, this)), (1, (0, paper)), (2, (2, text)), (3, (0, known))]) rfl ?_
  refine r_nn hX hS (by decide) (fun p1 => ?_)
  refine r_callI gd hX hP rfl ci_X2_1 p1 (d' := 3) (mc' := 0) (ms' := 0) (as' := [(0, known)]) (st := []) (by first | decide | omega) (by first | decide | omega) (by first | decide | omega) rfl rfl (Nat.le_of_ble_eq_true rfl) (c_told_EvtrT E S G this known hS (by first | decide | omega) (by first | decide | omega)) ?_
  rintro _ _ _ ⟨rfl, ⟨G2, rfl⟩, rfl, knh3, knh3e, sth4, sth4e, f5, f6⟩
  refine r_peekI hX (tl_150 0 rfl (by decide)) hS (fun o7 o7e o7a o7b => ?_)
  obtain rfl : knh3 = o7 := knh3e.trans o7e.symm
  refine r_peekI hX (tl_150 1 rfl (by decide)) hS (fun o8 o8e o8a o8b => ?_)
  obtain rfl : sth4 = o8 := sth4e.trans o8e.symm
  have e9 : known = (hw [(150, 0), (150, 1)] G G2) 150 this 0 := by rw [← f5]; exact knh3e
  have e10 : ((-1) : Int) = (hw [(150, 0), (150, 1)] G G2) 150 this 1 := by rw [← f6]; exact sth4e
  refine r_ex hX hP 2 (pc' := 7) (st' := [(0, paper), (2, this)]) (lo' := [(0, (2, this)), (1, (0, paper)), (2, (2, text)), (3, (0, known))]) rfl ?_
  refine r_putFI hX hP rfl rfl fq_X2_7_150 hS (by first | decide | omega) (by first | decide | omega) (fun h11 => ?_)
  refine r_ex hX hP 2 (pc' := 12) (st' := [(2, text), (2, this)]) (lo' := [(0, (2, this)), (1, (0, paper)), (2, (2, text)), (3, (0, known))]) rfl ?_
  refine r_putFN hX hP rfl rfl fq_X2_13_150 hS (by decide) (Or.inr text_s) (fun h12 => ?_)
  exact r_retV hX hP rfl rfl (by first | decide | omega) (by first | decide | omega) ⟨rfl, ⟨_, (hw_up (hw_up (hw_sub (hw_refl _ _) rfl) rfl) rfl).symm⟩, rfl, known, e9, (-1), e10, paper, h11, text, h12, (by first | decide | omega), (by first | decide | omega), (by first | decide | omega), (by first | decide | omega)⟩
