set_option maxRecDepth 100000 in
set_option maxHeartbeats 4000000 in
theorem c_ad3_Ltr_2T (E : En) (S : Sg) (G : Gh) (this : Int) (e : Int) (elementData : Int) (s : Int) (hS : S this = 155) (e_s : S e = 140) (elementData_s : S elementData = 167) (s_a : 0 ≤ s) (s_b : s ≤ 22) (s_e : s = G 155 this 2) (ed_e : elementData = G 155 this 1) (els : ∀ i : Int, 0 ≤ i → i < s → S (G 167 elementData i) = 140) : Calls E mJx4a65c_add_72be8 [(2, this), (2, e), (2, elementData), (0, s)] S G 12 1 33 (fun r S' G' => Gr [168] [(155, 1), (155, 2), (167, -1), (168, -1)] S G S' G' ∧ r = none ∧ LB1 E S' G' this ∧ G' 155 this 2 = s + 1 ∧ (∀ i : Int, 0 ≤ i → i < s → elm S' G' 155 this i = elm S G 155 this i) ∧ elm S' G' 155 this s = e) := by
  refine calls_by [(0, (2, this)), (1, (2, e)), (2, (2, elementData)), (3, (0, s))] rfl rfl (Nat.le_of_ble_eq_true rfl) (fun X hX => ?_)
  have hP := hPJx4a65c_add_72be8
  refine r_ex hX hP 2 (pc' := 2) (st' := [(2, elementData), (0, s)]) (lo' := [(0, (2, this)), (1, (2, e)), (2, (2, elementData)), (3, (0, s))]) rfl ?_
  refine r_alen hX hP rfl al_167 elementData_s ?_
  refine r_ic_ne hX hP rfl (tgt := 11) rfl (by first | decide | omega) (by first | decide | omega) (by first | decide | omega) (by first | decide | omega) (fun c1 => ?_) (fun c1 => ?_)
  · skip
    refine r_ex hX hP 3 (pc' := 14) (st' := [(2, e), (0, s), (2, elementData)]) (lo' := [(0, (2, this)), (1, (2, e)), (2, (2, elementData)), (3, (0, s))]) rfl ?_
    refine r_aast hX hP rfl (L := 167) al_167 ck_140_O elementData_s e_s (by first | decide | omega) (by first | decide | omega) ?_
    refine r_ex hX hP 4 (pc' := 19) (st' := [(0, (s + 1)), (2, this)]) (lo' := [(0, (2, this)), (1, (2, e)), (2, (2, elementData)), (3, (0, s))]) rfl ?_
    refine r_putIK hX hP rfl fp_Jx4a65c_48_155 hS (by first | decide | omega) (by first | decide | omega) (fun h2 => ?_)
    have g3 : Gr [168] [(155, 1), (155, 2), (167, -1), (168, -1)] S G S (up (up G 167 elementData s e) 155 this 2 (s + 1)) := (gr_up (gr_up (gr_refl [168] [(155, 1), (155, 2), (167, -1), (168, -1)] S G) rfl) rfl)
    exact r_retV hX hP rfl rfl (by first | decide | omega) (by first | decide | omega) ⟨g3, rfl, (Or.inr (Or.inr (Or.inr (Or.inl (lb_mk (G' := (up (up G 167 elementData s e) 155 this 2 (s + 1))) ed_e elementData_s h2 (by first | decide | omega) (le_store els e_s)))))), (h2).symm, (fun i h0 h1 => (elm_mk (G := (up (up G 167 elementData s e) 155 this 2 (s + 1))) (i := i) ed_e elementData_s).trans (((show (up G 167 elementData s e) 167 elementData i = _ from up_ne (fun q => absurd q.2.2 (by first | decide | omega)))).trans (elm_mk (G := G) (i := i) ed_e elementData_s).symm)), ((elm_mk (G := (up (up G 167 elementData s e) 155 this 2 (s + 1))) (i := s) ed_e elementData_s).trans (show (up G 167 elementData s e) 167 elementData s = e from up_self _ _ _ _ _))⟩
  · skip
    refine r_ex hX hP 1 (pc' := 7) (st' := [(2, this)]) (lo' := [(0, (2, this)), (1, (2, e)), (2, (2, elementData)), (3, (0, s))]) rfl ?_
    have e4 : 22 = G 155 this 2 := by have e := s_e; omega
    refine r_callV gd hX hP rfl cv_Jx4a65c_129_155 hS (d' := 10) (mc' := 1) (ms' := 33) (as' := []) (st := []) (by first | decide | omega) (by first | decide | omega) (by first | decide | omega) rfl rfl (Nat.le_of_ble_eq_true rfl) (c_gr0_Ltr_2 E S G this  hS elementData ed_e elementData_s e4) ?_
    rintro _ S5 G6 ⟨g7, z8, rfl, z8s, q9, q10⟩
    have s11 : S5 this = 155 := gr_lab g7 hS (by decide)
    have s12 : S5 e = 140 := gr_lab g7 e_s (by decide)
    have s13 : S5 elementData = 167 := gr_lab g7 elementData_s (by decide)
    have e14 : s = G6 155 this 2 := gr_val g7 s_e hS (by decide) rfl
    have g15 : Gr [168] [(155, 1), (155, 2), (167, -1), (168, -1)] S G S5 G6 := gr_call (gr_refl [168] [(155, 1), (155, 2), (167, -1), (168, -1)] S G) g7 rfl rfl
    have e16 : z8 = G6 155 this 1 := q9.symm
    refine r_ex hX hP 4 (pc' := 14) (st' := [(2, e), (0, s), (2, z8)]) (lo' := [(0, (2, this)), (1, (2, e)), (2, (2, z8)), (3, (0, s))]) rfl ?_
    refine r_aast hX hP rfl (L := 168) al_168 ck_140_O z8s s12 (by first | decide | omega) (by first | decide | omega) ?_
    refine r_ex hX hP 4 (pc' := 19) (st' := [(0, (s + 1)), (2, this)]) (lo' := [(0, (2, this)), (1, (2, e)), (2, (2, z8)), (3, (0, s))]) rfl ?_
    refine r_putIK hX hP rfl fp_Jx4a65c_48_155 s11 (by first | decide | omega) (by first | decide | omega) (fun h17 => ?_)
    have g18 : Gr [168] [(155, 1), (155, 2), (167, -1), (168, -1)] S G S5 (up (up G6 168 z8 s e) 155 this 2 (s + 1)) := (gr_up (gr_up g15 rfl) rfl)
    exact r_retV hX hP rfl rfl (by first | decide | omega) (by first | decide | omega) ⟨g18, rfl, (Or.inr (Or.inr (Or.inr (Or.inr (Or.inl (lb_mk (G' := (up (up G6 168 z8 s e) 155 this 2 (s + 1))) e16 z8s h17 (by first | decide | omega) (le_store (fun i h0 h1 => by rw [q10 i h0 (by first | decide | omega)]; exact gr_lab g7 (els i h0 h1) (by decide)) s12))))))), (h17).symm, (fun i h0 h1 => (elm_mk (G := (up (up G6 168 z8 s e) 155 this 2 (s + 1))) (i := i) e16 z8s).trans ((((show (up G6 168 z8 s e) 168 z8 i = _ from up_ne (fun q => absurd q.2.2 (by first | decide | omega)))).trans (q10 i h0 (by first | decide | omega))).trans (elm_mk (G := G) (i := i) ed_e elementData_s).symm)), ((elm_mk (G := (up (up G6 168 z8 s e) 155 this 2 (s + 1))) (i := s) e16 z8s).trans (show (up G6 168 z8 s e) 168 z8 s = e from up_self _ _ _ _ _))⟩
set_option maxRecDepth 100000 in
set_option maxHeartbeats 4000000 in
theorem c_ad3_Ltr_3T (E : En) (S : Sg) (G : Gh) (this : Int) (e : Int) (elementData : Int) (s : Int) (hS : S this = 155) (e_s : S e = 140) (elementData_s : S elementData = 168) (s_a : 0 ≤ s) (s_b : s ≤ 33) (s_e : s = G 155 this 2) (ed_e : elementData = G 155 this 1) (els : ∀ i : Int, 0 ≤ i → i < s → S (G 168 elementData i) = 140) : Calls E mJx4a65c_add_72be8 [(2, this), (2, e), (2, elementData), (0, s)] S G 12 1 49 (fun r S' G' => Gr [169] [(155, 1), (155, 2), (168, -1), (169, -1)] S G S' G' ∧ r = none ∧ LB1 E S' G' this ∧ G' 155 this 2 = s + 1 ∧ (∀ i : Int, 0 ≤ i → i < s → elm S' G' 155 this i = elm S G 155 this i) ∧ elm S' G' 155 this s = e) := by
  refine calls_by [(0, (2, this)), (1, (2, e)), (2, (2, elementData)), (3, (0, s))] rfl rfl (Nat.le_of_ble_eq_true rfl) (fun X hX => ?_)
  have hP := hPJx4a65c_add_72be8
  refine r_ex hX hP 2 (pc' := 2) (st' := [(2, elementData), (0, s)]) (lo' := [(0, (2, this)), (1, (2, e)), (2, (2, elementData)), (3, (0, s))]) rfl ?_
  refine r_alen hX hP rfl al_168 elementData_s ?_
  refine r_ic_ne hX hP rfl (tgt := 11) rfl (by first | decide | omega) (by first | decide | omega) (by first | decide | omega) (by first | decide | omega) (fun c1 => ?_) (fun c1 => ?_)
  · skip
    refine r_ex hX hP 3 (pc' := 14) (st' := [(2, e), (0, s), (2, elementData)]) (lo' := [(0, (2, this)), (1, (2, e)), (2, (2, elementData)), (3, (0, s))]) rfl ?_
    refine r_aast hX hP rfl (L := 168) al_168 ck_140_O elementData_s e_s (by first | decide | omega) (by first | decide | omega) ?_
    refine r_ex hX hP 4 (pc' := 19) (st' := [(0, (s + 1)), (2, this)]) (lo' := [(0, (2, this)), (1, (2, e)), (2, (2, elementData)), (3, (0, s))]) rfl ?_
    refine r_putIK hX hP rfl fp_Jx4a65c_48_155 hS (by first | decide | omega) (by first | decide | omega) (fun h2 => ?_)
    have g3 : Gr [169] [(155, 1), (155, 2), (168, -1), (169, -1)] S G S (up (up G 168 elementData s e) 155 this 2 (s + 1)) := (gr_up (gr_up (gr_refl [169] [(155, 1), (155, 2), (168, -1), (169, -1)] S G) rfl) rfl)
    exact r_retV hX hP rfl rfl (by first | decide | omega) (by first | decide | omega) ⟨g3, rfl, (Or.inr (Or.inr (Or.inr (Or.inr (Or.inl (lb_mk (G' := (up (up G 168 elementData s e) 155 this 2 (s + 1))) ed_e elementData_s h2 (by first | decide | omega) (le_store els e_s))))))), (h2).symm, (fun i h0 h1 => (elm_mk (G := (up (up G 168 elementData s e) 155 this 2 (s + 1))) (i := i) ed_e elementData_s).trans (((show (up G 168 elementData s e) 168 elementData i = _ from up_ne (fun q => absurd q.2.2 (by first | decide | omega)))).trans (elm_mk (G := G) (i := i) ed_e elementData_s).symm)), ((elm_mk (G := (up (up G 168 elementData s e) 155 this 2 (s + 1))) (i := s) ed_e elementData_s).trans (show (up G 168 elementData s e) 168 elementData s = e from up_self _ _ _ _ _))⟩
  · skip
    refine r_ex hX hP 1 (pc' := 7) (st' := [(2, this)]) (lo' := [(0, (2, this)), (1, (2, e)), (2, (2, elementData)), (3, (0, s))]) rfl ?_
    have e4 : 33 = G 155 this 2 := by have e := s_e; omega
    refine r_callV gd hX hP rfl cv_Jx4a65c_129_155 hS (d' := 10) (mc' := 1) (ms' := 49) (as' := []) (st := []) (by first | decide | omega) (by first | decide | omega) (by first | decide | omega) rfl rfl (Nat.le_of_ble_eq_true rfl) (c_gr0_Ltr_3 E S G this  hS elementData ed_e elementData_s e4) ?_
    rintro _ S5 G6 ⟨g7, z8, rfl, z8s, q9, q10⟩
    have s11 : S5 this = 155 := gr_lab g7 hS (by decide)
    have s12 : S5 e = 140 := gr_lab g7 e_s (by decide)
    have s13 : S5 elementData = 168 := gr_lab g7 elementData_s (by decide)
    have e14 : s = G6 155 this 2 := gr_val g7 s_e hS (by decide) rfl
    have g15 : Gr [169] [(155, 1), (155, 2), (168, -1), (169, -1)] S G S5 G6 := gr_call (gr_refl [169] [(155, 1), (155, 2), (168, -1), (169, -1)] S G) g7 rfl rfl
    have e16 : z8 = G6 155 this 1 := q9.symm
    refine r_ex hX hP 4 (pc' := 14) (st' := [(2, e), (0, s), (2, z8)]) (lo' := [(0, (2, this)), (1, (2, e)), (2, (2, z8)), (3, (0, s))]) rfl ?_
    refine r_aast hX hP rfl (L := 169) al_169 ck_140_O z8s s12 (by first | decide | omega) (by first | decide | omega) ?_
    refine r_ex hX hP 4 (pc' := 19) (st' := [(0, (s + 1)), (2, this)]) (lo' := [(0, (2, this)), (1, (2, e)), (2, (2, z8)), (3, (0, s))]) rfl ?_
    refine r_putIK hX hP rfl fp_Jx4a65c_48_155 s11 (by first | decide | omega) (by first | decide | omega) (fun h17 => ?_)
    have g18 : Gr [169] [(155, 1), (155, 2), (168, -1), (169, -1)] S G S5 (up (up G6 169 z8 s e) 155 this 2 (s + 1)) := (gr_up (gr_up g15 rfl) rfl)
    exact r_retV hX hP rfl rfl (by first | decide | omega) (by first | decide | omega) ⟨g18, rfl, (Or.inr (Or.inr (Or.inr (Or.inr (Or.inr ((lb_mk (G' := (up (up G6 169 z8 s e) 155 this 2 (s + 1))) e16 z8s h17 (by first | decide | omega) (le_store (fun i h0 h1 => by rw [q10 i h0 (by first | decide | omega)]; exact gr_lab g7 (els i h0 h1) (by decide)) s12)))))))), (h17).symm, (fun i h0 h1 => (elm_mk (G := (up (up G6 169 z8 s e) 155 this 2 (s + 1))) (i := i) e16 z8s).trans ((((show (up G6 169 z8 s e) 169 z8 i = _ from up_ne (fun q => absurd q.2.2 (by first | decide | omega)))).trans (q10 i h0 (by first | decide | omega))).trans (elm_mk (G := G) (i := i) ed_e elementData_s).symm)), ((elm_mk (G := (up (up G6 169 z8 s e) 155 this 2 (s + 1))) (i := s) e16 z8s).trans (show (up G6 169 z8 s e) 169 z8 s = e from up_self _ _ _ _ _))⟩
set_option maxRecDepth 100000 in
set_option maxHeartbeats 4000000 in
theorem c_ad3_Ltr_4T (E : En) (S : Sg) (G : Gh) (this : Int) (e : Int) (elementData : Int) (s : Int) (hS : S this = 155) (e_s : S e = 140) (elementData_s : S elementData = 169) (s_a : 0 ≤ s) (s_b : s ≤ 39) (s_e : s = G 155 this 2) (ed_e : elementData = G 155 this 1) (els : ∀ i : Int, 0 ≤ i → i < s → S (G 169 elementData i) = 140) : Calls E mJx4a65c_add_72be8 [(2, this), (2, e), (2, elementData), (0, s)] S G 12 0 0 (fun r S' G' => Gr [] [(155, 2), (169, -1)] S G S' G' ∧ r = none ∧ LB1 E S' G' this ∧ G' 155 this 2 = s + 1 ∧ (∀ i : Int, 0 ≤ i → i < s → elm S' G' 155 this i = elm S G 155 this i) ∧ elm S' G' 155 this s = e) := by
  refine calls_by [(0, (2, this)), (1, (2, e)), (2, (2, elementData)), (3, (0, s))] rfl rfl (Nat.le_of_ble_eq_true rfl) (fun X hX => ?_)
  have hP := hPJx4a65c_add_72be8
  refine r_ex hX hP 2 (pc' := 2) (st' := [(2, elementData), (0, s)]) (lo' := [(0, (2, this)), (1, (2, e)), (2, (2, elementData)), (3, (0, s))]) rfl ?_
  refine r_alen hX hP rfl al_169 elementData_s ?_
  refine r_ic_ne hX hP rfl (tgt := 11) rfl (by first | decide | omega) (by first | decide | omega) (by first | decide | omega) (by first | decide | omega) (fun c1 => ?_) (fun c1 => ?_)
  · skip
    refine r_ex hX hP 3 (pc' := 14) (st' := [(2, e), (0, s), (2, elementData)]) (lo' := [(0, (2, this)), (1, (2, e)), (2, (2, elementData)), (3, (0, s))]) rfl ?_
    refine r_aast hX hP rfl (L := 169) al_169 ck_140_O elementData_s e_s (by first | decide | omega) (by first | decide | omega) ?_
    refine r_ex hX hP 4 (pc' := 19) (st' := [(0, (s + 1)), (2, this)]) (lo' := [(0, (2, this)), (1, (2, e)), (2, (2, elementData)), (3, (0, s))]) rfl ?_
    refine r_putIK hX hP rfl fp_Jx4a65c_48_155 hS (by first | decide | omega) (by first | decide | omega) (fun h2 => ?_)
    have g3 : Gr [] [(155, 2), (169, -1)] S G S (up (up G 169 elementData s e) 155 this 2 (s + 1)) := (gr_up (gr_up (gr_refl [] [(155, 2), (169, -1)] S G) rfl) rfl)
    exact r_retV hX hP rfl rfl (by first | decide | omega) (by first | decide | omega) ⟨g3, rfl, (Or.inr (Or.inr (Or.inr (Or.inr (Or.inr ((lb_mk (G' := (up (up G 169 elementData s e) 155 this 2 (s + 1))) ed_e elementData_s h2 (by first | decide | omega) (le_store els e_s)))))))), (h2).symm, (fun i h0 h1 => (elm_mk (G := (up (up G 169 elementData s e) 155 this 2 (s + 1))) (i := i) ed_e elementData_s).trans (((show (up G 169 elementData s e) 169 elementData i = _ from up_ne (fun q => absurd q.2.2 (by first | decide | omega)))).trans (elm_mk (G := G) (i := i) ed_e elementData_s).symm)), ((elm_mk (G := (up (up G 169 elementData s e) 155 this 2 (s + 1))) (i := s) ed_e elementData_s).trans (show (up G 169 elementData s e) 169 elementData s = e from up_self _ _ _ _ _))⟩
  · skip
    exfalso; omega
set_option maxRecDepth 100000 in
set_option maxHeartbeats 4000000 in
theorem c_add_LtrT (E : En) (S : Sg) (G : Gh) (this : Int) (e : Int) (hS : S this = 155) (e_s : S e = 140) (sz : Int) (sz_e : sz = G 155 this 2) (pre0 : sz + 1 ≤ 40) (ci : CI E S G) : Calls E mJx4a65c_add_9ea2d [(2, this), (2, e)] S G 14 1 49 (fun r S' G' => Gr [165, 166, 167, 168, 169] [(155, 0), (155, 1), (155, 2), (165, -1), (166, -1), (167, -1), (168, -1), (169, -1)] S G S' G' ∧ ∃ z : Int, r = some (0, z) ∧ 1 ≤ z ∧ z ≤ 1 ∧ CI E S' G' ∧ G' 155 this 2 = sz + 1 ∧ (∀ i : Int, 0 ≤ i → i < sz → elm S' G' 155 this i = elm S G 155 this i) ∧ elm S' G' 155 this sz = e) := by
  refine calls_by [(0, (2, this)), (1, (2, e))] rfl rfl (Nat.le_of_ble_eq_true rfl) (fun X hX => ?_)
  have hP := hPJx4a65c_add_9ea2d
  refine r_peekI hX (tl_155 2 rfl (by decide)) hS (fun sz_o sz_oe sz_oa sz_ob => ?_)
  obtain rfl : sz = sz_o := sz_e.trans sz_oe.symm
  refine r_tk hX (fun tk0 => ?_)
  refine r_ex hX hP 2 (pc' := 2) (st' := [(2, this), (2, this)]) (lo' := [(0, (2, this)), (1, (2, e))]) rfl ?_
  refine r_getUI hX hP rfl fu_155 hS (fun mf1 mf1e mf1a mf1b => ?_)
  refine r_ex hX hP 2 (pc' := 7) (st' := [(0, (mf1 + 1)), (2, this)]) (lo' := [(0, (2, this)), (1, (2, e))]) rfl ?_
  refine r_hvI hX (fun w2 w2a w2b w2e => ?_)
  refine r_putUI hX hP rfl fu_155 hS (by first | decide | omega) (by first | decide | omega) ?_
  refine r_ex hX hP 3 (pc' := 13) (st' := [(2, this), (2, e), (2, this)]) (lo' := [(0, (2, this)), (1, (2, e))]) rfl ?_
  refine r_get5 hX hP rfl fl_Jx4a65c_9_155 hS (fun ef3 ef3e ef3o => ?_)
  refine r_ex hX hP 1 (pc' := 17) (st' := [(2, this), (2, ef3), (2, e), (2, this)]) (lo' := [(0, (2, this)), (1, (2, e))]) rfl ?_
  refine r_getKI hX hP rfl fl_Jx4a65c_48_155 hS (x := sz) sz_e ?_
  rcases ci.2.2.1 this hS with ⟨q1, q2⟩ | ⟨q1, q2, q3⟩ | ⟨q1, q2, q3⟩ | ⟨q1, q2, q3⟩ | ⟨q1, q2, q3⟩ | ⟨q1, q2, q3⟩
  · skip
    obtain rfl : ef3 = Ad E 0 := ef3e.trans q1
    have q2 : sz = 0 := sz_e.trans q2
    have g4 : Gr [165, 166, 167, 168, 169] [(155, 0), (155, 1), (155, 2), (165, -1), (166, -1), (167, -1), (168, -1), (169, -1)] S G S (up G 155 this 0 w2) := (gr_up (gr_refl [165, 166, 167, 168, 169] [(155, 0), (155, 1), (155, 2), (165, -1), (166, -1), (167, -1), (168, -1), (169, -1)] S G) rfl)
    refine r_callV gd hX hP rfl cv_Jx4a65c_131_155 hS (d' := 12) (mc' := 1) (ms' := 10) (as' := [(2, e), (2, (Ad E 0)), (0, sz)]) (st := []) (by first | decide | omega) (by first | decide | omega) (by first | decide | omega) rfl rfl (Nat.le_of_ble_eq_true rfl) (c_ad3_Ltr_ET E S (up G 155 this 0 w2) this e (Ad E 0) sz hS e_s (by first | decide | omega) (by first | decide | omega) sz_e rfl ef3e) ?_
    rintro _ S5 G6 ⟨g7, rfl, q8, q9, q10, q11⟩
    have s12 : S5 this = 155 := gr_lab g7 hS (by decide)
    have s13 : S5 e = 140 := gr_lab g7 e_s (by decide)
    have g14 : Gr [165, 166, 167, 168, 169] [(155, 0), (155, 1), (155, 2), (165, -1), (166, -1), (167, -1), (168, -1), (169, -1)] S G S5 G6 := gr_call g4 g7 rfl rfl
    refine r_ex hX hP 1 (pc' := 24) (st' := [(0, 1)]) (lo' := [(0, (2, this)), (1, (2, e))]) rfl ?_
    exact r_retZ hX hP rfl rfl (by first | decide | omega) (by first | decide | omega) (by first | decide | omega) (by first | decide | omega) ⟨g14, 1, rfl, (by first | decide | omega), (by first | decide | omega), (ci_ad1 ci tk0 g14 rfl rfl hS q8 (by have e := q9; omega)), q9, (fun i h0 h1 => by exfalso; omega), q11⟩
  · skip
    have qs : S ef3 = 165 := by rw [ef3e]; exact q1
    have q2 : sz ≤ 10 := by rw [sz_e]; exact q2
    have q3 : ∀ i : Int, 0 ≤ i → i < sz → S (G 165 ef3 i) = 140 := by rw [sz_e, ef3e]; exact q3
    have g15 : Gr [165, 166, 167, 168, 169] [(155, 0), (155, 1), (155, 2), (165, -1), (166, -1), (167, -1), (168, -1), (169, -1)] S G S (up G 155 this 0 w2) := (gr_up (gr_refl [165, 166, 167, 168, 169] [(155, 0), (155, 1), (155, 2), (165, -1), (166, -1), (167, -1), (168, -1), (169, -1)] S G) rfl)
    refine r_callV gd hX hP rfl cv_Jx4a65c_131_155 hS (d' := 12) (mc' := 1) (ms' := 15) (as' := [(2, e), (2, ef3), (0, sz)]) (st := []) (by first | decide | omega) (by first | decide | omega) (by first | decide | omega) rfl rfl (Nat.le_of_ble_eq_true rfl) (c_ad3_Ltr_0T E S (up G 155 this 0 w2) this e ef3 sz hS e_s qs (by first | decide | omega) (by first | decide | omega) sz_e ef3e q3) ?_
    rintro _ S16 G17 ⟨g18, rfl, q19, q20, q21, q22⟩
    have s23 : S16 this = 155 := gr_lab g18 hS (by decide)
    have s24 : S16 e = 140 := gr_lab g18 e_s (by decide)
    have s25 : S16 ef3 = 165 := gr_lab g18 qs (by decide)
    have g26 : Gr [165, 166, 167, 168, 169] [(155, 0), (155, 1), (155, 2), (165, -1), (166, -1), (167, -1), (168, -1), (169, -1)] S G S16 G17 := gr_call g15 g18 rfl rfl
    refine r_ex hX hP 1 (pc' := 24) (st' := [(0, 1)]) (lo' := [(0, (2, this)), (1, (2, e))]) rfl ?_
    exact r_retZ hX hP rfl rfl (by first | decide | omega) (by first | decide | omega) (by first | decide | omega) (by first | decide | omega) ⟨g26, 1, rfl, (by first | decide | omega), (by first | decide | omega), (ci_ad1 ci tk0 g26 rfl rfl hS q19 (by have e := q20; omega)), q20, (fun i h0 h1 => (q21 i h0 h1).trans (elm_up (by decide) (by first | decide | omega))), q22⟩
  · skip
    have qs : S ef3 = 166 := by rw [ef3e]; exact q1
    have q2 : sz ≤ 15 := by rw [sz_e]; exact q2
    have q3 : ∀ i : Int, 0 ≤ i → i < sz → S (G 166 ef3 i) = 140 := by rw [sz_e, ef3e]; exact q3
    have g27 : Gr [165, 166, 167, 168, 169] [(155, 0), (155, 1), (155, 2), (165, -1), (166, -1), (167, -1), (168, -1), (169, -1)] S G S (up G 155 this 0 w2) := (gr_up (gr_refl [165, 166, 167, 168, 169] [(155, 0), (155, 1), (155, 2), (165, -1), (166, -1), (167, -1), (168, -1), (169, -1)] S G) rfl)
    refine r_callV gd hX hP rfl cv_Jx4a65c_131_155 hS (d' := 12) (mc' := 1) (ms' := 22) (as' := [(2, e), (2, ef3), (0, sz)]) (st := []) (by first | decide | omega) (by first | decide | omega) (by first | decide | omega) rfl rfl (Nat.le_of_ble_eq_true rfl) (c_ad3_Ltr_1T E S (up G 155 this 0 w2) this e ef3 sz hS e_s qs (by first | decide | omega) (by first | decide | omega) sz_e ef3e q3) ?_
    rintro _ S28 G29 ⟨g30, rfl, q31, q32, q33, q34⟩
    have s35 : S28 this = 155 := gr_lab g30 hS (by decide)
    have s36 : S28 e = 140 := gr_lab g30 e_s (by decide)
    have s37 : S28 ef3 = 166 := gr_lab g30 qs (by decide)
    have g38 : Gr [165, 166, 167, 168, 169] [(155, 0), (155, 1), (155, 2), (165, -1), (166, -1), (167, -1), (168, -1), (169, -1)] S G S28 G29 := gr_call g27 g30 rfl rfl
    refine r_ex hX hP 1 (pc' := 24) (st' := [(0, 1)]) (lo' := [(0, (2, this)), (1, (2, e))]) rfl ?_
    exact r_retZ hX hP rfl rfl (by first | decide | omega) (by first | decide | omega) (by first | decide | omega) (by first | decide | omega) ⟨g38, 1, rfl, (by first | decide | omega), (by first | decide | omega), (ci_ad1 ci tk0 g38 rfl rfl hS q31 (by have e := q32; omega)), q32, (fun i h0 h1 => (q33 i h0 h1).trans (elm_up (by decide) (by first | decide | omega))), q34⟩
  · skip
    have qs : S ef3 = 167 := by rw [ef3e]; exact q1
    have q2 : sz ≤ 22 := by rw [sz_e]; exact q2
    have q3 : ∀ i : Int, 0 ≤ i → i < sz → S (G 167 ef3 i) = 140 := by rw [sz_e, ef3e]; exact q3
    have g39 : Gr [165, 166, 167, 168, 169] [(155, 0), (155, 1), (155, 2), (165, -1), (166, -1), (167, -1), (168, -1), (169, -1)] S G S (up G 155 this 0 w2) := (gr_up (gr_refl [165, 166, 167, 168, 169] [(155, 0), (155, 1), (155, 2), (165, -1), (166, -1), (167, -1), (168, -1), (169, -1)] S G) rfl)
    refine r_callV gd hX hP rfl cv_Jx4a65c_131_155 hS (d' := 12) (mc' := 1) (ms' := 33) (as' := [(2, e), (2, ef3), (0, sz)]) (st := []) (by first | decide | omega) (by first | decide | omega) (by first | decide | omega) rfl rfl (Nat.le_of_ble_eq_true rfl) (c_ad3_Ltr_2T E S (up G 155 this 0 w2) this e ef3 sz hS e_s qs (by first | decide | omega) (by first | decide | omega) sz_e ef3e q3) ?_
    rintro _ S40 G41 ⟨g42, rfl, q43, q44, q45, q46⟩
    have s47 : S40 this = 155 := gr_lab g42 hS (by decide)
    have s48 : S40 e = 140 := gr_lab g42 e_s (by decide)
    have s49 : S40 ef3 = 167 := gr_lab g42 qs (by decide)
    have g50 : Gr [165, 166, 167, 168, 169] [(155, 0), (155, 1), (155, 2), (165, -1), (166, -1), (167, -1), (168, -1), (169, -1)] S G S40 G41 := gr_call g39 g42 rfl rfl
    refine r_ex hX hP 1 (pc' := 24) (st' := [(0, 1)]) (lo' := [(0, (2, this)), (1, (2, e))]) rfl ?_
    exact r_retZ hX hP rfl rfl (by first | decide | omega) (by first | decide | omega) (by first | decide | omega) (by first | decide | omega) ⟨g50, 1, rfl, (by first | decide | omega), (by first | decide | omega), (ci_ad1 ci tk0 g50 rfl rfl hS q43 (by have e := q44; omega)), q44, (fun i h0 h1 => (q45 i h0 h1).trans (elm_up (by decide) (by first | decide | omega))), q46⟩
  · skip
    have qs : S ef3 = 168 := by rw [ef3e]; exact q1
    have q2 : sz ≤ 33 := by rw [sz_e]; exact q2
    have q3 : ∀ i : Int, 0 ≤ i → i < sz → S (G 168 ef3 i) = 140 := by rw [sz_e, ef3e]; exact q3
    have g51 : Gr [165, 166, 167, 168, 169] [(155, 0), (155, 1), (155, 2), (165, -1), (166, -1), (167, -1), (168, -1), (169, -1)] S G S (up G 155 this 0 w2) := (gr_up (gr_refl [165, 166, 167, 168, 169] [(155, 0), (155, 1), (155, 2), (165, -1), (166, -1), (167, -1), (168, -1), (169, -1)] S G) rfl)
    refine r_callV gd hX hP rfl cv_Jx4a65c_131_155 hS (d' := 12) (mc' := 1) (ms' := 49) (as' := [(2, e), (2, ef3), (0, sz)]) (st := []) (by first | decide | omega) (by first | decide | omega) (by first | decide | omega) rfl rfl (Nat.le_of_ble_eq_true rfl) (c_ad3_Ltr_3T E S (up G 155 this 0 w2) this e ef3 sz hS e_s qs (by first | decide | omega) (by first | decide | omega) sz_e ef3e q3) ?_
    rintro _ S52 G53 ⟨g54, rfl, q55, q56, q57, q58⟩
    have s59 : S52 this = 155 := gr_lab g54 hS (by decide)
    have s60 : S52 e = 140 := gr_lab g54 e_s (by decide)
    have s61 : S52 ef3 = 168 := gr_lab g54 qs (by decide)
    have g62 : Gr [165, 166, 167, 168, 169] [(155, 0), (155, 1), (155, 2), (165, -1), (166, -1), (167, -1), (168, -1), (169, -1)] S G S52 G53 := gr_call g51 g54 rfl rfl
    refine r_ex hX hP 1 (pc' := 24) (st' := [(0, 1)]) (lo' := [(0, (2, this)), (1, (2, e))]) rfl ?_
    exact r_retZ hX hP rfl rfl (by first | decide | omega) (by first | decide | omega) (by first | decide | omega) (by first | decide | omega) ⟨g62, 1, rfl, (by first | decide | omega), (by first | decide | omega), (ci_ad1 ci tk0 g62 rfl rfl hS q55 (by have e := q56; omega)), q56, (fun i h0 h1 => (q57 i h0 h1).trans (elm_up (by decide) (by first | decide | omega))), q58⟩
  · skip
    have qs : S ef3 = 169 := by rw [ef3e]; exact q1
    have q2 : sz ≤ 49 := by rw [sz_e]; exact q2
    have q3 : ∀ i : Int, 0 ≤ i → i < sz → S (G 169 ef3 i) = 140 := by rw [sz_e, ef3e]; exact q3
    have g63 : Gr [165, 166, 167, 168, 169] [(155, 0), (155, 1), (155, 2), (165, -1), (166, -1), (167, -1), (168, -1), (169, -1)] S G S (up G 155 this 0 w2) := (gr_up (gr_refl [165, 166, 167, 168, 169] [(155, 0), (155, 1), (155, 2), (165, -1), (166, -1), (167, -1), (168, -1), (169, -1)] S G) rfl)
    refine r_callV gd hX hP rfl cv_Jx4a65c_131_155 hS (d' := 12) (mc' := 0) (ms' := 0) (as' := [(2, e), (2, ef3), (0, sz)]) (st := []) (by first | decide | omega) (by first | decide | omega) (by first | decide | omega) rfl rfl (Nat.le_of_ble_eq_true rfl) (c_ad3_Ltr_4T E S (up G 155 this 0 w2) this e ef3 sz hS e_s qs (by first | decide | omega) (by first | decide | omega) sz_e ef3e q3) ?_
    rintro _ S64 G65 ⟨g66, rfl, q67, q68, q69, q70⟩
    have s71 : S64 this = 155 := gr_lab g66 hS (by decide)
    have s72 : S64 e = 140 := gr_lab g66 e_s (by decide)
    have s73 : S64 ef3 = 169 := gr_lab g66 qs (by decide)
    have e74 : ef3 = G65 155 this 1 := gr_val g66 ef3e hS (by decide) rfl
    have g75 : Gr [165, 166, 167, 168, 169] [(155, 0), (155, 1), (155, 2), (165, -1), (166, -1), (167, -1), (168, -1), (169, -1)] S G S64 G65 := gr_call g63 g66 rfl rfl
    refine r_ex hX hP 1 (pc' := 24) (st' := [(0, 1)]) (lo' := [(0, (2, this)), (1, (2, e))]) rfl ?_
    exact r_retZ hX hP rfl rfl (by first | decide | omega) (by first | decide | omega) (by first | decide | omega) (by first | decide | omega) ⟨g75, 1, rfl, (by first | decide | omega), (by first | decide | omega), (ci_ad1 ci tk0 g75 rfl rfl hS q67 (by have e := q68; omega)), q68, (fun i h0 h1 => (q69 i h0 h1).trans (elm_up (by decide) (by first | decide | omega))), q70⟩
set_option maxRecDepth 100000 in
set_option maxHeartbeats 4000000 in
theorem c_ad3_Lev_ET (E : En) (S : Sg) (G : Gh) (this : Int) (e : Int) (elementData : Int) (s : Int) (hS : S this = 156) (e_s : S e = 137) (s_a : 0 ≤ s) (s_b : s ≤ 0) (s_e : s = G 156 this 2) (ed_x : elementData = Ad E 0) (ed_e : Ad E 0 = G 156 this 1) : Calls E mJx4a65c_add_72be8 [(2, this), (2, e), (2, elementData), (0, s)] S G 12 1 10 (fun r S' G' => Gr [170] [(156, 1), (156, 2), (170, -1)] S G S' G' ∧ r = none ∧ LB2 E S' G' this ∧ G' 156 this 2 = s + 1 ∧ (∀ i : Int, 0 ≤ i → i < s → elm S' G' 156 this i = elm S G 156 this i) ∧ elm S' G' 156 this s = e) := by
  refine calls_by [(0, (2, this)), (1, (2, e)), (2, (2, elementData)), (3, (0, s))] rfl rfl (Nat.le_of_ble_eq_true rfl) (fun X hX => ?_)
  have hP := hPJx4a65c_add_72be8
  subst ed_x
  refine r_ex hX hP 2 (pc' := 2) (st' := [(2, (Ad E 0)), (0, s)]) (lo' := [(0, (2, this)), (1, (2, e)), (2, (2, (Ad E 0))), (3, (0, s))]) rfl ?_
  refine r_alenE hX hP rfl ?_
  refine r_ic_ne hX hP rfl (tgt := 11) rfl (by first | decide | omega) (by first | decide | omega) (by first | decide | omega) (by first | decide | omega) (fun c1 => ?_) (fun c1 => ?_)
  · skip
    exfalso; omega
  · skip
    refine r_ex hX hP 1 (pc' := 7) (st' := [(2, this)]) (lo' := [(0, (2, this)), (1, (2, e)), (2, (2, (Ad E 0))), (3, (0, s))]) rfl ?_
    have e2 : 0 = G 156 this 2 := by have e := s_e; omega
    refine r_callV gd hX hP rfl cv_Jx4a65c_129_156 hS (d' := 10) (mc' := 1) (ms' := 10) (as' := []) (st := []) (by first | decide | omega) (by first | decide | omega) (by first | decide | omega) rfl rfl (Nat.le_of_ble_eq_true rfl) (c_gr0_Lev_E E S G this  hS ed_e e2) ?_
    rintro _ S3 G4 ⟨g5, z6, rfl, z6s, q7⟩
    have s8 : S3 this = 156 := gr_lab g5 hS (by decide)
    have s9 : S3 e = 137 := gr_lab g5 e_s (by decide)
    have e10 : s = G4 156 this 2 := gr_val g5 s_e hS (by decide) rfl
    have g11 : Gr [170] [(156, 1), (156, 2), (170, -1)] S G S3 G4 := gr_call (gr_refl [170] [(156, 1), (156, 2), (170, -1)] S G) g5 rfl rfl
    have e12 : z6 = G4 156 this 1 := q7.symm
    refine r_ex hX hP 4 (pc' := 14) (st' := [(2, e), (0, s), (2, z6)]) (lo' := [(0, (2, this)), (1, (2, e)), (2, (2, z6)), (3, (0, s))]) rfl ?_
    refine r_aast hX hP rfl (L := 170) al_170 ck_137_O z6s s9 (by first | decide | omega) (by first | decide | omega) ?_
    refine r_ex hX hP 4 (pc' := 19) (st' := [(0, (s + 1)), (2, this)]) (lo' := [(0, (2, this)), (1, (2, e)), (2, (2, z6)), (3, (0, s))]) rfl ?_
    refine r_putIK hX hP rfl fp_Jx4a65c_48_156 s8 (by first | decide | omega) (by first | decide | omega) (fun h13 => ?_)
    have g14 : Gr [170] [(156, 1), (156, 2), (170, -1)] S G S3 (up (up G4 170 z6 s e) 156 this 2 (s + 1)) := (gr_up (gr_up g11 rfl) rfl)
    exact r_retV hX hP rfl rfl (by first | decide | omega) (by first | decide | omega) ⟨g14, rfl, (Or.inr (Or.inl (lb_mk (G' := (up (up G4 170 z6 s e) 156 this 2 (s + 1))) e12 z6s h13 (by first | decide | omega) (le_store (fun i h0 h1 => by exfalso; omega) s9)))), (h13).symm, (fun i h0 h1 => by exfalso; omega), ((elm_mk (G := (up (up G4 170 z6 s e) 156 this 2 (s + 1))) (i := s) e12 z6s).trans (show (up G4 170 z6 s e) 170 z6 s = e from up_self _ _ _ _ _))⟩
set_option maxRecDepth 100000 in
set_option maxHeartbeats 4000000 in
theorem c_ad3_Lev_0T (E : En) (S : Sg) (G : Gh) (this : Int) (e : Int) (elementData : Int) (s : Int) (hS : S this = 156) (e_s : S e = 137) (elementData_s : S elementData = 170) (s_a : 0 ≤ s) (s_b : s ≤ 10) (s_e : s = G 156 this 2) (ed_e : elementData = G 156 this 1) (els : ∀ i : Int, 0 ≤ i → i < s → S (G 170 elementData i) = 137) : Calls E mJx4a65c_add_72be8 [(2, this), (2, e), (2, elementData), (0, s)] S G 12 1 15 (fun r S' G' => Gr [171] [(156, 1), (156, 2), (170, -1), (171, -1)] S G S' G' ∧ r = none ∧ LB2 E S' G' this ∧ G' 156 this 2 = s + 1 ∧ (∀ i : Int, 0 ≤ i → i < s → elm S' G' 156 this i = elm S G 156 this i) ∧ elm S' G' 156 this s = e) := by
  refine calls_by [(0, (2, this)), (1, (2, e)), (2, (2, elementData)), (3, (0, s))] rfl rfl (Nat.le_of_ble_eq_true rfl) (fun X hX => ?_)
  have hP := hPJx4a65c_add_72be8
  refine r_ex hX hP 2 (pc' := 2) (st' := [(2, elementData), (0, s)]) (lo' := [(0, (2, this)), (1, (2, e)), (2, (2, elementData)), (3, (0, s))]) rfl ?_
  refine r_alen hX hP rfl al_170 elementData_s ?_
  refine r_ic_ne hX hP rfl (tgt := 11) rfl (by first | decide | omega) (by first | decide | omega) (by first | decide | omega) (by first | decide | omega) (fun c1 => ?_) (fun c1 => ?_)
  · skip
    refine r_ex hX hP 3 (pc' := 14) (st' := [(2, e), (0, s), (2, elementData)]) (lo' := [(0, (2, this)), (1, (2, e)), (2, (2, elementData)), (3, (0, s))]) rfl ?_
    refine r_aast hX hP rfl (L := 170) al_170 ck_137_O elementData_s e_s (by first | decide | omega) (by first | decide | omega) ?_
    refine r_ex hX hP 4 (pc' := 19) (st' := [(0, (s + 1)), (2, this)]) (lo' := [(0, (2, this)), (1, (2, e)), (2, (2, elementData)), (3, (0, s))]) rfl ?_
    refine r_putIK hX hP rfl fp_Jx4a65c_48_156 hS (by first | decide | omega) (by first | decide | omega) (fun h2 => ?_)
    have g3 : Gr [171] [(156, 1), (156, 2), (170, -1), (171, -1)] S G S (up (up G 170 elementData s e) 156 this 2 (s + 1)) := (gr_up (gr_up (gr_refl [171] [(156, 1), (156, 2), (170, -1), (171, -1)] S G) rfl) rfl)
    exact r_retV hX hP rfl rfl (by first | decide | omega) (by first | decide | omega) ⟨g3, rfl, (Or.inr (Or.inl (lb_mk (G' := (up (up G 170 elementData s e) 156 this 2 (s + 1))) ed_e elementData_s h2 (by first | decide | omega) (le_store els e_s)))), (h2).symm, (fun i h0 h1 => (elm_mk (G := (up (up G 170 elementData s e) 156 this 2 (s + 1))) (i := i) ed_e elementData_s).trans (((show (up G 170 elementData s e) 170 elementData i = _ from up_ne (fun q => absurd q.2.2 (by first | decide | omega)))).trans (elm_mk (G := G) (i := i) ed_e elementData_s).symm)), ((elm_mk (G := (up (up G 170 elementData s e) 156 this 2 (s + 1))) (i := s) ed_e elementData_s).trans (show (up G 170 elementData s e) 170 elementData s = e from up_self _ _ _ _ _))⟩
  · skip
    refine r_ex hX hP 1 (pc' := 7) (st' := [(2, this)]) (lo' := [(0, (2, this)), (1, (2, e)), (2, (2, elementData)), (3, (0, s))]) rfl ?_
    have e4 : 10 = G 156 this 2 := by have e := s_e; omega
    refine r_callV gd hX hP rfl cv_Jx4a65c_129_156 hS (d' := 10) (mc' := 1) (ms' := 15) (as' := []) (st := []) (by first | decide | omega) (by first | decide | omega) (by first | decide | omega) rfl rfl (Nat.le_of_ble_eq_true rfl) (c_gr0_Lev_0 E S G this  hS elementData ed_e elementData_s e4) ?_
    rintro _ S5 G6 ⟨g7, z8, rfl, z8s, q9, q10⟩
    have s11 : S5 this = 156 := gr_lab g7 hS (by decide)
    have s12 : S5 e = 137 := gr_lab g7 e_s (by decide)
    have s13 : S5 elementData = 170 := gr_lab g7 elementData_s (by decide)
    have e14 : s = G6 156 this 2 := gr_val g7 s_e hS (by decide) rfl
    have g15 : Gr [171] [(156, 1), (156, 2), (170, -1), (171, -1)] S G S5 G6 := gr_call (gr_refl [171] [(156, 1), (156, 2), (170, -1), (171, -1)] S G) g7 rfl rfl
    have e16 : z8 = G6 156 this 1 := q9.symm
    refine r_ex hX hP 4 (pc' := 14) (st' := [(2, e), (0, s), (2, z8)]) (lo' := [(0, (2, this)), (1, (2, e)), (2, (2, z8)), (3, (0, s))]) rfl ?_
    refine r_aast hX hP rfl (L := 171) al_171 ck_137_O z8s s12 (by first | decide | omega) (by first | decide | omega) ?_
    refine r_ex hX hP 4 (pc' := 19) (st' := [(0, (s + 1)), (2, this)]) (lo' := [(0, (2, this)), (1, (2, e)), (2, (2, z8)), (3, (0, s))]) rfl ?_
    refine r_putIK hX hP rfl fp_Jx4a65c_48_156 s11 (by first | decide | omega) (by first | decide | omega) (fun h17 => ?_)
    have g18 : Gr [171] [(156, 1), (156, 2), (170, -1), (171, -1)] S G S5 (up (up G6 171 z8 s e) 156 this 2 (s + 1)) := (gr_up (gr_up g15 rfl) rfl)
    exact r_retV hX hP rfl rfl (by first | decide | omega) (by first | decide | omega) ⟨g18, rfl, (Or.inr (Or.inr (Or.inl (lb_mk (G' := (up (up G6 171 z8 s e) 156 this 2 (s + 1))) e16 z8s h17 (by first | decide | omega) (le_store (fun i h0 h1 => by rw [q10 i h0 (by first | decide | omega)]; exact gr_lab g7 (els i h0 h1) (by decide)) s12))))), (h17).symm, (fun i h0 h1 => (elm_mk (G := (up (up G6 171 z8 s e) 156 this 2 (s + 1))) (i := i) e16 z8s).trans ((((show (up G6 171 z8 s e) 171 z8 i = _ from up_ne (fun q => absurd q.2.2 (by first | decide | omega)))).trans (q10 i h0 (by first | decide | omega))).trans (elm_mk (G := G) (i := i) ed_e elementData_s).symm)), ((elm_mk (G := (up (up G6 171 z8 s e) 156 this 2 (s + 1))) (i := s) e16 z8s).trans (show (up G6 171 z8 s e) 171 z8 s = e from up_self _ _ _ _ _))⟩
set_option maxRecDepth 100000 in
set_option maxHeartbeats 4000000 in
theorem c_ad3_Lev_1T (E : En) (S : Sg) (G : Gh) (this : Int) (e : Int) (elementData : Int) (s : Int) (hS : S this = 156) (e_s : S e = 137) (elementData_s : S elementData = 171) (s_a : 0 ≤ s) (s_b : s ≤ 15) (s_e : s = G 156 this 2) (ed_e : elementData = G 156 this 1) (els : ∀ i : Int, 0 ≤ i → i < s → S (G 171 elementData i) = 137) : Calls E mJx4a65c_add_72be8 [(2, this), (2, e), (2, elementData), (0, s)] S G 12 1 22 (fun r S' G' => Gr [172] [(156, 1), (156, 2), (171, -1), (172, -1)] S G S' G' ∧ r = none ∧ LB2 E S' G' this ∧ G' 156 this 2 = s + 1 ∧ (∀ i : Int, 0 ≤ i → i < s → elm S' G' 156 this i = elm S G 156 this i) ∧ elm S' G' 156 this s = e) := by
  refine calls_by [(0, (2, this)), (1, (2, e)), (2, (2, elementData)), (3, (0, s))] rfl rfl (Nat.le_of_ble_eq_true rfl) (fun X hX => ?_)
  have hP := hPJx4a65c_add_72be8
  refine r_ex hX hP 2 (pc' := 2) (st' := [(2, elementData), (0, s)]) (lo' := [(0, (2, this)), (1, (2, e)), (2, (2, elementData)), (3, (0, s))]) rfl ?_
  refine r_alen hX hP rfl al_171 elementData_s ?_
  refine r_ic_ne hX hP rfl (tgt := 11) rfl (by first | decide | omega) (by first | decide | omega) (by first | decide | omega) (by first | decide | omega) (fun c1 => ?_) (fun c1 => ?_)
  · skip
    refine r_ex hX hP 3 (pc' := 14) (st' := [(2, e), (0, s), (2, elementData)]) (lo' := [(0, (2, this)), (1, (2, e)), (2, (2, elementData)), (3, (0, s))]) rfl ?_
    refine r_aast hX hP rfl (L := 171) al_171 ck_137_O elementData_s e_s (by first | decide | omega) (by first | decide | omega) ?_
    refine r_ex hX hP 4 (pc' := 19) (st' := [(0, (s + 1)), (2, this)]) (lo' := [(0, (2, this)), (1, (2, e)), (2, (2, elementData)), (3, (0, s))]) rfl ?_
    refine r_putIK hX hP rfl fp_Jx4a65c_48_156 hS (by first | decide | omega) (by first | decide | omega) (fun h2 => ?_)
    have g3 : Gr [172] [(156, 1), (156, 2), (171, -1), (172, -1)] S G S (up (up G 171 elementData s e) 156 this 2 (s + 1)) := (gr_up (gr_up (gr_refl [172] [(156, 1), (156, 2), (171, -1), (172, -1)] S G) rfl) rfl)
    exact r_retV hX hP rfl rfl (by first | decide | omega) (by first | decide | omega) ⟨g3, rfl, (Or.inr (Or.inr (Or.inl (lb_mk (G' := (up (up G 171 elementData s e) 156 this 2 (s + 1))) ed_e elementData_s h2 (by first | decide | omega) (le_store els e_s))))), (h2).symm, (fun i h0 h1 => (elm_mk (G := (up (up G 171 elementData s e) 156 this 2 (s + 1))) (i := i) ed_e elementData_s).trans (((show (up G 171 elementData s e) 171 elementData i = _ from up_ne (fun q => absurd q.2.2 (by first | decide | omega)))).trans (elm_mk (G := G) (i := i) ed_e elementData_s).symm)), ((elm_mk (G := (up (up G 171 elementData s e) 156 this 2 (s + 1))) (i := s) ed_e elementData_s).trans (show (up G 171 elementData s e) 171 elementData s = e from up_self _ _ _ _ _))⟩
  · skip
    refine r_ex hX hP 1 (pc' := 7) (st' := [(2, this)]) (lo' := [(0, (2, this)), (1, (2, e)), (2, (2, elementData)), (3, (0, s))]) rfl ?_
    have e4 : 15 = G 156 this 2 := by have e := s_e; omega
    refine r_callV gd hX hP rfl cv_Jx4a65c_129_156 hS (d' := 10) (mc' := 1) (ms' := 22) (as' := []) (st := []) (by first | decide | omega) (by first | decide | omega) (by first | decide | omega) rfl rfl (Nat.le_of_ble_eq_true rfl) (c_gr0_Lev_1 E S G this  hS elementData ed_e elementData_s e4) ?_
    rintro _ S5 G6 ⟨g7, z8, rfl, z8s, q9, q10⟩
    have s11 : S5 this = 156 := gr_lab g7 hS (by decide)
    have s12 : S5 e = 137 := gr_lab g7 e_s (by decide)
    have s13 : S5 elementData = 171 := gr_lab g7 elementData_s (by decide)
    have e14 : s = G6 156 this 2 := gr_val g7 s_e hS (by decide) rfl
    have g15 : Gr [172] [(156, 1), (156, 2), (171, -1), (172, -1)] S G S5 G6 := gr_call (gr_refl [172] [(156, 1), (156, 2), (171, -1), (172, -1)] S G) g7 rfl rfl
    have e16 : z8 = G6 156 this 1 := q9.symm
    refine r_ex hX hP 4 (pc' := 14) (st' := [(2, e), (0, s), (2, z8)]) (lo' := [(0, (2, this)), (1, (2, e)), (2, (2, z8)), (3, (0, s))]) rfl ?_
    refine r_aast hX hP rfl (L := 172) al_172 ck_137_O z8s s12 (by first | decide | omega) (by first | decide | omega) ?_
    refine r_ex hX hP 4 (pc' := 19) (st' := [(0, (s + 1)), (2, this)]) (lo' := [(0, (2, this)), (1, (2, e)), (2, (2, z8)), (3, (0, s))]) rfl ?_
    refine r_putIK hX hP rfl fp_Jx4a65c_48_156 s11 (by first | decide | omega) (by first | decide | omega) (fun h17 => ?_)
    have g18 : Gr [172] [(156, 1), (156, 2), (171, -1), (172, -1)] S G S5 (up (up G6 172 z8 s e) 156 this 2 (s + 1)) := (gr_up (gr_up g15 rfl) rfl)
    exact r_retV hX hP rfl rfl (by first | decide | omega) (by first | decide | omega) ⟨g18, rfl, (Or.inr (Or.inr (Or.inr ((lb_mk (G' := (up (up G6 172 z8 s e) 156 this 2 (s + 1))) e16 z8s h17 (by first | decide | omega) (le_store (fun i h0 h1 => by rw [q10 i h0 (by first | decide | omega)]; exact gr_lab g7 (els i h0 h1) (by decide)) s12)))))), (h17).symm, (fun i h0 h1 => (elm_mk (G := (up (up G6 172 z8 s e) 156 this 2 (s + 1))) (i := i) e16 z8s).trans ((((show (up G6 172 z8 s e) 172 z8 i = _ from up_ne (fun q => absurd q.2.2 (by first | decide | omega)))).trans (q10 i h0 (by first | decide | omega))).trans (elm_mk (G := G) (i := i) ed_e elementData_s).symm)), ((elm_mk (G := (up (up G6 172 z8 s e) 156 this 2 (s + 1))) (i := s) e16 z8s).trans (show (up G6 172 z8 s e) 172 z8 s = e from up_self _ _ _ _ _))⟩
set_option maxRecDepth 100000 in
set_option maxHeartbeats 4000000 in
theorem c_ad3_Lev_2T (E : En) (S : Sg) (G : Gh) (this : Int) (e : Int) (elementData : Int) (s : Int) (hS : S this = 156) (e_s : S e = 137) (elementData_s : S elementData = 172) (s_a : 0 ≤ s) (s_b : s ≤ 15) (s_e : s = G 156 this 2) (ed_e : elementData = G 156 this 1) (els : ∀ i : Int, 0 ≤ i → i < s → S (G 172 elementData i) = 137) : Calls E mJx4a65c_add_72be8 [(2, this), (2, e), (2, elementData), (0, s)] S G 12 0 0 (fun r S' G' => Gr [] [(156, 2), (172, -1)] S G S' G' ∧ r = none ∧ LB2 E S' G' this ∧ G' 156 this 2 = s + 1 ∧ (∀ i : Int, 0 ≤ i → i < s → elm S' G' 156 this i = elm S G 156 this i) ∧ elm S' G' 156 this s = e) := by
  refine calls_by [(0, (2, this)), (1, (2, e)), (2, (2, elementData)), (3, (0, s))] rfl rfl (Nat.le_of_ble_eq_true rfl) (fun X hX => ?_)
  have hP := hPJx4a65c_add_72be8
  refine r_ex hX hP 2 (pc' := 2) (st' := [(2, elementData), (0, s)]) (lo' := [(0, (2, this)), (1, (2, e)), (2, (2, elementData)), (3, (0, s))]) rfl ?_
  refine r_alen hX hP rfl al_172 elementData_s ?_
  refine r_ic_ne hX hP rfl (tgt := 11) rfl (by first | decide | omega) (by first | decide | omega) (by first | decide | omega) (by first | decide | omega) (fun c1 => ?_) (fun c1 => ?_)
  · skip
    refine r_ex hX hP 3 (pc' := 14) (st' := [(2, e), (0, s), (2, elementData)]) (lo' := [(0, (2, this)), (1, (2, e)), (2, (2, elementData)), (3, (0, s))]) rfl ?_
    refine r_aast hX hP rfl (L := 172) al_172 ck_137_O elementData_s e_s (by first | decide | omega) (by first | decide | omega) ?_
    refine r_ex hX hP 4 (pc' := 19) (st' := [(0, (s + 1)), (2, this)]) (lo' := [(0, (2, this)), (1, (2, e)), (2, (2, elementData)), (3, (0, s))]) rfl ?_
    refine r_putIK hX hP rfl fp_Jx4a65c_48_156 hS (by first | decide | omega) (by first | decide | omega) (fun h2 => ?_)
    have g3 : Gr [] [(156, 2), (172, -1)] S G S (up (up G 172 elementData s e) 156 this 2 (s + 1)) := (gr_up (gr_up (gr_refl [] [(156, 2), (172, -1)] S G) rfl) rfl)
    exact r_retV hX hP rfl rfl (by first | decide | omega) (by first | decide | omega) ⟨g3, rfl, (Or.inr (Or.inr (Or.inr ((lb_mk (G' := (up (up G 172 elementData s e) 156 this 2 (s + 1))) ed_e elementData_s h2 (by first | decide | omega) (le_store els e_s)))))), (h2).symm, (fun i h0 h1 => (elm_mk (G := (up (up G 172 elementData s e) 156 this 2 (s + 1))) (i := i) ed_e elementData_s).trans (((show (up G 172 elementData s e) 172 elementData i = _ from up_ne (fun q => absurd q.2.2 (by first | decide | omega)))).trans (elm_mk (G := G) (i := i) ed_e elementData_s).symm)), ((elm_mk (G := (up (up G 172 elementData s e) 156 this 2 (s + 1))) (i := s) ed_e elementData_s).trans (show (up G 172 elementData s e) 172 elementData s = e from up_self _ _ _ _ _))⟩
  · skip
    exfalso; omega
set_option maxRecDepth 100000 in
set_option maxHeartbeats 4000000 in
theorem c_add_LevT (E : En) (S : Sg) (G : Gh) (this : Int) (e : Int) (hS : S this = 156) (e_s : S e = 137) (sz : Int) (sz_e : sz = G 156 this 2) (pre0 : sz + 1 ≤ 16) (ci : CI E S G) : Calls E mJx4a65c_add_9ea2d [(2, this), (2, e)] S G 14 1 22 (fun r S' G' => Gr [170, 171, 172] [(156, 0), (156, 1), (156, 2), (170, -1), (171, -1), (172, -1)] S G S' G' ∧ ∃ z : Int, r = some (0, z) ∧ 1 ≤ z ∧ z ≤ 1 ∧ CI E S' G' ∧ G' 156 this 2 = sz + 1 ∧ (∀ i : Int, 0 ≤ i → i < sz → elm S' G' 156 this i = elm S G 156 this i) ∧ elm S' G' 156 this sz = e) := by
  refine calls_by [(0, (2, this)), (1, (2, e))] rfl rfl (Nat.le_of_ble_eq_true rfl) (fun X hX => ?_)
  have hP := hPJx4a65c_add_9ea2d
  refine r_peekI hX (tl_156 2 rfl (by decide)) hS (fun sz_o sz_oe sz_oa sz_ob => ?_)
  obtain rfl : sz = sz_o := sz_e.trans sz_oe.symm
  refine r_tk hX (fun tk0 => ?_)
  refine r_ex hX hP 2 (pc' := 2) (st' := [(2, this), (2, this)]) (lo' := [(0, (2, this)), (1, (2, e))]) rfl ?_
  refine r_getUI hX hP rfl fu_156 hS (fun mf1 mf1e mf1a mf1b => ?_)
  refine r_ex hX hP 2 (pc' := 7) (st' := [(0, (mf1 + 1)), (2, this)]) (lo' := [(0, (2, this)), (1, (2, e))]) rfl ?_
  refine r_hvI hX (fun w2 w2a w2b w2e => ?_)
  refine r_putUI hX hP rfl fu_156 hS (by first | decide | omega) (by first | decide | omega) ?_
  refine r_ex hX hP 3 (pc' := 13) (st' := [(2, this), (2, e), (2, this)]) (lo' := [(0, (2, this)), (1, (2, e))]) rfl ?_
  refine r_get5 hX hP rfl fl_Jx4a65c_9_156 hS (fun ef3 ef3e ef3o => ?_)
  refine r_ex hX hP 1 (pc' := 17) (st' := [(2, this), (2, ef3), (2, e), (2, this)]) (lo' := [(0, (2, this)), (1, (2, e))]) rfl ?_
  refine r_getKI hX hP rfl fl_Jx4a65c_48_156 hS (x := sz) sz_e ?_
  rcases ci.2.2.2.1 this hS with ⟨q1, q2⟩ | ⟨q1, q2, q3⟩ | ⟨q1, q2, q3⟩ | ⟨q1, q2, q3⟩
  · skip
    obtain rfl : ef3 = Ad E 0 := ef3e.trans q1
    have q2 : sz = 0 := sz_e.trans q2
    have g4 : Gr [170, 171, 172] [(156, 0), (156, 1), (156, 2), (170, -1), (171, -1), (172, -1)] S G S (up G 156 this 0 w2) := (gr_up (gr_refl [170, 171, 172] [(156, 0), (156, 1), (156, 2), (170, -1), (171, -1), (172, -1)] S G) rfl)
    refine r_callV gd hX hP rfl cv_Jx4a65c_131_156 hS (d' := 12) (mc' := 1) (ms' := 10) (as' := [(2, e), (2, (Ad E 0)), (0, sz)]) (st := []) (by first | decide | omega) (by first | decide | omega) (by first | decide | omega) rfl rfl (Nat.le_of_ble_eq_true rfl) (c_ad3_Lev_ET E S (up G 156 this 0 w2) this e (Ad E 0) sz hS e_s (by first | decide | omega) (by first | decide | omega) sz_e rfl ef3e) ?_
    rintro _ S5 G6 ⟨g7, rfl, q8, q9, q10, q11⟩
    have s12 : S5 this = 156 := gr_lab g7 hS (by decide)
    have s13 : S5 e = 137 := gr_lab g7 e_s (by decide)
    have g14 : Gr [170, 171, 172] [(156, 0), (156, 1), (156, 2), (170, -1), (171, -1), (172, -1)] S G S5 G6 := gr_call g4 g7 rfl rfl
    refine r_ex hX hP 1 (pc' := 24) (st' := [(0, 1)]) (lo' := [(0, (2, this)), (1, (2, e))]) rfl ?_
    exact r_retZ hX hP rfl rfl (by first | decide | omega) (by first | decide | omega) (by first | decide | omega) (by first | decide | omega) ⟨g14, 1, rfl, (by first | decide | omega), (by first | decide | omega), (ci_ad2 ci tk0 g14 rfl rfl hS q8 (by have e := q9; omega)), q9, (fun i h0 h1 => by exfalso; omega), q11⟩
  · skip
    have qs : S ef3 = 170 := by rw [ef3e]; exact q1
    have q2 : sz ≤ 10 := by rw [sz_e]; exact q2
    have q3 : ∀ i : Int, 0 ≤ i → i < sz → S (G 170 ef3 i) = 137 := by rw [sz_e, ef3e]; exact q3
    have g15 : Gr [170, 171, 172] [(156, 0), (156, 1), (156, 2), (170, -1), (171, -1), (172, -1)] S G S (up G 156 this 0 w2) := (gr_up (gr_refl [170, 171, 172] [(156, 0), (156, 1), (156, 2), (170, -1), (171, -1), (172, -1)] S G) rfl)
    refine r_callV gd hX hP rfl cv_Jx4a65c_131_156 hS (d' := 12) (mc' := 1) (ms' := 15) (as' := [(2, e), (2, ef3), (0, sz)]) (st := []) (by first | decide | omega) (by first | decide | omega) (by first | decide | omega) rfl rfl (Nat.le_of_ble_eq_true rfl) (c_ad3_Lev_0T E S (up G 156 this 0 w2) this e ef3 sz hS e_s qs (by first | decide | omega) (by first | decide | omega) sz_e ef3e q3) ?_
    rintro _ S16 G17 ⟨g18, rfl, q19, q20, q21, q22⟩
    have s23 : S16 this = 156 := gr_lab g18 hS (by decide)
    have s24 : S16 e = 137 := gr_lab g18 e_s (by decide)
    have s25 : S16 ef3 = 170 := gr_lab g18 qs (by decide)
    have g26 : Gr [170, 171, 172] [(156, 0), (156, 1), (156, 2), (170, -1), (171, -1), (172, -1)] S G S16 G17 := gr_call g15 g18 rfl rfl
    refine r_ex hX hP 1 (pc' := 24) (st' := [(0, 1)]) (lo' := [(0, (2, this)), (1, (2, e))]) rfl ?_
    exact r_retZ hX hP rfl rfl (by first | decide | omega) (by first | decide | omega) (by first | decide | omega) (by first | decide | omega) ⟨g26, 1, rfl, (by first | decide | omega), (by first | decide | omega), (ci_ad2 ci tk0 g26 rfl rfl hS q19 (by have e := q20; omega)), q20, (fun i h0 h1 => (q21 i h0 h1).trans (elm_up (by decide) (by first | decide | omega))), q22⟩
  · skip
    have qs : S ef3 = 171 := by rw [ef3e]; exact q1
    have q2 : sz ≤ 15 := by rw [sz_e]; exact q2
    have q3 : ∀ i : Int, 0 ≤ i → i < sz → S (G 171 ef3 i) = 137 := by rw [sz_e, ef3e]; exact q3
    have g27 : Gr [170, 171, 172] [(156, 0), (156, 1), (156, 2), (170, -1), (171, -1), (172, -1)] S G S (up G 156 this 0 w2) := (gr_up (gr_refl [170, 171, 172] [(156, 0), (156, 1), (156, 2), (170, -1), (171, -1), (172, -1)] S G) rfl)
    refine r_callV gd hX hP rfl cv_Jx4a65c_131_156 hS (d' := 12) (mc' := 1) (ms' := 22) (as' := [(2, e), (2, ef3), (0, sz)]) (st := []) (by first | decide | omega) (by first | decide | omega) (by first | decide | omega) rfl rfl (Nat.le_of_ble_eq_true rfl) (c_ad3_Lev_1T E S (up G 156 this 0 w2) this e ef3 sz hS e_s qs (by first | decide | omega) (by first | decide | omega) sz_e ef3e q3) ?_
    rintro _ S28 G29 ⟨g30, rfl, q31, q32, q33, q34⟩
    have s35 : S28 this = 156 := gr_lab g30 hS (by decide)
    have s36 : S28 e = 137 := gr_lab g30 e_s (by decide)
    have s37 : S28 ef3 = 171 := gr_lab g30 qs (by decide)
    have g38 : Gr [170, 171, 172] [(156, 0), (156, 1), (156, 2), (170, -1), (171, -1), (172, -1)] S G S28 G29 := gr_call g27 g30 rfl rfl
    refine r_ex hX hP 1 (pc' := 24) (st' := [(0, 1)]) (lo' := [(0, (2, this)), (1, (2, e))]) rfl ?_
    exact r_retZ hX hP rfl rfl (by first | decide | omega) (by first | decide | omega) (by first | decide | omega) (by first | decide | omega) ⟨g38, 1, rfl, (by first | decide | omega), (by first | decide | omega), (ci_ad2 ci tk0 g38 rfl rfl hS q31 (by have e := q32; omega)), q32, (fun i h0 h1 => (q33 i h0 h1).trans (elm_up (by decide) (by first | decide | omega))), q34⟩
  · skip
    have qs : S ef3 = 172 := by rw [ef3e]; exact q1
    have q2 : sz ≤ 22 := by rw [sz_e]; exact q2
    have q3 : ∀ i : Int, 0 ≤ i → i < sz → S (G 172 ef3 i) = 137 := by rw [sz_e, ef3e]; exact q3
    have g39 : Gr [170, 171, 172] [(156, 0), (156, 1), (156, 2), (170, -1), (171, -1), (172, -1)] S G S (up G 156 this 0 w2) := (gr_up (gr_refl [170, 171, 172] [(156, 0), (156, 1), (156, 2), (170, -1), (171, -1), (172, -1)] S G) rfl)
    refine r_callV gd hX hP rfl cv_Jx4a65c_131_156 hS (d' := 12) (mc' := 0) (ms' := 0) (as' := [(2, e), (2, ef3), (0, sz)]) (st := []) (by first | decide | omega) (by first | decide | omega) (by first | decide | omega) rfl rfl (Nat.le_of_ble_eq_true rfl) (c_ad3_Lev_2T E S (up G 156 this 0 w2) this e ef3 sz hS e_s qs (by first | decide | omega) (by first | decide | omega) sz_e ef3e q3) ?_
    rintro _ S40 G41 ⟨g42, rfl, q43, q44, q45, q46⟩
    have s47 : S40 this = 156 := gr_lab g42 hS (by decide)
    have s48 : S40 e = 137 := gr_lab g42 e_s (by decide)
    have s49 : S40 ef3 = 172 := gr_lab g42 qs (by decide)
    have e50 : ef3 = G41 156 this 1 := gr_val g42 ef3e hS (by decide) rfl
    have g51 : Gr [170, 171, 172] [(156, 0), (156, 1), (156, 2), (170, -1), (171, -1), (172, -1)] S G S40 G41 := gr_call g39 g42 rfl rfl
    refine r_ex hX hP 1 (pc' := 24) (st' := [(0, 1)]) (lo' := [(0, (2, this)), (1, (2, e))]) rfl ?_
    exact r_retZ hX hP rfl rfl (by first | decide | omega) (by first | decide | omega) (by first | decide | omega) (by first | decide | omega) ⟨g51, 1, rfl, (by first | decide | omega), (by first | decide | omega), (ci_ad2 ci tk0 g51 rfl rfl hS q43 (by have e := q44; omega)), q44, (fun i h0 h1 => (q45 i h0 h1).trans (elm_up (by decide) (by first | decide | omega))), q46⟩
set_option maxRecDepth 100000 in
set_option maxHeartbeats 4000000 in
theorem c_ad3_Lpi_ET (E : En) (S : Sg) (G : Gh) (this : Int) (e : Int) (elementData : Int) (s : Int) (hS : S this = 157) (e_s : S e = 138) (s_a : 0 ≤ s) (s_b : s ≤ 0) (s_e : s = G 157 this 2) (ed_x : elementData = Ad E 0) (ed_e : Ad E 0 = G 157 this 1) : Calls E mJx4a65c_add_72be8 [(2, this), (2, e), (2, elementData), (0, s)] S G 12 1 10 (fun r S' G' => Gr [173] [(157, 1), (157, 2), (173, -1)] S G S' G' ∧ r = none ∧ LB3 E S' G' this ∧ G' 157 this 2 = s + 1 ∧ (∀ i : Int, 0 ≤ i → i < s → elm S' G' 157 this i = elm S G 157 this i) ∧ elm S' G' 157 this s = e) := by
  refine calls_by [(0, (2, this)), (1, (2, e)), (2, (2, elementData)), (3, (0, s))] rfl rfl (Nat.le_of_ble_eq_true rfl) (fun X hX => ?_)
  have hP := hPJx4a65c_add_72be8
  subst ed_x
  refine r_ex hX hP 2 (pc' := 2) (st' := [(2, (Ad E 0)), (0, s)]) (lo' := [(0, (2, this)), (1, (2, e)), (2, (2, (Ad E 0))), (3, (0, s))]) rfl ?_
  refine r_alenE hX hP rfl ?_
  refine r_ic_ne hX hP rfl (tgt := 11) rfl (by first | decide | omega) (by first | decide | omega) (by first | decide | omega) (by first | decide | omega) (fun c1 => ?_) (fun c1 => ?_)
  · skip
    exfalso; omega
  · skip
    refine r_ex hX hP 1 (pc' := 7) (st' := [(2, this)]) (lo' := [(0, (2, this)), (1, (2, e)), (2, (2, (Ad E 0))), (3, (0, s))]) rfl ?_
    have e2 : 0 = G 157 this 2 := by have e := s_e; omega
    refine r_callV gd hX hP rfl cv_Jx4a65c_129_157 hS (d' := 10) (mc' := 1) (ms' := 10) (as' := []) (st := []) (by first | decide | omega) (by first | decide | omega) (by first | decide | omega) rfl rfl (Nat.le_of_ble_eq_true rfl) (c_gr0_Lpi_E E S G this  hS ed_e e2) ?_
    rintro _ S3 G4 ⟨g5, z6, rfl, z6s, q7⟩
    have s8 : S3 this = 157 := gr_lab g5 hS (by decide)
    have s9 : S3 e = 138 := gr_lab g5 e_s (by decide)
    have e10 : s = G4 157 this 2 := gr_val g5 s_e hS (by decide) rfl
    have g11 : Gr [173] [(157, 1), (157, 2), (173, -1)] S G S3 G4 := gr_call (gr_refl [173] [(157, 1), (157, 2), (173, -1)] S G) g5 rfl rfl
    have e12 : z6 = G4 157 this 1 := q7.symm
    refine r_ex hX hP 4 (pc' := 14) (st' := [(2, e), (0, s), (2, z6)]) (lo' := [(0, (2, this)), (1, (2, e)), (2, (2, z6)), (3, (0, s))]) rfl ?_
    refine r_aast hX hP rfl (L := 173) al_173 ck_138_O z6s s9 (by first | decide | omega) (by first | decide | omega) ?_
    refine r_ex hX hP 4 (pc' := 19) (st' := [(0, (s + 1)), (2, this)]) (lo' := [(0, (2, this)), (1, (2, e)), (2, (2, z6)), (3, (0, s))]) rfl ?_
    refine r_putIK hX hP rfl fp_Jx4a65c_48_157 s8 (by first | decide | omega) (by first | decide | omega) (fun h13 => ?_)
    have g14 : Gr [173] [(157, 1), (157, 2), (173, -1)] S G S3 (up (up G4 173 z6 s e) 157 this 2 (s + 1)) := (gr_up (gr_up g11 rfl) rfl)
    exact r_retV hX hP rfl rfl (by first | decide | omega) (by first | decide | omega) ⟨g14, rfl, (Or.inr (Or.inl (lb_mk (G' := (up (up G4 173 z6 s e) 157 this 2 (s + 1))) e12 z6s h13 (by first | decide | omega) (le_store (fun i h0 h1 => by exfalso; omega) s9)))), (h13).symm, (fun i h0 h1 => by exfalso; omega), ((elm_mk (G := (up (up G4 173 z6 s e) 157 this 2 (s + 1))) (i := s) e12 z6s).trans (show (up G4 173 z6 s e) 173 z6 s = e from up_self _ _ _ _ _))⟩
set_option maxRecDepth 100000 in
set_option maxHeartbeats 4000000 in
theorem c_ad3_Lpi_0T (E : En) (S : Sg) (G : Gh) (this : Int) (e : Int) (elementData : Int) (s : Int) (hS : S this = 157) (e_s : S e = 138) (elementData_s : S elementData = 173) (s_a : 0 ≤ s) (s_b : s ≤ 10) (s_e : s = G 157 this 2) (ed_e : elementData = G 157 this 1) (els : ∀ i : Int, 0 ≤ i → i < s → S (G 173 elementData i) = 138) : Calls E mJx4a65c_add_72be8 [(2, this), (2, e), (2, elementData), (0, s)] S G 12 1 15 (fun r S' G' => Gr [174] [(157, 1), (157, 2), (173, -1), (174, -1)] S G S' G' ∧ r = none ∧ LB3 E S' G' this ∧ G' 157 this 2 = s + 1 ∧ (∀ i : Int, 0 ≤ i → i < s → elm S' G' 157 this i = elm S G 157 this i) ∧ elm S' G' 157 this s = e) := by
  refine calls_by [(0, (2, this)), (1, (2, e)), (2, (2, elementData)), (3, (0, s))] rfl rfl (Nat.le_of_ble_eq_true rfl) (fun X hX => ?_)
  have hP := hPJx4a65c_add_72be8
  refine r_ex hX hP 2 (pc' := 2) (st' := [(2, elementData), (0, s)]) (lo' := [(0, (2, this)), (1, (2, e)), (2, (2, elementData)), (3, (0, s))]) rfl ?_
  refine r_alen hX hP rfl al_173 elementData_s ?_
  refine r_ic_ne hX hP rfl (tgt := 11) rfl (by first | decide | omega) (by first | decide | omega) (by first | decide | omega) (by first | decide | omega) (fun c1 => ?_) (fun c1 => ?_)
  · skip
    refine r_ex hX hP 3 (pc' := 14) (st' := [(2, e), (0, s), (2, elementData)]) (lo' := [(0, (2, this)), (1, (2, e)), (2, (2, elementData)), (3, (0, s))]) rfl ?_
    refine r_aast hX hP rfl (L := 173) al_173 ck_138_O elementData_s e_s (by first | decide | omega) (by first | decide | omega) ?_
    refine r_ex hX hP 4 (pc' := 19) (st' := [(0, (s + 1)), (2, this)]) (lo' := [(0, (2, this)), (1, (2, e)), (2, (2, elementData)), (3, (0, s))]) rfl ?_
    refine r_putIK hX hP rfl fp_Jx4a65c_48_157 hS (by first | decide | omega) (by first | decide | omega) (fun h2 => ?_)
    have g3 : Gr [174] [(157, 1), (157, 2), (173, -1), (174, -1)] S G S (up (up G 173 elementData s e) 157 this 2 (s + 1)) := (gr_up (gr_up (gr_refl [174] [(157, 1), (157, 2), (173, -1), (174, -1)] S G) rfl) rfl)
    exact r_retV hX hP rfl rfl (by first | decide | omega) (by first | decide | omega) ⟨g3, rfl, (Or.inr (Or.inl (lb_mk (G' := (up (up G 173 elementData s e) 157 this 2 (s + 1))) ed_e elementData_s h2 (by first | decide | omega) (le_store els e_s)))), (h2).symm, (fun i h0 h1 => (elm_mk (G := (up (up G 173 elementData s e) 157 this 2 (s + 1))) (i := i) ed_e elementData_s).trans (((show (up G 173 elementData s e) 173 elementData i = _ from up_ne (fun q => absurd q.2.2 (by first | decide | omega)))).trans (elm_mk (G := G) (i := i) ed_e elementData_s).symm)), ((elm_mk (G := (up (up G 173 elementData s e) 157 this 2 (s + 1))) (i := s) ed_e elementData_s).trans (show (up G 173 elementData s e) 173 elementData s = e from up_self _ _ _ _ _))⟩
  · skip
    refine r_ex hX hP 1 (pc' := 7) (st' := [(2, this)]) (lo' := [(0, (2, this)), (1, (2, e)), (2, (2, elementData)), (3, (0, s))]) rfl ?_
    have e4 : 10 = G 157 this 2 := by have e := s_e; omega
    refine r_callV gd hX hP rfl cv_Jx4a65c_129_157 hS (d' := 10) (mc' := 1) (ms' := 15) (as' := []) (st := []) (by first | decide | omega) (by first | decide | omega) (by first | decide | omega) rfl rfl (Nat.le_of_ble_eq_true rfl) (c_gr0_Lpi_0 E S G this  hS elementData ed_e elementData_s e4) ?_
    rintro _ S5 G6 ⟨g7, z8, rfl, z8s, q9, q10⟩
    have s11 : S5 this = 157 := gr_lab g7 hS (by decide)
    have s12 : S5 e = 138 := gr_lab g7 e_s (by decide)
    have s13 : S5 elementData = 173 := gr_lab g7 elementData_s (by decide)
    have e14 : s = G6 157 this 2 := gr_val g7 s_e hS (by decide) rfl
    have g15 : Gr [174] [(157, 1), (157, 2), (173, -1), (174, -1)] S G S5 G6 := gr_call (gr_refl [174] [(157, 1), (157, 2), (173, -1), (174, -1)] S G) g7 rfl rfl
    have e16 : z8 = G6 157 this 1 := q9.symm
    refine r_ex hX hP 4 (pc' := 14) (st' := [(2, e), (0, s), (2, z8)]) (lo' := [(0, (2, this)), (1, (2, e)), (2, (2, z8)), (3, (0, s))]) rfl ?_
    refine r_aast hX hP rfl (L := 174) al_174 ck_138_O z8s s12 (by first | decide | omega) (by first | decide | omega) ?_
    refine r_ex hX hP 4 (pc' := 19) (st' := [(0, (s + 1)), (2, this)]) (lo' := [(0, (2, this)), (1, (2, e)), (2, (2, z8)), (3, (0, s))]) rfl ?_
    refine r_putIK hX hP rfl fp_Jx4a65c_48_157 s11 (by first | decide | omega) (by first | decide | omega) (fun h17 => ?_)
    have g18 : Gr [174] [(157, 1), (157, 2), (173, -1), (174, -1)] S G S5 (up (up G6 174 z8 s e) 157 this 2 (s + 1)) := (gr_up (gr_up g15 rfl) rfl)
    exact r_retV hX hP rfl rfl (by first | decide | omega) (by first | decide | omega) ⟨g18, rfl, (Or.inr (Or.inr (Or.inl (lb_mk (G' := (up (up G6 174 z8 s e) 157 this 2 (s + 1))) e16 z8s h17 (by first | decide | omega) (le_store (fun i h0 h1 => by rw [q10 i h0 (by first | decide | omega)]; exact gr_lab g7 (els i h0 h1) (by decide)) s12))))), (h17).symm, (fun i h0 h1 => (elm_mk (G := (up (up G6 174 z8 s e) 157 this 2 (s + 1))) (i := i) e16 z8s).trans ((((show (up G6 174 z8 s e) 174 z8 i = _ from up_ne (fun q => absurd q.2.2 (by first | decide | omega)))).trans (q10 i h0 (by first | decide | omega))).trans (elm_mk (G := G) (i := i) ed_e elementData_s).symm)), ((elm_mk (G := (up (up G6 174 z8 s e) 157 this 2 (s + 1))) (i := s) e16 z8s).trans (show (up G6 174 z8 s e) 174 z8 s = e from up_self _ _ _ _ _))⟩
set_option maxRecDepth 100000 in
set_option maxHeartbeats 4000000 in
theorem c_ad3_Lpi_1T (E : En) (S : Sg) (G : Gh) (this : Int) (e : Int) (elementData : Int) (s : Int) (hS : S this = 157) (e_s : S e = 138) (elementData_s : S elementData = 174) (s_a : 0 ≤ s) (s_b : s ≤ 15) (s_e : s = G 157 this 2) (ed_e : elementData = G 157 this 1) (els : ∀ i : Int, 0 ≤ i → i < s → S (G 174 elementData i) = 138) : Calls E mJx4a65c_add_72be8 [(2, this), (2, e), (2, elementData), (0, s)] S G 12 1 22 (fun r S' G' => Gr [175] [(157, 1), (157, 2), (174, -1), (175, -1)] S G S' G' ∧ r = none ∧ LB3 E S' G' this ∧ G' 157 this 2 = s + 1 ∧ (∀ i : Int, 0 ≤ i → i < s → elm S' G' 157 this i = elm S G 157 this i) ∧ elm S' G' 157 this s = e) := by
  refine calls_by [(0, (2, this)), (1, (2, e)), (2, (2, elementData)), (3, (0, s))] rfl rfl (Nat.le_of_ble_eq_true rfl) (fun X hX => ?_)
  have hP := hPJx4a65c_add_72be8
  refine r_ex hX hP 2 (pc' := 2) (st' := [(2, elementData), (0, s)]) (lo' := [(0, (2, this)), (1, (2, e)), (2, (2, elementData)), (3, (0, s))]) rfl ?_
  refine r_alen hX hP rfl al_174 elementData_s ?_
  refine r_ic_ne hX hP rfl (tgt := 11) rfl (by first | decide | omega) (by first | decide | omega) (by first | decide | omega) (by first | decide | omega) (fun c1 => ?_) (fun c1 => ?_)
  · skip
    refine r_ex hX hP 3 (pc' := 14) (st' := [(2, e), (0, s), (2, elementData)]) (lo' := [(0, (2, this)), (1, (2, e)), (2, (2, elementData)), (3, (0, s))]) rfl ?_
    refine r_aast hX hP rfl (L := 174) al_174 ck_138_O elementData_s e_s (by first | decide | omega) (by first | decide | omega) ?_
    refine r_ex hX hP 4 (pc' := 19) (st' := [(0, (s + 1)), (2, this)]) (lo' := [(0, (2, this)), (1, (2, e)), (2, (2, elementData)), (3, (0, s))]) rfl ?_
    refine r_putIK hX hP rfl fp_Jx4a65c_48_157 hS (by first | decide | omega) (by first | decide | omega) (fun h2 => ?_)
    have g3 : Gr [175] [(157, 1), (157, 2), (174, -1), (175, -1)] S G S (up (up G 174 elementData s e) 157 this 2 (s + 1)) := (gr_up (gr_up (gr_refl [175] [(157, 1), (157, 2), (174, -1), (175, -1)] S G) rfl) rfl)
    exact r_retV hX hP rfl rfl (by first | decide | omega) (by first | decide | omega) ⟨g3, rfl, (Or.inr (Or.inr (Or.inl (lb_mk (G' := (up (up G 174 elementData s e) 157 this 2 (s + 1))) ed_e elementData_s h2 (by first | decide | omega) (le_store els e_s))))), (h2).symm, (fun i h0 h1 => (elm_mk (G := (up (up G 174 elementData s e) 157 this 2 (s + 1))) (i := i) ed_e elementData_s).trans (((show (up G 174 elementData s e) 174 elementData i = _ from up_ne (fun q => absurd q.2.2 (by first | decide | omega)))).trans (elm_mk (G := G) (i := i) ed_e elementData_s).symm)), ((elm_mk (G := (up (up G 174 elementData s e) 157 this 2 (s + 1))) (i := s) ed_e elementData_s).trans (show (up G 174 elementData s e) 174 elementData s = e from up_self _ _ _ _ _))⟩
  · skip
    refine r_ex hX hP 1 (pc' := 7) (st' := [(2, this)]) (lo' := [(0, (2, this)), (1, (2, e)), (2, (2, elementData)), (3, (0, s))]) rfl ?_
    have e4 : 15 = G 157 this 2 := by have e := s_e; omega
    refine r_callV gd hX hP rfl cv_Jx4a65c_129_157 hS (d' := 10) (mc' := 1) (ms' := 22) (as' := []) (st := []) (by first | decide | omega) (by first | decide | omega) (by first | decide | omega) rfl rfl (Nat.le_of_ble_eq_true rfl) (c_gr0_Lpi_1 E S G this  hS elementData ed_e elementData_s e4) ?_
    rintro _ S5 G6 ⟨g7, z8, rfl, z8s, q9, q10⟩
    have s11 : S5 this = 157 := gr_lab g7 hS (by decide)
    have s12 : S5 e = 138 := gr_lab g7 e_s (by decide)
    have s13 : S5 elementData = 174 := gr_lab g7 elementData_s (by decide)
    have e14 : s = G6 157 this 2 := gr_val g7 s_e hS (by decide) rfl
    have g15 : Gr [175] [(157, 1), (157, 2), (174, -1), (175, -1)] S G S5 G6 := gr_call (gr_refl [175] [(157, 1), (157, 2), (174, -1), (175, -1)] S G) g7 rfl rfl
    have e16 : z8 = G6 157 this 1 := q9.symm
    refine r_ex hX hP 4 (pc' := 14) (st' := [(2, e), (0, s), (2, z8)]) (lo' := [(0, (2, this)), (1, (2, e)), (2, (2, z8)), (3, (0, s))]) rfl ?_
    refine r_aast hX hP rfl (L := 175) al_175 ck_138_O z8s s12 (by first | decide | omega) (by first | decide | omega) ?_
    refine r_ex hX hP 4 (pc' := 19) (st' := [(0, (s + 1)), (2, this)]) (lo' := [(0, (2, this)), (1, (2, e)), (2, (2, z8)), (3, (0, s))]) rfl ?_
    refine r_putIK hX hP rfl fp_Jx4a65c_48_157 s11 (by first | decide | omega) (by first | decide | omega) (fun h17 => ?_)
    have g18 : Gr [175] [(157, 1), (157, 2), (174, -1), (175, -1)] S G S5 (up (up G6 175 z8 s e) 157 this 2 (s + 1)) := (gr_up (gr_up g15 rfl) rfl)
    exact r_retV hX hP rfl rfl (by first | decide | omega) (by first | decide | omega) ⟨g18, rfl, (Or.inr (Or.inr (Or.inr (Or.inl (lb_mk (G' := (up (up G6 175 z8 s e) 157 this 2 (s + 1))) e16 z8s h17 (by first | decide | omega) (le_store (fun i h0 h1 => by rw [q10 i h0 (by first | decide | omega)]; exact gr_lab g7 (els i h0 h1) (by decide)) s12)))))), (h17).symm, (fun i h0 h1 => (elm_mk (G := (up (up G6 175 z8 s e) 157 this 2 (s + 1))) (i := i) e16 z8s).trans ((((show (up G6 175 z8 s e) 175 z8 i = _ from up_ne (fun q => absurd q.2.2 (by first | decide | omega)))).trans (q10 i h0 (by first | decide | omega))).trans (elm_mk (G := G) (i := i) ed_e elementData_s).symm)), ((elm_mk (G := (up (up G6 175 z8 s e) 157 this 2 (s + 1))) (i := s) e16 z8s).trans (show (up G6 175 z8 s e) 175 z8 s = e from up_self _ _ _ _ _))⟩
set_option maxRecDepth 100000 in
set_option maxHeartbeats 4000000 in
theorem c_ad3_Lpi_2T (E : En) (S : Sg) (G : Gh) (this : Int) (e : Int) (elementData : Int) (s : Int) (hS : S this = 157) (e_s : S e = 138) (elementData_s : S elementData = 175) (s_a : 0 ≤ s) (s_b : s ≤ 22) (s_e : s = G 157 this 2) (ed_e : elementData = G 157 this 1) (els : ∀ i : Int, 0 ≤ i → i < s → S (G 175 elementData i) = 138) : Calls E mJx4a65c_add_72be8 [(2, this), (2, e), (2, elementData), (0, s)] S G 12 1 33 (fun r S' G' => Gr [176] [(157, 1), (157, 2), (175, -1), (176, -1)] S G S' G' ∧ r = none ∧ LB3 E S' G' this ∧ G' 157 this 2 = s + 1 ∧ (∀ i : Int, 0 ≤ i → i < s → elm S' G' 157 this i = elm S G 157 this i) ∧ elm S' G' 157 this s = e) := by
  refine calls_by [(0, (2, this)), (1, (2, e)), (2, (2, elementData)), (3, (0, s))] rfl rfl (Nat.le_of_ble_eq_true rfl) (fun X hX => ?_)
  have hP := hPJx4a65c_add_72be8
  refine r_ex hX hP 2 (pc' := 2) (st' := [(2, elementData), (0, s)]) (lo' := [(0, (2, this)), (1, (2, e)), (2, (2, elementData)), (3, (0, s))]) rfl ?_
  refine r_alen hX hP rfl al_175 elementData_s ?_
  refine r_ic_ne hX hP rfl (tgt := 11) rfl (by first | decide | omega) (by first | decide | omega) (by first | decide | omega) (by first | decide | omega) (fun c1 => ?_) (fun c1 => ?_)
  · skip
    refine r_ex hX hP 3 (pc' := 14) (st' := [(2, e), (0, s), (2, elementData)]) (lo' := [(0, (2, this)), (1, (2, e)), (2, (2, elementData)), (3, (0, s))]) rfl ?_
    refine r_aast hX hP rfl (L := 175) al_175 ck_138_O elementData_s e_s (by first | decide | omega) (by first | decide | omega) ?_
    refine r_ex hX hP 4 (pc' := 19) (st' := [(0, (s + 1)), (2, this)]) (lo' := [(0, (2, this)), (1, (2, e)), (2, (2, elementData)), (3, (0, s))]) rfl ?_
    refine r_putIK hX hP rfl fp_Jx4a65c_48_157 hS (by first | decide | omega) (by first | decide | omega) (fun h2 => ?_)
    have g3 : Gr [176] [(157, 1), (157, 2), (175, -1), (176, -1)] S G S (up (up G 175 elementData s e) 157 this 2 (s + 1)) := (gr_up (gr_up (gr_refl [176] [(157, 1), (157, 2), (175, -1), (176, -1)] S G) rfl) rfl)
    exact r_retV hX hP rfl rfl (by first | decide | omega) (by first | decide | omega) ⟨g3, rfl, (Or.inr (Or.inr (Or.inr (Or.inl (lb_mk (G' := (up (up G 175 elementData s e) 157 this 2 (s + 1))) ed_e elementData_s h2 (by first | decide | omega) (le_store els e_s)))))), (h2).symm, (fun i h0 h1 => (elm_mk (G := (up (up G 175 elementData s e) 157 this 2 (s + 1))) (i := i) ed_e elementData_s).trans (((show (up G 175 elementData s e) 175 elementData i = _ from up_ne (fun q => absurd q.2.2 (by first | decide | omega)))).trans (elm_mk (G := G) (i := i) ed_e elementData_s).symm)), ((elm_mk (G := (up (up G 175 elementData s e) 157 this 2 (s + 1))) (i := s) ed_e elementData_s).trans (show (up G 175 elementData s e) 175 elementData s = e from up_self _ _ _ _ _))⟩
  · skip
    refine r_ex hX hP 1 (pc' := 7) (st' := [(2, this)]) (lo' := [(0, (2, this)), (1, (2, e)), (2, (2, elementData)), (3, (0, s))]) rfl ?_
    have e4 : 22 = G 157 this 2 := by have e := s_e; omega
    refine r_callV gd hX hP rfl cv_Jx4a65c_129_157 hS (d' := 10) (mc' := 1) (ms' := 33) (as' := []) (st := []) (by first | decide | omega) (by first | decide | omega) (by first | decide | omega) rfl rfl (Nat.le_of_ble_eq_true rfl) (c_gr0_Lpi_2 E S G this  hS elementData ed_e elementData_s e4) ?_
    rintro _ S5 G6 ⟨g7, z8, rfl, z8s, q9, q10⟩
    have s11 : S5 this = 157 := gr_lab g7 hS (by decide)
    have s12 : S5 e = 138 := gr_lab g7 e_s (by decide)
    have s13 : S5 elementData = 175 := gr_lab g7 elementData_s (by decide)
    have e14 : s = G6 157 this 2 := gr_val g7 s_e hS (by decide) rfl
    have g15 : Gr [176] [(157, 1), (157, 2), (175, -1), (176, -1)] S G S5 G6 := gr_call (gr_refl [176] [(157, 1), (157, 2), (175, -1), (176, -1)] S G) g7 rfl rfl
    have e16 : z8 = G6 157 this 1 := q9.symm
    refine r_ex hX hP 4 (pc' := 14) (st' := [(2, e), (0, s), (2, z8)]) (lo' := [(0, (2, this)), (1, (2, e)), (2, (2, z8)), (3, (0, s))]) rfl ?_
    refine r_aast hX hP rfl (L := 176) al_176 ck_138_O z8s s12 (by first | decide | omega) (by first | decide | omega) ?_
    refine r_ex hX hP 4 (pc' := 19) (st' := [(0, (s + 1)), (2, this)]) (lo' := [(0, (2, this)), (1, (2, e)), (2, (2, z8)), (3, (0, s))]) rfl ?_
    refine r_putIK hX hP rfl fp_Jx4a65c_48_157 s11 (by first | decide | omega) (by first | decide | omega) (fun h17 => ?_)
    have g18 : Gr [176] [(157, 1), (157, 2), (175, -1), (176, -1)] S G S5 (up (up G6 176 z8 s e) 157 this 2 (s + 1)) := (gr_up (gr_up g15 rfl) rfl)
    exact r_retV hX hP rfl rfl (by first | decide | omega) (by first | decide | omega) ⟨g18, rfl, (Or.inr (Or.inr (Or.inr (Or.inr (Or.inl (lb_mk (G' := (up (up G6 176 z8 s e) 157 this 2 (s + 1))) e16 z8s h17 (by first | decide | omega) (le_store (fun i h0 h1 => by rw [q10 i h0 (by first | decide | omega)]; exact gr_lab g7 (els i h0 h1) (by decide)) s12))))))), (h17).symm, (fun i h0 h1 => (elm_mk (G := (up (up G6 176 z8 s e) 157 this 2 (s + 1))) (i := i) e16 z8s).trans ((((show (up G6 176 z8 s e) 176 z8 i = _ from up_ne (fun q => absurd q.2.2 (by first | decide | omega)))).trans (q10 i h0 (by first | decide | omega))).trans (elm_mk (G := G) (i := i) ed_e elementData_s).symm)), ((elm_mk (G := (up (up G6 176 z8 s e) 157 this 2 (s + 1))) (i := s) e16 z8s).trans (show (up G6 176 z8 s e) 176 z8 s = e from up_self _ _ _ _ _))⟩
set_option maxRecDepth 100000 in
set_option maxHeartbeats 4000000 in
theorem c_ad3_Lpi_3T (E : En) (S : Sg) (G : Gh) (this : Int) (e : Int) (elementData : Int) (s : Int) (hS : S this = 157) (e_s : S e = 138) (elementData_s : S elementData = 176) (s_a : 0 ≤ s) (s_b : s ≤ 33) (s_e : s = G 157 this 2) (ed_e : elementData = G 157 this 1) (els : ∀ i : Int, 0 ≤ i → i < s → S (G 176 elementData i) = 138) : Calls E mJx4a65c_add_72be8 [(2, this), (2, e), (2, elementData), (0, s)] S G 12 1 49 (fun r S' G' => Gr [177] [(157, 1), (157, 2), (176, -1), (177, -1)] S G S' G' ∧ r = none ∧ LB3 E S' G' this ∧ G' 157 this 2 = s + 1 ∧ (∀ i : Int, 0 ≤ i → i < s → elm S' G' 157 this i = elm S G 157 this i) ∧ elm S' G' 157 this s = e) := by
  refine calls_by [(0, (2, this)), (1, (2, e)), (2, (2, elementData)), (3, (0, s))] rfl rfl (Nat.le_of_ble_eq_true rfl) (fun X hX => ?_)
  have hP := hPJx4a65c_add_72be8
  refine r_ex hX hP 2 (pc' := 2) (st' := [(2, elementData), (0, s)]) (lo' := [(0, (2, this)), (1, (2, e)), (2, (2, elementData)), (3, (0, s))]) rfl ?_
  refine r_alen hX hP rfl al_176 elementData_s ?_
  refine r_ic_ne hX hP rfl (tgt := 11) rfl (by first | decide | omega) (by first | decide | omega) (by first | decide | omega) (by first | decide | omega) (fun c1 => ?_) (fun c1 => ?_)
  · skip
    refine r_ex hX hP 3 (pc' := 14) (st' := [(2, e), (0, s), (2, elementData)]) (lo' := [(0, (2, this)), (1, (2, e)), (2, (2, elementData)), (3, (0, s))]) rfl ?_
    refine r_aast hX hP rfl (L := 176) al_176 ck_138_O elementData_s e_s (by first | decide | omega) (by first | decide | omega) ?_
    refine r_ex hX hP 4 (pc' := 19) (st' := [(0, (s + 1)), (2, this)]) (lo' := [(0, (2, this)), (1, (2, e)), (2, (2, elementData)), (3, (0, s))]) rfl ?_
    refine r_putIK hX hP rfl fp_Jx4a65c_48_157 hS (by first | decide | omega) (by first | decide | omega) (fun h2 => ?_)
    have g3 : Gr [177] [(157, 1), (157, 2), (176, -1), (177, -1)] S G S (up (up G 176 elementData s e) 157 this 2 (s + 1)) := (gr_up (gr_up (gr_refl [177] [(157, 1), (157, 2), (176, -1), (177, -1)] S G) rfl) rfl)
    exact r_retV hX hP rfl rfl (by first | decide | omega) (by first | decide | omega) ⟨g3, rfl, (Or.inr (Or.inr (Or.inr (Or.inr (Or.inl (lb_mk (G' := (up (up G 176 elementData s e) 157 this 2 (s + 1))) ed_e elementData_s h2 (by first | decide | omega) (le_store els e_s))))))), (h2).symm, (fun i h0 h1 => (elm_mk (G := (up (up G 176 elementData s e) 157 this 2 (s + 1))) (i := i) ed_e elementData_s).trans (((show (up G 176 elementData s e) 176 elementData i = _ from up_ne (fun q => absurd q.2.2 (by first | decide | omega)))).trans (elm_mk (G := G) (i := i) ed_e elementData_s).symm)), ((elm_mk (G := (up (up G 176 elementData s e) 157 this 2 (s + 1))) (i := s) ed_e elementData_s).trans (show (up G 176 elementData s e) 176 elementData s = e from up_self _ _ _ _ _))⟩
  · skip
    refine r_ex hX hP 1 (pc' := 7) (st' := [(2, this)]) (lo' := [(0, (2, this)), (1, (2, e)), (2, (2, elementData)), (3, (0, s))]) rfl ?_
    have e4 : 33 = G 157 this 2 := by have e := s_e; omega
    refine r_callV gd hX hP rfl cv_Jx4a65c_129_157 hS (d' := 10) (mc' := 1) (ms' := 49) (as' := []) (st := []) (by first | decide | omega) (by first | decide | omega) (by first | decide | omega) rfl rfl (Nat.le_of_ble_eq_true rfl) (c_gr0_Lpi_3 E S G this  hS elementData ed_e elementData_s e4) ?_
    rintro _ S5 G6 ⟨g7, z8, rfl, z8s, q9, q10⟩
    have s11 : S5 this = 157 := gr_lab g7 hS (by decide)
    have s12 : S5 e = 138 := gr_lab g7 e_s (by decide)
    have s13 : S5 elementData = 176 := gr_lab g7 elementData_s (by decide)
    have e14 : s = G6 157 this 2 := gr_val g7 s_e hS (by decide) rfl
    have g15 : Gr [177] [(157, 1), (157, 2), (176, -1), (177, -1)] S G S5 G6 := gr_call (gr_refl [177] [(157, 1), (157, 2), (176, -1), (177, -1)] S G) g7 rfl rfl
    have e16 : z8 = G6 157 this 1 := q9.symm
    refine r_ex hX hP 4 (pc' := 14) (st' := [(2, e), (0, s), (2, z8)]) (lo' := [(0, (2, this)), (1, (2, e)), (2, (2, z8)), (3, (0, s))]) rfl ?_
    refine r_aast hX hP rfl (L := 177) al_177 ck_138_O z8s s12 (by first | decide | omega) (by first | decide | omega) ?_
    refine r_ex hX hP 4 (pc' := 19) (st' := [(0, (s + 1)), (2, this)]) (lo' := [(0, (2, this)), (1, (2, e)), (2, (2, z8)), (3, (0, s))]) rfl ?_
    refine r_putIK hX hP rfl fp_Jx4a65c_48_157 s11 (by first | decide | omega) (by first | decide | omega) (fun h17 => ?_)
    have g18 : Gr [177] [(157, 1), (157, 2), (176, -1), (177, -1)] S G S5 (up (up G6 177 z8 s e) 157 this 2 (s + 1)) := (gr_up (gr_up g15 rfl) rfl)
    exact r_retV hX hP rfl rfl (by first | decide | omega) (by first | decide | omega) ⟨g18, rfl, (Or.inr (Or.inr (Or.inr (Or.inr (Or.inr (Or.inl (lb_mk (G' := (up (up G6 177 z8 s e) 157 this 2 (s + 1))) e16 z8s h17 (by first | decide | omega) (le_store (fun i h0 h1 => by rw [q10 i h0 (by first | decide | omega)]; exact gr_lab g7 (els i h0 h1) (by decide)) s12)))))))), (h17).symm, (fun i h0 h1 => (elm_mk (G := (up (up G6 177 z8 s e) 157 this 2 (s + 1))) (i := i) e16 z8s).trans ((((show (up G6 177 z8 s e) 177 z8 i = _ from up_ne (fun q => absurd q.2.2 (by first | decide | omega)))).trans (q10 i h0 (by first | decide | omega))).trans (elm_mk (G := G) (i := i) ed_e elementData_s).symm)), ((elm_mk (G := (up (up G6 177 z8 s e) 157 this 2 (s + 1))) (i := s) e16 z8s).trans (show (up G6 177 z8 s e) 177 z8 s = e from up_self _ _ _ _ _))⟩
set_option maxRecDepth 100000 in
set_option maxHeartbeats 4000000 in
theorem c_ad3_Lpi_4T (E : En) (S : Sg) (G : Gh) (this : Int) (e : Int) (elementData : Int) (s : Int) (hS : S this = 157) (e_s : S e = 138) (elementData_s : S elementData = 177) (s_a : 0 ≤ s) (s_b : s ≤ 49) (s_e : s = G 157 this 2) (ed_e : elementData = G 157 this 1) (els : ∀ i : Int, 0 ≤ i → i < s → S (G 177 elementData i) = 138) : Calls E mJx4a65c_add_72be8 [(2, this), (2, e), (2, elementData), (0, s)] S G 12 1 73 (fun r S' G' => Gr [178] [(157, 1), (157, 2), (177, -1), (178, -1)] S G S' G' ∧ r = none ∧ LB3 E S' G' this ∧ G' 157 this 2 = s + 1 ∧ (∀ i : Int, 0 ≤ i → i < s → elm S' G' 157 this i = elm S G 157 this i) ∧ elm S' G' 157 this s = e) := by
  refine calls_by [(0, (2, this)), (1, (2, e)), (2, (2, elementData)), (3, (0, s))] rfl rfl (Nat.le_of_ble_eq_true rfl) (fun X hX => ?_)
  have hP := hPJx4a65c_add_72be8
  refine r_ex hX hP 2 (pc' := 2) (st' := [(2, elementData), (0, s)]) (lo' := [(0, (2, this)), (1, (2, e)), (2, (2, elementData)), (3, (0, s))]) rfl ?_
  refine r_alen hX hP rfl al_177 elementData_s ?_
  refine r_ic_ne hX hP rfl (tgt := 11) rfl (by first | decide | omega) (by first | decide | omega) (by first | decide | omega) (by first | decide | omega) (fun c1 => ?_) (fun c1 => ?_)
  · skip
    refine r_ex hX hP 3 (pc' := 14) (st' := [(2, e), (0, s), (2, elementData)]) (lo' := [(0, (2, this)), (1, (2, e)), (2, (2, elementData)), (3, (0, s))]) rfl ?_
    refine r_aast hX hP rfl (L := 177) al_177 ck_138_O elementData_s e_s (by first | decide | omega) (by first | decide | omega) ?_
    refine r_ex hX hP 4 (pc' := 19) (st' := [(0, (s + 1)), (2, this)]) (lo' := [(0, (2, this)), (1, (2, e)), (2, (2, elementData)), (3, (0, s))]) rfl ?_
    refine r_putIK hX hP rfl fp_Jx4a65c_48_157 hS (by first | decide | omega) (by first | decide | omega) (fun h2 => ?_)
    have g3 : Gr [178] [(157, 1), (157, 2), (177, -1), (178, -1)] S G S (up (up G 177 elementData s e) 157 this 2 (s + 1)) := (gr_up (gr_up (gr_refl [178] [(157, 1), (157, 2), (177, -1), (178, -1)] S G) rfl) rfl)
    exact r_retV hX hP rfl rfl (by first | decide | omega) (by first | decide | omega) ⟨g3, rfl, (Or.inr (Or.inr (Or.inr (Or.inr (Or.inr (Or.inl (lb_mk (G' := (up (up G 177 elementData s e) 157 this 2 (s + 1))) ed_e elementData_s h2 (by first | decide | omega) (le_store els e_s)))))))), (h2).symm, (fun i h0 h1 => (elm_mk (G := (up (up G 177 elementData s e) 157 this 2 (s + 1))) (i := i) ed_e elementData_s).trans (((show (up G 177 elementData s e) 177 elementData i = _ from up_ne (fun q => absurd q.2.2 (by first | decide | omega)))).trans (elm_mk (G := G) (i := i) ed_e elementData_s).symm)), ((elm_mk (G := (up (up G 177 elementData s e) 157 this 2 (s + 1))) (i := s) ed_e elementData_s).trans (show (up G 177 elementData s e) 177 elementData s = e from up_self _ _ _ _ _))⟩
  · skip
    refine r_ex hX hP 1 (pc' := 7) (st' := [(2, this)]) (lo' := [(0, (2, this)), (1, (2, e)), (2, (2, elementData)), (3, (0, s))]) rfl ?_
    have e4 : 49 = G 157 this 2 := by have e := s_e; omega
    refine r_callV gd hX hP rfl cv_Jx4a65c_129_157 hS (d' := 10) (mc' := 1) (ms' := 73) (as' := []) (st := []) (by first | decide | omega) (by first | decide | omega) (by first | decide | omega) rfl rfl (Nat.le_of_ble_eq_true rfl) (c_gr0_Lpi_4 E S G this  hS elementData ed_e elementData_s e4) ?_
    rintro _ S5 G6 ⟨g7, z8, rfl, z8s, q9, q10⟩
    have s11 : S5 this = 157 := gr_lab g7 hS (by decide)
    have s12 : S5 e = 138 := gr_lab g7 e_s (by decide)
    have s13 : S5 elementData = 177 := gr_lab g7 elementData_s (by decide)
    have e14 : s = G6 157 this 2 := gr_val g7 s_e hS (by decide) rfl
    have g15 : Gr [178] [(157, 1), (157, 2), (177, -1), (178, -1)] S G S5 G6 := gr_call (gr_refl [178] [(157, 1), (157, 2), (177, -1), (178, -1)] S G) g7 rfl rfl
    have e16 : z8 = G6 157 this 1 := q9.symm
    refine r_ex hX hP 4 (pc' := 14) (st' := [(2, e), (0, s), (2, z8)]) (lo' := [(0, (2, this)), (1, (2, e)), (2, (2, z8)), (3, (0, s))]) rfl ?_
    refine r_aast hX hP rfl (L := 178) al_178 ck_138_O z8s s12 (by first | decide | omega) (by first | decide | omega) ?_
    refine r_ex hX hP 4 (pc' := 19) (st' := [(0, (s + 1)), (2, this)]) (lo' := [(0, (2, this)), (1, (2, e)), (2, (2, z8)), (3, (0, s))]) rfl ?_
    refine r_putIK hX hP rfl fp_Jx4a65c_48_157 s11 (by first | decide | omega) (by first | decide | omega) (fun h17 => ?_)
    have g18 : Gr [178] [(157, 1), (157, 2), (177, -1), (178, -1)] S G S5 (up (up G6 178 z8 s e) 157 this 2 (s + 1)) := (gr_up (gr_up g15 rfl) rfl)
    exact r_retV hX hP rfl rfl (by first | decide | omega) (by first | decide | omega) ⟨g18, rfl, (Or.inr (Or.inr (Or.inr (Or.inr (Or.inr (Or.inr ((lb_mk (G' := (up (up G6 178 z8 s e) 157 this 2 (s + 1))) e16 z8s h17 (by first | decide | omega) (le_store (fun i h0 h1 => by rw [q10 i h0 (by first | decide | omega)]; exact gr_lab g7 (els i h0 h1) (by decide)) s12))))))))), (h17).symm, (fun i h0 h1 => (elm_mk (G := (up (up G6 178 z8 s e) 157 this 2 (s + 1))) (i := i) e16 z8s).trans ((((show (up G6 178 z8 s e) 178 z8 i = _ from up_ne (fun q => absurd q.2.2 (by first | decide | omega)))).trans (q10 i h0 (by first | decide | omega))).trans (elm_mk (G := G) (i := i) ed_e elementData_s).symm)), ((elm_mk (G := (up (up G6 178 z8 s e) 157 this 2 (s + 1))) (i := s) e16 z8s).trans (show (up G6 178 z8 s e) 178 z8 s = e from up_self _ _ _ _ _))⟩
set_option maxRecDepth 100000 in
set_option maxHeartbeats 4000000 in
theorem c_ad3_Lpi_5T (E : En) (S : Sg) (G : Gh) (this : Int) (e : Int) (elementData : Int) (s : Int) (hS : S this = 157) (e_s : S e = 138) (elementData_s : S elementData = 178) (s_a : 0 ≤ s) (s_b : s ≤ 59) (s_e : s = G 157 this 2) (ed_e : elementData = G 157 this 1) (els : ∀ i : Int, 0 ≤ i → i < s → S (G 178 elementData i) = 138) : Calls E mJx4a65c_add_72be8 [(2, this), (2, e), (2, elementData), (0, s)] S G 12 0 0 (fun r S' G' => Gr [] [(157, 2), (178, -1)] S G S' G' ∧ r = none ∧ LB3 E S' G' this ∧ G' 157 this 2 = s + 1 ∧ (∀ i : Int, 0 ≤ i → i < s → elm S' G' 157 this i = elm S G 157 this i) ∧ elm S' G' 157 this s = e) := by
  refine calls_by [(0, (2, this)), (1, (2, e)), (2, (2, elementData)), (3, (0, s))] rfl rfl (Nat.le_of_ble_eq_true rfl) (fun X hX => ?_)
  have hP := hPJx4a65c_add_72be8
  refine r_ex hX hP 2 (pc' := 2) (st' := [(2, elementData), (0, s)]) (lo' := [(0, (2, this)), (1, (2, e)), (2, (2, elementData)), (3, (0, s))]) rfl ?_
  refine r_alen hX hP rfl al_178 elementData_s ?_
  refine r_ic_ne hX hP rfl (tgt := 11) rfl (by first | decide | omega) (by first | decide | omega) (by first | decide | omega) (by first | decide | omega) (fun c1 => ?_) (fun c1 => ?_)
  · skip
    refine r_ex hX hP 3 (pc' := 14) (st' := [(2, e), (0, s), (2, elementData)]) (lo' := [(0, (2, this)), (1, (2, e)), (2, (2, elementData)), (3, (0, s))]) rfl ?_
    refine r_aast hX hP rfl (L := 178) al_178 ck_138_O elementData_s e_s (by first | decide | omega) (by first | decide | omega) ?_
    refine r_ex hX hP 4 (pc' := 19) (st' := [(0, (s + 1)), (2, this)]) (lo' := [(0, (2, this)), (1, (2, e)), (2, (2, elementData)), (3, (0, s))]) rfl ?_
    refine r_putIK hX hP rfl fp_Jx4a65c_48_157 hS (by first | decide | omega) (by first | decide | omega) (fun h2 => ?_)
    have g3 : Gr [] [(157, 2), (178, -1)] S G S (up (up G 178 elementData s e) 157 this 2 (s + 1)) := (gr_up (gr_up (gr_refl [] [(157, 2), (178, -1)] S G) rfl) rfl)
    exact r_retV hX hP rfl rfl (by first | decide | omega) (by first | decide | omega) ⟨g3, rfl, (Or.inr (Or.inr (Or.inr (Or.inr (Or.inr (Or.inr ((lb_mk (G' := (up (up G 178 elementData s e) 157 this 2 (s + 1))) ed_e elementData_s h2 (by first | decide | omega) (le_store els e_s))))))))), (h2).symm, (fun i h0 h1 => (elm_mk (G := (up (up G 178 elementData s e) 157 this 2 (s + 1))) (i := i) ed_e elementData_s).trans (((show (up G 178 elementData s e) 178 elementData i = _ from up_ne (fun q => absurd q.2.2 (by first | decide | omega)))).trans (elm_mk (G := G) (i := i) ed_e elementData_s).symm)), ((elm_mk (G := (up (up G 178 elementData s e) 157 this 2 (s + 1))) (i := s) ed_e elementData_s).trans (show (up G 178 elementData s e) 178 elementData s = e from up_self _ _ _ _ _))⟩
  · skip
    exfalso; omega
