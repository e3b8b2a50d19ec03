theorem elm_mk {S : Sg} {G : Gh} {L l ar C i : Int} (ha : ar = G L l 1) (hs : S ar = C) : elm S G L l i = G C ar i := by
  unfold elm
  rw [← ha, hs]
theorem elm_up {S : Sg} {G : Gh} {L l j v i : Int} (h1 : j ≠ 1) (h2 : S (G L l 1) ≠ L) : elm S (up G L l j v) L l i = elm S G L l i := by
  unfold elm
  rw [up_ne (fun q => h1 q.2.2.symm), up_ne (fun q => h2 q.1)]
theorem tl_152 (j : Nat) {t : Ty} (h : fs_152.getD j (0, 0, 0) = t) (hj : j < fs_152.length) : Tl 152 j t := ⟨2, fs_152, rfl, hj, h, by decide⟩
theorem tl_150 (j : Nat) {t : Ty} (h : fs_150.getD j (0, 0, 0) = t) (hj : j < fs_150.length) : Tl 150 j t := ⟨3, fs_150, rfl, hj, h, by decide⟩
set_option maxRecDepth 100000 in
set_option maxHeartbeats 4000000 in
theorem c_ed_LtrT (E : En) (S : Sg) (G : Gh) (this : Int) (index : Int) (hS : S this = 155) (sz : Int) (sz_e : sz = G 155 this 2) (index_a : 0 ≤ index) (index_b : index ≤ 39) (pre0 : index + 1 ≤ sz) (ci : CI E S G) : Calls E mJx4a65c_elementData_915e3 [(2, this), (0, index)] S G 0 0 0 (fun r S' G' => S = S' ∧ G = G' ∧ ∃ z : Int, r = some (2, z) ∧ S z = 140 ∧ z = elm S G 155 this index) := by
  refine calls_by [(0, (2, this)), (1, (0, index))] rfl rfl (Nat.le_of_ble_eq_true rfl) (fun X hX => ?_)
  have hP := hPJx4a65c_elementData_915e3
  refine r_peekI hX (tl_155 2 rfl (by decide)) hS (fun sz_o sz_oe sz_oa sz_ob => ?_)
  obtain rfl : sz = sz_o := sz_e.trans sz_oe.symm
  refine r_ex hX hP 1 (pc' := 1) (st' := [(2, this)]) (lo' := [(0, (2, this)), (1, (0, index))]) rfl ?_
  refine r_get5 hX hP rfl fl_Jx4a65c_9_155 hS (fun ef1 ef1e ef1o => ?_)
  refine r_ex hX hP 1 (pc' := 5) (st' := [(0, index), (2, ef1)]) (lo' := [(0, (2, this)), (1, (0, index))]) rfl ?_
  rcases ci_L1 ci hS ef1e sz_e (i := index) (by first | decide | omega) (by first | decide | omega) with ⟨sA, iA, eA⟩ | ⟨sA, iA, eA⟩ | ⟨sA, iA, eA⟩ | ⟨sA, iA, eA⟩ | ⟨sA, iA, eA⟩
  · skip
    refine r_aaldN hX hP rfl al_165 rfl sA (by first | decide | omega) (by first | decide | omega) (fun r2 r2e r2n => ?_)
    have r2s : S r2 = 140 := by rw [r2e]; exact eA
    have k3 : elm S G 155 this index = r2 := by rw [elm_mk ef1e sA]; exact r2e.symm
    exact r_retR hX hP rfl rfl (by first | exact Or.inl ⟨_, rfl⟩ | exact Or.inr ⟨_, rfl⟩) (by first | decide | omega) (by first | decide | omega) ⟨rfl, rfl, r2, rfl, r2s, (by first | decide | omega)⟩
  · skip
    refine r_aaldN hX hP rfl al_166 rfl sA (by first | decide | omega) (by first | decide | omega) (fun r2 r2e r2n => ?_)
    have r2s : S r2 = 140 := by rw [r2e]; exact eA
    have k4 : elm S G 155 this index = r2 := by rw [elm_mk ef1e sA]; exact r2e.symm
    exact r_retR hX hP rfl rfl (by first | exact Or.inl ⟨_, rfl⟩ | exact Or.inr ⟨_, rfl⟩) (by first | decide | omega) (by first | decide | omega) ⟨rfl, rfl, r2, rfl, r2s, (by first | decide | omega)⟩
  · skip
    refine r_aaldN hX hP rfl al_167 rfl sA (by first | decide | omega) (by first | decide | omega) (fun r2 r2e r2n => ?_)
    have r2s : S r2 = 140 := by rw [r2e]; exact eA
    have k5 : elm S G 155 this index = r2 := by rw [elm_mk ef1e sA]; exact r2e.symm
    exact r_retR hX hP rfl rfl (by first | exact Or.inl ⟨_, rfl⟩ | exact Or.inr ⟨_, rfl⟩) (by first | decide | omega) (by first | decide | omega) ⟨rfl, rfl, r2, rfl, r2s, (by first | decide | omega)⟩
  · skip
    refine r_aaldN hX hP rfl al_168 rfl sA (by first | decide | omega) (by first | decide | omega) (fun r2 r2e r2n => ?_)
    have r2s : S r2 = 140 := by rw [r2e]; exact eA
    have k6 : elm S G 155 this index = r2 := by rw [elm_mk ef1e sA]; exact r2e.symm
    exact r_retR hX hP rfl rfl (by first | exact Or.inl ⟨_, rfl⟩ | exact Or.inr ⟨_, rfl⟩) (by first | decide | omega) (by first | decide | omega) ⟨rfl, rfl, r2, rfl, r2s, (by first | decide | omega)⟩
  · skip
    refine r_aaldN hX hP rfl al_169 rfl sA (by first | decide | omega) (by first | decide | omega) (fun r2 r2e r2n => ?_)
    have r2s : S r2 = 140 := by rw [r2e]; exact eA
    have k7 : elm S G 155 this index = r2 := by rw [elm_mk ef1e sA]; exact r2e.symm
    exact r_retR hX hP rfl rfl (by first | exact Or.inl ⟨_, rfl⟩ | exact Or.inr ⟨_, rfl⟩) (by first | decide | omega) (by first | decide | omega) ⟨rfl, rfl, r2, rfl, r2s, (by first | decide | omega)⟩
set_option maxRecDepth 100000 in
set_option maxHeartbeats 4000000 in
theorem c_get_LtrT (E : En) (S : Sg) (G : Gh) (this : Int) (index : Int) (hS : S this = 155) (sz : Int) (sz_e : sz = G 155 this 2) (index_a : 0 ≤ index) (index_b : index ≤ 39) (pre0 : index + 1 ≤ sz) (ci : CI E S G) : Calls E mJx4a65c_get_915e3 [(2, this), (0, index)] S G 2 0 0 (fun r S' G' => S = S' ∧ G = G' ∧ ∃ z : Int, r = some (2, z) ∧ S z = 140 ∧ z = elm S G 155 this index) := by
  refine calls_by [(0, (2, this)), (1, (0, index))] rfl rfl (Nat.le_of_ble_eq_true rfl) (fun X hX => ?_)
  have hP := hPJx4a65c_get_915e3
  refine r_peekI hX (tl_155 2 rfl (by decide)) hS (fun sz_o sz_oe sz_oa sz_ob => ?_)
  obtain rfl : sz = sz_o := sz_e.trans sz_oe.symm
  refine r_ex hX hP 2 (pc' := 2) (st' := [(2, this), (0, index)]) (lo' := [(0, (2, this)), (1, (0, index))]) rfl ?_
  refine r_getKI hX hP rfl fl_Jx4a65c_48_155 hS (x := sz) sz_e ?_
  refine r_callS gd hX hP rfl cs_Jx4a65c_118 (d' := 1) (mc' := 0) (ms' := 0) (as' := [(0, index), (0, sz)]) (st := []) (by first | decide | omega) (by first | decide | omega) (by first | decide | omega) rfl rfl (Nat.le_of_ble_eq_true rfl) (c_J15_checkIndex_7cf53 E S G index sz (by first | decide | omega) (by first | decide | omega) (by first | decide | omega) (by first | decide | omega) (by first | decide | omega)) ?_
  rintro _ _ _ ⟨rfl, rfl, z1, rfl, z1a, z1b⟩
  refine r_ex hX hP 3 (pc' := 11) (st' := [(0, index), (2, this)]) (lo' := [(0, (2, this)), (1, (0, index))]) rfl ?_
  refine r_callV gd hX hP rfl cv_Jx4a65c_123_155 hS (d' := 0) (mc' := 0) (ms' := 0) (as' := [(0, index)]) (st := []) (by first | decide | omega) (by first | decide | omega) (by first | decide | omega) rfl rfl (Nat.le_of_ble_eq_true rfl) (c_ed_LtrT E S G this index hS sz sz_e (by first | decide | omega) (by first | decide | omega) (by first | decide | omega) ci) ?_
  rintro _ _ _ ⟨rfl, rfl, z2, rfl, z2s, f3⟩
  exact r_retR hX hP rfl rfl (by first | exact Or.inl ⟨_, rfl⟩ | exact Or.inr ⟨_, rfl⟩) (by first | decide | omega) (by first | decide | omega) ⟨rfl, rfl, z2, rfl, z2s, (by first | decide | omega)⟩
set_option maxRecDepth 100000 in
set_option maxHeartbeats 4000000 in
theorem c_ed_LevT (E : En) (S : Sg) (G : Gh) (this : Int) (index : Int) (hS : S this = 156) (sz : Int) (sz_e : sz = G 156 this 2) (index_a : 0 ≤ index) (index_b : index ≤ 15) (pre0 : index + 1 ≤ sz) (ci : CI E S G) : Calls E mJx4a65c_elementData_915e3 [(2, this), (0, index)] S G 0 0 0 (fun r S' G' => S = S' ∧ G = G' ∧ ∃ z : Int, r = some (2, z) ∧ S z = 137 ∧ z = elm S G 156 this index) := by
  refine calls_by [(0, (2, this)), (1, (0, index))] rfl rfl (Nat.le_of_ble_eq_true rfl) (fun X hX => ?_)
  have hP := hPJx4a65c_elementData_915e3
  refine r_peekI hX (tl_156 2 rfl (by decide)) hS (fun sz_o sz_oe sz_oa sz_ob => ?_)
  obtain rfl : sz = sz_o := sz_e.trans sz_oe.symm
  refine r_ex hX hP 1 (pc' := 1) (st' := [(2, this)]) (lo' := [(0, (2, this)), (1, (0, index))]) rfl ?_
  refine r_get5 hX hP rfl fl_Jx4a65c_9_156 hS (fun ef1 ef1e ef1o => ?_)
  refine r_ex hX hP 1 (pc' := 5) (st' := [(0, index), (2, ef1)]) (lo' := [(0, (2, this)), (1, (0, index))]) rfl ?_
  rcases ci_L2 ci hS ef1e sz_e (i := index) (by first | decide | omega) (by first | decide | omega) with ⟨sA, iA, eA⟩ | ⟨sA, iA, eA⟩ | ⟨sA, iA, eA⟩
  · skip
    refine r_aaldN hX hP rfl al_170 rfl sA (by first | decide | omega) (by first | decide | omega) (fun r2 r2e r2n => ?_)
    have r2s : S r2 = 137 := by rw [r2e]; exact eA
    have k3 : elm S G 156 this index = r2 := by rw [elm_mk ef1e sA]; exact r2e.symm
    exact r_retR hX hP rfl rfl (by first | exact Or.inl ⟨_, rfl⟩ | exact Or.inr ⟨_, rfl⟩) (by first | decide | omega) (by first | decide | omega) ⟨rfl, rfl, r2, rfl, r2s, (by first | decide | omega)⟩
  · skip
    refine r_aaldN hX hP rfl al_171 rfl sA (by first | decide | omega) (by first | decide | omega) (fun r2 r2e r2n => ?_)
    have r2s : S r2 = 137 := by rw [r2e]; exact eA
    have k4 : elm S G 156 this index = r2 := by rw [elm_mk ef1e sA]; exact r2e.symm
    exact r_retR hX hP rfl rfl (by first | exact Or.inl ⟨_, rfl⟩ | exact Or.inr ⟨_, rfl⟩) (by first | decide | omega) (by first | decide | omega) ⟨rfl, rfl, r2, rfl, r2s, (by first | decide | omega)⟩
  · skip
    refine r_aaldN hX hP rfl al_172 rfl sA (by first | decide | omega) (by first | decide | omega) (fun r2 r2e r2n => ?_)
    have r2s : S r2 = 137 := by rw [r2e]; exact eA
    have k5 : elm S G 156 this index = r2 := by rw [elm_mk ef1e sA]; exact r2e.symm
    exact r_retR hX hP rfl rfl (by first | exact Or.inl ⟨_, rfl⟩ | exact Or.inr ⟨_, rfl⟩) (by first | decide | omega) (by first | decide | omega) ⟨rfl, rfl, r2, rfl, r2s, (by first | decide | omega)⟩
set_option maxRecDepth 100000 in
set_option maxHeartbeats 4000000 in
theorem c_get_LevT (E : En) (S : Sg) (G : Gh) (this : Int) (index : Int) (hS : S this = 156) (sz : Int) (sz_e : sz = G 156 this 2) (index_a : 0 ≤ index) (index_b : index ≤ 15) (pre0 : index + 1 ≤ sz) (ci : CI E S G) : Calls E mJx4a65c_get_915e3 [(2, this), (0, index)] S G 2 0 0 (fun r S' G' => S = S' ∧ G = G' ∧ ∃ z : Int, r = some (2, z) ∧ S z = 137 ∧ z = elm S G 156 this index) := by
  refine calls_by [(0, (2, this)), (1, (0, index))] rfl rfl (Nat.le_of_ble_eq_true rfl) (fun X hX => ?_)
  have hP := hPJx4a65c_get_915e3
  refine r_peekI hX (tl_156 2 rfl (by decide)) hS (fun sz_o sz_oe sz_oa sz_ob => ?_)
  obtain rfl : sz = sz_o := sz_e.trans sz_oe.symm
  refine r_ex hX hP 2 (pc' := 2) (st' := [(2, this), (0, index)]) (lo' := [(0, (2, this)), (1, (0, index))]) rfl ?_
  refine r_getKI hX hP rfl fl_Jx4a65c_48_156 hS (x := sz) sz_e ?_
  refine r_callS gd hX hP rfl cs_Jx4a65c_118 (d' := 1) (mc' := 0) (ms' := 0) (as' := [(0, index), (0, sz)]) (st := []) (by first | decide | omega) (by first | decide | omega) (by first | decide | omega) rfl rfl (Nat.le_of_ble_eq_true rfl) (c_J15_checkIndex_7cf53 E S G index sz (by first | decide | omega) (by first | decide | omega) (by first | decide | omega) (by first | decide | omega) (by first | decide | omega)) ?_
  rintro _ _ _ ⟨rfl, rfl, z1, rfl, z1a, z1b⟩
  refine r_ex hX hP 3 (pc' := 11) (st' := [(0, index), (2, this)]) (lo' := [(0, (2, this)), (1, (0, index))]) rfl ?_
  refine r_callV gd hX hP rfl cv_Jx4a65c_123_156 hS (d' := 0) (mc' := 0) (ms' := 0) (as' := [(0, index)]) (st := []) (by first | decide | omega) (by first | decide | omega) (by first | decide | omega) rfl rfl (Nat.le_of_ble_eq_true rfl) (c_ed_LevT E S G this index hS sz sz_e (by first | decide | omega) (by first | decide | omega) (by first | decide | omega) ci) ?_
  rintro _ _ _ ⟨rfl, rfl, z2, rfl, z2s, f3⟩
  exact r_retR hX hP rfl rfl (by first | exact Or.inl ⟨_, rfl⟩ | exact Or.inr ⟨_, rfl⟩) (by first | decide | omega) (by first | decide | omega) ⟨rfl, rfl, z2, rfl, z2s, (by first | decide | omega)⟩
set_option maxRecDepth 100000 in
set_option maxHeartbeats 4000000 in
theorem c_ed_LpiT (E : En) (S : Sg) (G : Gh) (this : Int) (index : Int) (hS : S this = 157) (sz : Int) (sz_e : sz = G 157 this 2) (index_a : 0 ≤ index) (index_b : index ≤ 59) (pre0 : index + 1 ≤ sz) (ci : CI E S G) : Calls E mJx4a65c_elementData_915e3 [(2, this), (0, index)] S G 0 0 0 (fun r S' G' => S = S' ∧ G = G' ∧ ∃ z : Int, r = some (2, z) ∧ S z = 138 ∧ z = elm S G 157 this index) := by
  refine calls_by [(0, (2, this)), (1, (0, index))] rfl rfl (Nat.le_of_ble_eq_true rfl) (fun X hX => ?_)
  have hP := hPJx4a65c_elementData_915e3
  refine r_peekI hX (tl_157 2 rfl (by decide)) hS (fun sz_o sz_oe sz_oa sz_ob => ?_)
  obtain rfl : sz = sz_o := sz_e.trans sz_oe.symm
  refine r_ex hX hP 1 (pc' := 1) (st' := [(2, this)]) (lo' := [(0, (2, this)), (1, (0, index))]) rfl ?_
  refine r_get5 hX hP rfl fl_Jx4a65c_9_157 hS (fun ef1 ef1e ef1o => ?_)
  refine r_ex hX hP 1 (pc' := 5) (st' := [(0, index), (2, ef1)]) (lo' := [(0, (2, this)), (1, (0, index))]) rfl ?_
  rcases ci_L3 ci hS ef1e sz_e (i := index) (by first | decide | omega) (by first | decide | omega) with ⟨sA, iA, eA⟩ | ⟨sA, iA, eA⟩ | ⟨sA, iA, eA⟩ | ⟨sA, iA, eA⟩ | ⟨sA, iA, eA⟩ | ⟨sA, iA, eA⟩
  · skip
    refine r_aaldN hX hP rfl al_173 rfl sA (by first | decide | omega) (by first | decide | omega) (fun r2 r2e r2n => ?_)
    have r2s : S r2 = 138 := by rw [r2e]; exact eA
    have k3 : elm S G 157 this index = r2 := by rw [elm_mk ef1e sA]; exact r2e.symm
    exact r_retR hX hP rfl rfl (by first | exact Or.inl ⟨_, rfl⟩ | exact Or.inr ⟨_, rfl⟩) (by first | decide | omega) (by first | decide | omega) ⟨rfl, rfl, r2, rfl, r2s, (by first | decide | omega)⟩
  · skip
    refine r_aaldN hX hP rfl al_174 rfl sA (by first | decide | omega) (by first | decide | omega) (fun r2 r2e r2n => ?_)
    have r2s : S r2 = 138 := by rw [r2e]; exact eA
    have k4 : elm S G 157 this index = r2 := by rw [elm_mk ef1e sA]; exact r2e.symm
    exact r_retR hX hP rfl rfl (by first | exact Or.inl ⟨_, rfl⟩ | exact Or.inr ⟨_, rfl⟩) (by first | decide | omega) (by first | decide | omega) ⟨rfl, rfl, r2, rfl, r2s, (by first | decide | omega)⟩
  · skip
    refine r_aaldN hX hP rfl al_175 rfl sA (by first | decide | omega) (by first | decide | omega) (fun r2 r2e r2n => ?_)
    have r2s : S r2 = 138 := by rw [r2e]; exact eA
    have k5 : elm S G 157 this index = r2 := by rw [elm_mk ef1e sA]; exact r2e.symm
    exact r_retR hX hP rfl rfl (by first | exact Or.inl ⟨_, rfl⟩ | exact Or.inr ⟨_, rfl⟩) (by first | decide | omega) (by first | decide | omega) ⟨rfl, rfl, r2, rfl, r2s, (by first | decide | omega)⟩
  · skip
    refine r_aaldN hX hP rfl al_176 rfl sA (by first | decide | omega) (by first | decide | omega) (fun r2 r2e r2n => ?_)
    have r2s : S r2 = 138 := by rw [r2e]; exact eA
    have k6 : elm S G 157 this index = r2 := by rw [elm_mk ef1e sA]; exact r2e.symm
    exact r_retR hX hP rfl rfl (by first | exact Or.inl ⟨_, rfl⟩ | exact Or.inr ⟨_, rfl⟩) (by first | decide | omega) (by first | decide | omega) ⟨rfl, rfl, r2, rfl, r2s, (by first | decide | omega)⟩
  · skip
    refine r_aaldN hX hP rfl al_177 rfl sA (by first | decide | omega) (by first | decide | omega) (fun r2 r2e r2n => ?_)
    have r2s : S r2 = 138 := by rw [r2e]; exact eA
    have k7 : elm S G 157 this index = r2 := by rw [elm_mk ef1e sA]; exact r2e.symm
    exact r_retR hX hP rfl rfl (by first | exact Or.inl ⟨_, rfl⟩ | exact Or.inr ⟨_, rfl⟩) (by first | decide | omega) (by first | decide | omega) ⟨rfl, rfl, r2, rfl, r2s, (by first | decide | omega)⟩
  · skip
    refine r_aaldN hX hP rfl al_178 rfl sA (by first | decide | omega) (by first | decide | omega) (fun r2 r2e r2n => ?_)
    have r2s : S r2 = 138 := by rw [r2e]; exact eA
    have k8 : elm S G 157 this index = r2 := by rw [elm_mk ef1e sA]; exact r2e.symm
    exact r_retR hX hP rfl rfl (by first | exact Or.inl ⟨_, rfl⟩ | exact Or.inr ⟨_, rfl⟩) (by first | decide | omega) (by first | decide | omega) ⟨rfl, rfl, r2, rfl, r2s, (by first | decide | omega)⟩
set_option maxRecDepth 100000 in
set_option maxHeartbeats 4000000 in
theorem c_get_LpiT (E : En) (S : Sg) (G : Gh) (this : Int) (index : Int) (hS : S this = 157) (sz : Int) (sz_e : sz = G 157 this 2) (index_a : 0 ≤ index) (index_b : index ≤ 59) (pre0 : index + 1 ≤ sz) (ci : CI E S G) : Calls E mJx4a65c_get_915e3 [(2, this), (0, index)] S G 2 0 0 (fun r S' G' => S = S' ∧ G = G' ∧ ∃ z : Int, r = some (2, z) ∧ S z = 138 ∧ z = elm S G 157 this index) := by
  refine calls_by [(0, (2, this)), (1, (0, index))] rfl rfl (Nat.le_of_ble_eq_true rfl) (fun X hX => ?_)
  have hP := hPJx4a65c_get_915e3
  refine r_peekI hX (tl_157 2 rfl (by decide)) hS (fun sz_o sz_oe sz_oa sz_ob => ?_)
  obtain rfl : sz = sz_o := sz_e.trans sz_oe.symm
  refine r_ex hX hP 2 (pc' := 2) (st' := [(2, this), (0, index)]) (lo' := [(0, (2, this)), (1, (0, index))]) rfl ?_
  refine r_getKI hX hP rfl fl_Jx4a65c_48_157 hS (x := sz) sz_e ?_
  refine r_callS gd hX hP rfl cs_Jx4a65c_118 (d' := 1) (mc' := 0) (ms' := 0) (as' := [(0, index), (0, sz)]) (st := []) (by first | decide | omega) (by first | decide | omega) (by first | decide | omega) rfl rfl (Nat.le_of_ble_eq_true rfl) (c_J15_checkIndex_7cf53 E S G index sz (by first | decide | omega) (by first | decide | omega) (by first | decide | omega) (by first | decide | omega) (by first | decide | omega)) ?_
  rintro _ _ _ ⟨rfl, rfl, z1, rfl, z1a, z1b⟩
  refine r_ex hX hP 3 (pc' := 11) (st' := [(0, index), (2, this)]) (lo' := [(0, (2, this)), (1, (0, index))]) rfl ?_
  refine r_callV gd hX hP rfl cv_Jx4a65c_123_157 hS (d' := 0) (mc' := 0) (ms' := 0) (as' := [(0, index)]) (st := []) (by first | decide | omega) (by first | decide | omega) (by first | decide | omega) rfl rfl (Nat.le_of_ble_eq_true rfl) (c_ed_LpiT E S G this index hS sz sz_e (by first | decide | omega) (by first | decide | omega) (by first | decide | omega) ci) ?_
  rintro _ _ _ ⟨rfl, rfl, z2, rfl, z2s, f3⟩
  exact r_retR hX hP rfl rfl (by first | exact Or.inl ⟨_, rfl⟩ | exact Or.inr ⟨_, rfl⟩) (by first | decide | omega) (by first | decide | omega) ⟨rfl, rfl, z2, rfl, z2s, (by first | decide | omega)⟩
set_option maxRecDepth 100000 in
set_option maxHeartbeats 4000000 in
theorem c_ed_LnaT (E : En) (S : Sg) (G : Gh) (this : Int) (index : Int) (hS : S this = 159) (sz : Int) (sz_e : sz = G 159 this 2) (index_a : 0 ≤ index) (index_b : index ≤ 59) (pre0 : index + 1 ≤ sz) (ci : CI E S G) : Calls E mJx4a65c_elementData_915e3 [(2, this), (0, index)] S G 0 0 0 (fun r S' G' => S = S' ∧ G = G' ∧ ∃ z : Int, r = some (2, z) ∧ S z = 141 ∧ z = elm S G 159 this index) := by
  refine calls_by [(0, (2, this)), (1, (0, index))] rfl rfl (Nat.le_of_ble_eq_true rfl) (fun X hX => ?_)
  have hP := hPJx4a65c_elementData_915e3
  refine r_peekI hX (tl_159 2 rfl (by decide)) hS (fun sz_o sz_oe sz_oa sz_ob => ?_)
  obtain rfl : sz = sz_o := sz_e.trans sz_oe.symm
  refine r_ex hX hP 1 (pc' := 1) (st' := [(2, this)]) (lo' := [(0, (2, this)), (1, (0, index))]) rfl ?_
  refine r_get5 hX hP rfl fl_Jx4a65c_9_159 hS (fun ef1 ef1e ef1o => ?_)
  refine r_ex hX hP 1 (pc' := 5) (st' := [(0, index), (2, ef1)]) (lo' := [(0, (2, this)), (1, (0, index))]) rfl ?_
  rcases ci_L5 ci hS ef1e sz_e (i := index) (by first | decide | omega) (by first | decide | omega) with ⟨sA, iA, eA⟩ | ⟨sA, iA, eA⟩ | ⟨sA, iA, eA⟩ | ⟨sA, iA, eA⟩ | ⟨sA, iA, eA⟩ | ⟨sA, iA, eA⟩
  · skip
    refine r_aaldN hX hP rfl al_180 rfl sA (by first | decide | omega) (by first | decide | omega) (fun r2 r2e r2n => ?_)
    have r2s : S r2 = 141 := by rw [r2e]; exact eA
    have k3 : elm S G 159 this index = r2 := by rw [elm_mk ef1e sA]; exact r2e.symm
    exact r_retR hX hP rfl rfl (by first | exact Or.inl ⟨_, rfl⟩ | exact Or.inr ⟨_, rfl⟩) (by first | decide | omega) (by first | decide | omega) ⟨rfl, rfl, r2, rfl, r2s, (by first | decide | omega)⟩
  · skip
    refine r_aaldN hX hP rfl al_181 rfl sA (by first | decide | omega) (by first | decide | omega) (fun r2 r2e r2n => ?_)
    have r2s : S r2 = 141 := by rw [r2e]; exact eA
    have k4 : elm S G 159 this index = r2 := by rw [elm_mk ef1e sA]; exact r2e.symm
    exact r_retR hX hP rfl rfl (by first | exact Or.inl ⟨_, rfl⟩ | exact Or.inr ⟨_, rfl⟩) (by first | decide | omega) (by first | decide | omega) ⟨rfl, rfl, r2, rfl, r2s, (by first | decide | omega)⟩
  · skip
    refine r_aaldN hX hP rfl al_182 rfl sA (by first | decide | omega) (by first | decide | omega) (fun r2 r2e r2n => ?_)
    have r2s : S r2 = 141 := by rw [r2e]; exact eA
    have k5 : elm S G 159 this index = r2 := by rw [elm_mk ef1e sA]; exact r2e.symm
    exact r_retR hX hP rfl rfl (by first | exact Or.inl ⟨_, rfl⟩ | exact Or.inr ⟨_, rfl⟩) (by first | decide | omega) (by first | decide | omega) ⟨rfl, rfl, r2, rfl, r2s, (by first | decide | omega)⟩
  · skip
    refine r_aaldN hX hP rfl al_183 rfl sA (by first | decide | omega) (by first | decide | omega) (fun r2 r2e r2n => ?_)
    have r2s : S r2 = 141 := by rw [r2e]; exact eA
    have k6 : elm S G 159 this index = r2 := by rw [elm_mk ef1e sA]; exact r2e.symm
    exact r_retR hX hP rfl rfl (by first | exact Or.inl ⟨_, rfl⟩ | exact Or.inr ⟨_, rfl⟩) (by first | decide | omega) (by first | decide | omega) ⟨rfl, rfl, r2, rfl, r2s, (by first | decide | omega)⟩
  · skip
    refine r_aaldN hX hP rfl al_184 rfl sA (by first | decide | omega) (by first | decide | omega) (fun r2 r2e r2n => ?_)
    have r2s : S r2 = 141 := by rw [r2e]; exact eA
    have k7 : elm S G 159 this index = r2 := by rw [elm_mk ef1e sA]; exact r2e.symm
    exact r_retR hX hP rfl rfl (by first | exact Or.inl ⟨_, rfl⟩ | exact Or.inr ⟨_, rfl⟩) (by first | decide | omega) (by first | decide | omega) ⟨rfl, rfl, r2, rfl, r2s, (by first | decide | omega)⟩
  · skip
    refine r_aaldN hX hP rfl al_185 rfl sA (by first | decide | omega) (by first | decide | omega) (fun r2 r2e r2n => ?_)
    have r2s : S r2 = 141 := by rw [r2e]; exact eA
    have k8 : elm S G 159 this index = r2 := by rw [elm_mk ef1e sA]; exact r2e.symm
    exact r_retR hX hP rfl rfl (by first | exact Or.inl ⟨_, rfl⟩ | exact Or.inr ⟨_, rfl⟩) (by first | decide | omega) (by first | decide | omega) ⟨rfl, rfl, r2, rfl, r2s, (by first | decide | omega)⟩
set_option maxRecDepth 100000 in
set_option maxHeartbeats 4000000 in
theorem c_get_LnaT (E : En) (S : Sg) (G : Gh) (this : Int) (index : Int) (hS : S this = 159) (sz : Int) (sz_e : sz = G 159 this 2) (index_a : 0 ≤ index) (index_b : index ≤ 59) (pre0 : index + 1 ≤ sz) (ci : CI E S G) : Calls E mJx4a65c_get_915e3 [(2, this), (0, index)] S G 2 0 0 (fun r S' G' => S = S' ∧ G = G' ∧ ∃ z : Int, r = some (2, z) ∧ S z = 141 ∧ z = elm S G 159 this index) := by
  refine calls_by [(0, (2, this)), (1, (0, index))] rfl rfl (Nat.le_of_ble_eq_true rfl) (fun X hX => ?_)
  have hP := hPJx4a65c_get_915e3
  refine r_peekI hX (tl_159 2 rfl (by decide)) hS (fun sz_o sz_oe sz_oa sz_ob => ?_)
  obtain rfl : sz = sz_o := sz_e.trans sz_oe.symm
  refine r_ex hX hP 2 (pc' := 2) (st' := [(2, this), (0, index)]) (lo' := [(0, (2, this)), (1, (0, index))]) rfl ?_
  refine r_getKI hX hP rfl fl_Jx4a65c_48_159 hS (x := sz) sz_e ?_
  refine r_callS gd hX hP rfl cs_Jx4a65c_118 (d' := 1) (mc' := 0) (ms' := 0) (as' := [(0, index), (0, sz)]) (st := []) (by first | decide | omega) (by first | decide | omega) (by first | decide | omega) rfl rfl (Nat.le_of_ble_eq_true rfl) (c_J15_checkIndex_7cf53 E S G index sz (by first | decide | omega) (by first | decide | omega) (by first | decide | omega) (by first | decide | omega) (by first | decide | omega)) ?_
  rintro _ _ _ ⟨rfl, rfl, z1, rfl, z1a, z1b⟩
  refine r_ex hX hP 3 (pc' := 11) (st' := [(0, index), (2, this)]) (lo' := [(0, (2, this)), (1, (0, index))]) rfl ?_
  refine r_callV gd hX hP rfl cv_Jx4a65c_123_159 hS (d' := 0) (mc' := 0) (ms' := 0) (as' := [(0, index)]) (st := []) (by first | decide | omega) (by first | decide | omega) (by first | decide | omega) rfl rfl (Nat.le_of_ble_eq_true rfl) (c_ed_LnaT E S G this index hS sz sz_e (by first | decide | omega) (by first | decide | omega) (by first | decide | omega) ci) ?_
  rintro _ _ _ ⟨rfl, rfl, z2, rfl, z2s, f3⟩
  exact r_retR hX hP rfl rfl (by first | exact Or.inl ⟨_, rfl⟩ | exact Or.inr ⟨_, rfl⟩) (by first | decide | omega) (by first | decide | omega) ⟨rfl, rfl, z2, rfl, z2s, (by first | decide | omega)⟩
set_option maxRecDepth 100000 in
set_option maxHeartbeats 4000000 in
theorem c_ad3_Lis_ET (E : En) (S : Sg) (G : Gh) (this : Int) (e : Int) (elementData : Int) (s : Int) (hS : S this = 154) (e_s : S e = 139) (s_a : 0 ≤ s) (s_b : s ≤ 0) (s_e : s = G 154 this 2) (ed_x : elementData = Ad E 0) (ed_e : Ad E 0 = G 154 this 1) : Calls E mJx4a65c_add_72be8 [(2, this), (2, e), (2, elementData), (0, s)] S G 12 1 10 (fun r S' G' => Gr [160] [(154, 1), (154, 2), (160, -1)] S G S' G' ∧ r = none ∧ LB0 E S' G' this ∧ G' 154 this 2 = s + 1 ∧ (∀ i : Int, 0 ≤ i → i < s → elm S' G' 154 this i = elm S G 154 this i) ∧ elm S' G' 154 this s = e) := by
  refine calls_by [(0, (2, this)), (1, (2, e)), (2, (2, elementData)), (3, (0, s))] rfl rfl (Nat.le_of_ble_eq_true rfl) (fun X hX => ?_)
  have hP := hPJx4a65c_add_72be8
  subst ed_x
  refine r_ex hX hP 2 (pc' := 2) (st' := [(2, (Ad E 0)), (0, s)]) (lo' := [(0, (2, this)), (1, (2, e)), (2, (2, (Ad E 0))), (3, (0, s))]) rfl ?_
  refine r_alenE hX hP rfl ?_
  refine r_ic_ne hX hP rfl (tgt := 11) rfl (by first | decide | omega) (by first | decide | omega) (by first | decide | omega) (by first | decide | omega) (fun c1 => ?_) (fun c1 => ?_)
  · skip
    exfalso; omega
  · skip
    refine r_ex hX hP 1 (pc' := 7) (st' := [(2, this)]) (lo' := [(0, (2, this)), (1, (2, e)), (2, (2, (Ad E 0))), (3, (0, s))]) rfl ?_
    have e2 : 0 = G 154 this 2 := by have e := s_e; omega
    refine r_callV gd hX hP rfl cv_Jx4a65c_129_154 hS (d' := 10) (mc' := 1) (ms' := 10) (as' := []) (st := []) (by first | decide | omega) (by first | decide | omega) (by first | decide | omega) rfl rfl (Nat.le_of_ble_eq_true rfl) (c_gr0_Lis_E E S G this  hS ed_e e2) ?_
    rintro _ S3 G4 ⟨g5, z6, rfl, z6s, q7⟩
    have s8 : S3 this = 154 := gr_lab g5 hS (by decide)
    have s9 : S3 e = 139 := gr_lab g5 e_s (by decide)
    have e10 : s = G4 154 this 2 := gr_val g5 s_e hS (by decide) rfl
    have g11 : Gr [160] [(154, 1), (154, 2), (160, -1)] S G S3 G4 := gr_call (gr_refl [160] [(154, 1), (154, 2), (160, -1)] S G) g5 rfl rfl
    have e12 : z6 = G4 154 this 1 := q7.symm
    refine r_ex hX hP 4 (pc' := 14) (st' := [(2, e), (0, s), (2, z6)]) (lo' := [(0, (2, this)), (1, (2, e)), (2, (2, z6)), (3, (0, s))]) rfl ?_
    refine r_aast hX hP rfl (L := 160) al_160 ck_139_O z6s s9 (by first | decide | omega) (by first | decide | omega) ?_
    refine r_ex hX hP 4 (pc' := 19) (st' := [(0, (s + 1)), (2, this)]) (lo' := [(0, (2, this)), (1, (2, e)), (2, (2, z6)), (3, (0, s))]) rfl ?_
    refine r_putIK hX hP rfl fp_Jx4a65c_48_154 s8 (by first | decide | omega) (by first | decide | omega) (fun h13 => ?_)
    have g14 : Gr [160] [(154, 1), (154, 2), (160, -1)] S G S3 (up (up G4 160 z6 s e) 154 this 2 (s + 1)) := (gr_up (gr_up g11 rfl) rfl)
    exact r_retV hX hP rfl rfl (by first | decide | omega) (by first | decide | omega) ⟨g14, rfl, (Or.inr (Or.inl (lb_mk (G' := (up (up G4 160 z6 s e) 154 this 2 (s + 1))) e12 z6s h13 (by first | decide | omega) (le_store (fun i h0 h1 => by exfalso; omega) s9)))), (h13).symm, (fun i h0 h1 => by exfalso; omega), ((elm_mk (G := (up (up G4 160 z6 s e) 154 this 2 (s + 1))) (i := s) e12 z6s).trans (show (up G4 160 z6 s e) 160 z6 s = e from up_self _ _ _ _ _))⟩
set_option maxRecDepth 100000 in
set_option maxHeartbeats 4000000 in
theorem c_ad3_Lis_0T (E : En) (S : Sg) (G : Gh) (this : Int) (e : Int) (elementData : Int) (s : Int) (hS : S this = 154) (e_s : S e = 139) (elementData_s : S elementData = 160) (s_a : 0 ≤ s) (s_b : s ≤ 10) (s_e : s = G 154 this 2) (ed_e : elementData = G 154 this 1) (els : ∀ i : Int, 0 ≤ i → i < s → S (G 160 elementData i) = 139) : Calls E mJx4a65c_add_72be8 [(2, this), (2, e), (2, elementData), (0, s)] S G 12 1 15 (fun r S' G' => Gr [161] [(154, 1), (154, 2), (160, -1), (161, -1)] S G S' G' ∧ r = none ∧ LB0 E S' G' this ∧ G' 154 this 2 = s + 1 ∧ (∀ i : Int, 0 ≤ i → i < s → elm S' G' 154 this i = elm S G 154 this i) ∧ elm S' G' 154 this s = e) := by
  refine calls_by [(0, (2, this)), (1, (2, e)), (2, (2, elementData)), (3, (0, s))] rfl rfl (Nat.le_of_ble_eq_true rfl) (fun X hX => ?_)
  have hP := hPJx4a65c_add_72be8
  refine r_ex hX hP 2 (pc' := 2) (st' := [(2, elementData), (0, s)]) (lo' := [(0, (2, this)), (1, (2, e)), (2, (2, elementData)), (3, (0, s))]) rfl ?_
  refine r_alen hX hP rfl al_160 elementData_s ?_
  refine r_ic_ne hX hP rfl (tgt := 11) rfl (by first | decide | omega) (by first | decide | omega) (by first | decide | omega) (by first | decide | omega) (fun c1 => ?_) (fun c1 => ?_)
  · skip
    refine r_ex hX hP 3 (pc' := 14) (st' := [(2, e), (0, s), (2, elementData)]) (lo' := [(0, (2, this)), (1, (2, e)), (2, (2, elementData)), (3, (0, s))]) rfl ?_
    refine r_aast hX hP rfl (L := 160) al_160 ck_139_O elementData_s e_s (by first | decide | omega) (by first | decide | omega) ?_
    refine r_ex hX hP 4 (pc' := 19) (st' := [(0, (s + 1)), (2, this)]) (lo' := [(0, (2, this)), (1, (2, e)), (2, (2, elementData)), (3, (0, s))]) rfl ?_
    refine r_putIK hX hP rfl fp_Jx4a65c_48_154 hS (by first | decide | omega) (by first | decide | omega) (fun h2 => ?_)
    have g3 : Gr [161] [(154, 1), (154, 2), (160, -1), (161, -1)] S G S (up (up G 160 elementData s e) 154 this 2 (s + 1)) := (gr_up (gr_up (gr_refl [161] [(154, 1), (154, 2), (160, -1), (161, -1)] S G) rfl) rfl)
    exact r_retV hX hP rfl rfl (by first | decide | omega) (by first | decide | omega) ⟨g3, rfl, (Or.inr (Or.inl (lb_mk (G' := (up (up G 160 elementData s e) 154 this 2 (s + 1))) ed_e elementData_s h2 (by first | decide | omega) (le_store els e_s)))), (h2).symm, (fun i h0 h1 => (elm_mk (G := (up (up G 160 elementData s e) 154 this 2 (s + 1))) (i := i) ed_e elementData_s).trans (((show (up G 160 elementData s e) 160 elementData i = _ from up_ne (fun q => absurd q.2.2 (by first | decide | omega)))).trans (elm_mk (G := G) (i := i) ed_e elementData_s).symm)), ((elm_mk (G := (up (up G 160 elementData s e) 154 this 2 (s + 1))) (i := s) ed_e elementData_s).trans (show (up G 160 elementData s e) 160 elementData s = e from up_self _ _ _ _ _))⟩
  · skip
    refine r_ex hX hP 1 (pc' := 7) (st' := [(2, this)]) (lo' := [(0, (2, this)), (1, (2, e)), (2, (2, elementData)), (3, (0, s))]) rfl ?_
    have e4 : 10 = G 154 this 2 := by have e := s_e; omega
    refine r_callV gd hX hP rfl cv_Jx4a65c_129_154 hS (d' := 10) (mc' := 1) (ms' := 15) (as' := []) (st := []) (by first | decide | omega) (by first | decide | omega) (by first | decide | omega) rfl rfl (Nat.le_of_ble_eq_true rfl) (c_gr0_Lis_0 E S G this  hS elementData ed_e elementData_s e4) ?_
    rintro _ S5 G6 ⟨g7, z8, rfl, z8s, q9, q10⟩
    have s11 : S5 this = 154 := gr_lab g7 hS (by decide)
    have s12 : S5 e = 139 := gr_lab g7 e_s (by decide)
    have s13 : S5 elementData = 160 := gr_lab g7 elementData_s (by decide)
    have e14 : s = G6 154 this 2 := gr_val g7 s_e hS (by decide) rfl
    have g15 : Gr [161] [(154, 1), (154, 2), (160, -1), (161, -1)] S G S5 G6 := gr_call (gr_refl [161] [(154, 1), (154, 2), (160, -1), (161, -1)] S G) g7 rfl rfl
    have e16 : z8 = G6 154 this 1 := q9.symm
    refine r_ex hX hP 4 (pc' := 14) (st' := [(2, e), (0, s), (2, z8)]) (lo' := [(0, (2, this)), (1, (2, e)), (2, (2, z8)), (3, (0, s))]) rfl ?_
    refine r_aast hX hP rfl (L := 161) al_161 ck_139_O z8s s12 (by first | decide | omega) (by first | decide | omega) ?_
    refine r_ex hX hP 4 (pc' := 19) (st' := [(0, (s + 1)), (2, this)]) (lo' := [(0, (2, this)), (1, (2, e)), (2, (2, z8)), (3, (0, s))]) rfl ?_
    refine r_putIK hX hP rfl fp_Jx4a65c_48_154 s11 (by first | decide | omega) (by first | decide | omega) (fun h17 => ?_)
    have g18 : Gr [161] [(154, 1), (154, 2), (160, -1), (161, -1)] S G S5 (up (up G6 161 z8 s e) 154 this 2 (s + 1)) := (gr_up (gr_up g15 rfl) rfl)
    exact r_retV hX hP rfl rfl (by first | decide | omega) (by first | decide | omega) ⟨g18, rfl, (Or.inr (Or.inr (Or.inl (lb_mk (G' := (up (up G6 161 z8 s e) 154 this 2 (s + 1))) e16 z8s h17 (by first | decide | omega) (le_store (fun i h0 h1 => by rw [q10 i h0 (by first | decide | omega)]; exact gr_lab g7 (els i h0 h1) (by decide)) s12))))), (h17).symm, (fun i h0 h1 => (elm_mk (G := (up (up G6 161 z8 s e) 154 this 2 (s + 1))) (i := i) e16 z8s).trans ((((show (up G6 161 z8 s e) 161 z8 i = _ from up_ne (fun q => absurd q.2.2 (by first | decide | omega)))).trans (q10 i h0 (by first | decide | omega))).trans (elm_mk (G := G) (i := i) ed_e elementData_s).symm)), ((elm_mk (G := (up (up G6 161 z8 s e) 154 this 2 (s + 1))) (i := s) e16 z8s).trans (show (up G6 161 z8 s e) 161 z8 s = e from up_self _ _ _ _ _))⟩
set_option maxRecDepth 100000 in
set_option maxHeartbeats 4000000 in
theorem c_ad3_Lis_1T (E : En) (S : Sg) (G : Gh) (this : Int) (e : Int) (elementData : Int) (s : Int) (hS : S this = 154) (e_s : S e = 139) (elementData_s : S elementData = 161) (s_a : 0 ≤ s) (s_b : s ≤ 15) (s_e : s = G 154 this 2) (ed_e : elementData = G 154 this 1) (els : ∀ i : Int, 0 ≤ i → i < s → S (G 161 elementData i) = 139) : Calls E mJx4a65c_add_72be8 [(2, this), (2, e), (2, elementData), (0, s)] S G 12 1 22 (fun r S' G' => Gr [162] [(154, 1), (154, 2), (161, -1), (162, -1)] S G S' G' ∧ r = none ∧ LB0 E S' G' this ∧ G' 154 this 2 = s + 1 ∧ (∀ i : Int, 0 ≤ i → i < s → elm S' G' 154 this i = elm S G 154 this i) ∧ elm S' G' 154 this s = e) := by
  refine calls_by [(0, (2, this)), (1, (2, e)), (2, (2, elementData)), (3, (0, s))] rfl rfl (Nat.le_of_ble_eq_true rfl) (fun X hX => ?_)
  have hP := hPJx4a65c_add_72be8
  refine r_ex hX hP 2 (pc' := 2) (st' := [(2, elementData), (0, s)]) (lo' := [(0, (2, this)), (1, (2, e)), (2, (2, elementData)), (3, (0, s))]) rfl ?_
  refine r_alen hX hP rfl al_161 elementData_s ?_
  refine r_ic_ne hX hP rfl (tgt := 11) rfl (by first | decide | omega) (by first | decide | omega) (by first | decide | omega) (by first | decide | omega) (fun c1 => ?_) (fun c1 => ?_)
  · skip
    refine r_ex hX hP 3 (pc' := 14) (st' := [(2, e), (0, s), (2, elementData)]) (lo' := [(0, (2, this)), (1, (2, e)), (2, (2, elementData)), (3, (0, s))]) rfl ?_
    refine r_aast hX hP rfl (L := 161) al_161 ck_139_O elementData_s e_s (by first | decide | omega) (by first | decide | omega) ?_
    refine r_ex hX hP 4 (pc' := 19) (st' := [(0, (s + 1)), (2, this)]) (lo' := [(0, (2, this)), (1, (2, e)), (2, (2, elementData)), (3, (0, s))]) rfl ?_
    refine r_putIK hX hP rfl fp_Jx4a65c_48_154 hS (by first | decide | omega) (by first | decide | omega) (fun h2 => ?_)
    have g3 : Gr [162] [(154, 1), (154, 2), (161, -1), (162, -1)] S G S (up (up G 161 elementData s e) 154 this 2 (s + 1)) := (gr_up (gr_up (gr_refl [162] [(154, 1), (154, 2), (161, -1), (162, -1)] S G) rfl) rfl)
    exact r_retV hX hP rfl rfl (by first | decide | omega) (by first | decide | omega) ⟨g3, rfl, (Or.inr (Or.inr (Or.inl (lb_mk (G' := (up (up G 161 elementData s e) 154 this 2 (s + 1))) ed_e elementData_s h2 (by first | decide | omega) (le_store els e_s))))), (h2).symm, (fun i h0 h1 => (elm_mk (G := (up (up G 161 elementData s e) 154 this 2 (s + 1))) (i := i) ed_e elementData_s).trans (((show (up G 161 elementData s e) 161 elementData i = _ from up_ne (fun q => absurd q.2.2 (by first | decide | omega)))).trans (elm_mk (G := G) (i := i) ed_e elementData_s).symm)), ((elm_mk (G := (up (up G 161 elementData s e) 154 this 2 (s + 1))) (i := s) ed_e elementData_s).trans (show (up G 161 elementData s e) 161 elementData s = e from up_self _ _ _ _ _))⟩
  · skip
    refine r_ex hX hP 1 (pc' := 7) (st' := [(2, this)]) (lo' := [(0, (2, this)), (1, (2, e)), (2, (2, elementData)), (3, (0, s))]) rfl ?_
    have e4 : 15 = G 154 this 2 := by have e := s_e; omega
    refine r_callV gd hX hP rfl cv_Jx4a65c_129_154 hS (d' := 10) (mc' := 1) (ms' := 22) (as' := []) (st := []) (by first | decide | omega) (by first | decide | omega) (by first | decide | omega) rfl rfl (Nat.le_of_ble_eq_true rfl) (c_gr0_Lis_1 E S G this  hS elementData ed_e elementData_s e4) ?_
    rintro _ S5 G6 ⟨g7, z8, rfl, z8s, q9, q10⟩
    have s11 : S5 this = 154 := gr_lab g7 hS (by decide)
    have s12 : S5 e = 139 := gr_lab g7 e_s (by decide)
    have s13 : S5 elementData = 161 := gr_lab g7 elementData_s (by decide)
    have e14 : s = G6 154 this 2 := gr_val g7 s_e hS (by decide) rfl
    have g15 : Gr [162] [(154, 1), (154, 2), (161, -1), (162, -1)] S G S5 G6 := gr_call (gr_refl [162] [(154, 1), (154, 2), (161, -1), (162, -1)] S G) g7 rfl rfl
    have e16 : z8 = G6 154 this 1 := q9.symm
    refine r_ex hX hP 4 (pc' := 14) (st' := [(2, e), (0, s), (2, z8)]) (lo' := [(0, (2, this)), (1, (2, e)), (2, (2, z8)), (3, (0, s))]) rfl ?_
    refine r_aast hX hP rfl (L := 162) al_162 ck_139_O z8s s12 (by first | decide | omega) (by first | decide | omega) ?_
    refine r_ex hX hP 4 (pc' := 19) (st' := [(0, (s + 1)), (2, this)]) (lo' := [(0, (2, this)), (1, (2, e)), (2, (2, z8)), (3, (0, s))]) rfl ?_
    refine r_putIK hX hP rfl fp_Jx4a65c_48_154 s11 (by first | decide | omega) (by first | decide | omega) (fun h17 => ?_)
    have g18 : Gr [162] [(154, 1), (154, 2), (161, -1), (162, -1)] S G S5 (up (up G6 162 z8 s e) 154 this 2 (s + 1)) := (gr_up (gr_up g15 rfl) rfl)
    exact r_retV hX hP rfl rfl (by first | decide | omega) (by first | decide | omega) ⟨g18, rfl, (Or.inr (Or.inr (Or.inr (Or.inl (lb_mk (G' := (up (up G6 162 z8 s e) 154 this 2 (s + 1))) e16 z8s h17 (by first | decide | omega) (le_store (fun i h0 h1 => by rw [q10 i h0 (by first | decide | omega)]; exact gr_lab g7 (els i h0 h1) (by decide)) s12)))))), (h17).symm, (fun i h0 h1 => (elm_mk (G := (up (up G6 162 z8 s e) 154 this 2 (s + 1))) (i := i) e16 z8s).trans ((((show (up G6 162 z8 s e) 162 z8 i = _ from up_ne (fun q => absurd q.2.2 (by first | decide | omega)))).trans (q10 i h0 (by first | decide | omega))).trans (elm_mk (G := G) (i := i) ed_e elementData_s).symm)), ((elm_mk (G := (up (up G6 162 z8 s e) 154 this 2 (s + 1))) (i := s) e16 z8s).trans (show (up G6 162 z8 s e) 162 z8 s = e from up_self _ _ _ _ _))⟩
set_option maxRecDepth 100000 in
set_option maxHeartbeats 4000000 in
theorem c_ad3_Lis_2T (E : En) (S : Sg) (G : Gh) (this : Int) (e : Int) (elementData : Int) (s : Int) (hS : S this = 154) (e_s : S e = 139) (elementData_s : S elementData = 162) (s_a : 0 ≤ s) (s_b : s ≤ 22) (s_e : s = G 154 this 2) (ed_e : elementData = G 154 this 1) (els : ∀ i : Int, 0 ≤ i → i < s → S (G 162 elementData i) = 139) : Calls E mJx4a65c_add_72be8 [(2, this), (2, e), (2, elementData), (0, s)] S G 12 1 33 (fun r S' G' => Gr [163] [(154, 1), (154, 2), (162, -1), (163, -1)] S G S' G' ∧ r = none ∧ LB0 E S' G' this ∧ G' 154 this 2 = s + 1 ∧ (∀ i : Int, 0 ≤ i → i < s → elm S' G' 154 this i = elm S G 154 this i) ∧ elm S' G' 154 this s = e) := by
  refine calls_by [(0, (2, this)), (1, (2, e)), (2, (2, elementData)), (3, (0, s))] rfl rfl (Nat.le_of_ble_eq_true rfl) (fun X hX => ?_)
  have hP := hPJx4a65c_add_72be8
  refine r_ex hX hP 2 (pc' := 2) (st' := [(2, elementData), (0, s)]) (lo' := [(0, (2, this)), (1, (2, e)), (2, (2, elementData)), (3, (0, s))]) rfl ?_
  refine r_alen hX hP rfl al_162 elementData_s ?_
  refine r_ic_ne hX hP rfl (tgt := 11) rfl (by first | decide | omega) (by first | decide | omega) (by first | decide | omega) (by first | decide | omega) (fun c1 => ?_) (fun c1 => ?_)
  · skip
    refine r_ex hX hP 3 (pc' := 14) (st' := [(2, e), (0, s), (2, elementData)]) (lo' := [(0, (2, this)), (1, (2, e)), (2, (2, elementData)), (3, (0, s))]) rfl ?_
    refine r_aast hX hP rfl (L := 162) al_162 ck_139_O elementData_s e_s (by first | decide | omega) (by first | decide | omega) ?_
    refine r_ex hX hP 4 (pc' := 19) (st' := [(0, (s + 1)), (2, this)]) (lo' := [(0, (2, this)), (1, (2, e)), (2, (2, elementData)), (3, (0, s))]) rfl ?_
    refine r_putIK hX hP rfl fp_Jx4a65c_48_154 hS (by first | decide | omega) (by first | decide | omega) (fun h2 => ?_)
    have g3 : Gr [163] [(154, 1), (154, 2), (162, -1), (163, -1)] S G S (up (up G 162 elementData s e) 154 this 2 (s + 1)) := (gr_up (gr_up (gr_refl [163] [(154, 1), (154, 2), (162, -1), (163, -1)] S G) rfl) rfl)
    exact r_retV hX hP rfl rfl (by first | decide | omega) (by first | decide | omega) ⟨g3, rfl, (Or.inr (Or.inr (Or.inr (Or.inl (lb_mk (G' := (up (up G 162 elementData s e) 154 this 2 (s + 1))) ed_e elementData_s h2 (by first | decide | omega) (le_store els e_s)))))), (h2).symm, (fun i h0 h1 => (elm_mk (G := (up (up G 162 elementData s e) 154 this 2 (s + 1))) (i := i) ed_e elementData_s).trans (((show (up G 162 elementData s e) 162 elementData i = _ from up_ne (fun q => absurd q.2.2 (by first | decide | omega)))).trans (elm_mk (G := G) (i := i) ed_e elementData_s).symm)), ((elm_mk (G := (up (up G 162 elementData s e) 154 this 2 (s + 1))) (i := s) ed_e elementData_s).trans (show (up G 162 elementData s e) 162 elementData s = e from up_self _ _ _ _ _))⟩
  · skip
    refine r_ex hX hP 1 (pc' := 7) (st' := [(2, this)]) (lo' := [(0, (2, this)), (1, (2, e)), (2, (2, elementData)), (3, (0, s))]) rfl ?_
    have e4 : 22 = G 154 this 2 := by have e := s_e; omega
    refine r_callV gd hX hP rfl cv_Jx4a65c_129_154 hS (d' := 10) (mc' := 1) (ms' := 33) (as' := []) (st := []) (by first | decide | omega) (by first | decide | omega) (by first | decide | omega) rfl rfl (Nat.le_of_ble_eq_true rfl) (c_gr0_Lis_2 E S G this  hS elementData ed_e elementData_s e4) ?_
    rintro _ S5 G6 ⟨g7, z8, rfl, z8s, q9, q10⟩
    have s11 : S5 this = 154 := gr_lab g7 hS (by decide)
    have s12 : S5 e = 139 := gr_lab g7 e_s (by decide)
    have s13 : S5 elementData = 162 := gr_lab g7 elementData_s (by decide)
    have e14 : s = G6 154 this 2 := gr_val g7 s_e hS (by decide) rfl
    have g15 : Gr [163] [(154, 1), (154, 2), (162, -1), (163, -1)] S G S5 G6 := gr_call (gr_refl [163] [(154, 1), (154, 2), (162, -1), (163, -1)] S G) g7 rfl rfl
    have e16 : z8 = G6 154 this 1 := q9.symm
    refine r_ex hX hP 4 (pc' := 14) (st' := [(2, e), (0, s), (2, z8)]) (lo' := [(0, (2, this)), (1, (2, e)), (2, (2, z8)), (3, (0, s))]) rfl ?_
    refine r_aast hX hP rfl (L := 163) al_163 ck_139_O z8s s12 (by first | decide | omega) (by first | decide | omega) ?_
    refine r_ex hX hP 4 (pc' := 19) (st' := [(0, (s + 1)), (2, this)]) (lo' := [(0, (2, this)), (1, (2, e)), (2, (2, z8)), (3, (0, s))]) rfl ?_
    refine r_putIK hX hP rfl fp_Jx4a65c_48_154 s11 (by first | decide | omega) (by first | decide | omega) (fun h17 => ?_)
    have g18 : Gr [163] [(154, 1), (154, 2), (162, -1), (163, -1)] S G S5 (up (up G6 163 z8 s e) 154 this 2 (s + 1)) := (gr_up (gr_up g15 rfl) rfl)
    exact r_retV hX hP rfl rfl (by first | decide | omega) (by first | decide | omega) ⟨g18, rfl, (Or.inr (Or.inr (Or.inr (Or.inr (Or.inl (lb_mk (G' := (up (up G6 163 z8 s e) 154 this 2 (s + 1))) e16 z8s h17 (by first | decide | omega) (le_store (fun i h0 h1 => by rw [q10 i h0 (by first | decide | omega)]; exact gr_lab g7 (els i h0 h1) (by decide)) s12))))))), (h17).symm, (fun i h0 h1 => (elm_mk (G := (up (up G6 163 z8 s e) 154 this 2 (s + 1))) (i := i) e16 z8s).trans ((((show (up G6 163 z8 s e) 163 z8 i = _ from up_ne (fun q => absurd q.2.2 (by first | decide | omega)))).trans (q10 i h0 (by first | decide | omega))).trans (elm_mk (G := G) (i := i) ed_e elementData_s).symm)), ((elm_mk (G := (up (up G6 163 z8 s e) 154 this 2 (s + 1))) (i := s) e16 z8s).trans (show (up G6 163 z8 s e) 163 z8 s = e from up_self _ _ _ _ _))⟩
set_option maxRecDepth 100000 in
set_option maxHeartbeats 4000000 in
theorem c_ad3_Lis_3T (E : En) (S : Sg) (G : Gh) (this : Int) (e : Int) (elementData : Int) (s : Int) (hS : S this = 154) (e_s : S e = 139) (elementData_s : S elementData = 163) (s_a : 0 ≤ s) (s_b : s ≤ 33) (s_e : s = G 154 this 2) (ed_e : elementData = G 154 this 1) (els : ∀ i : Int, 0 ≤ i → i < s → S (G 163 elementData i) = 139) : Calls E mJx4a65c_add_72be8 [(2, this), (2, e), (2, elementData), (0, s)] S G 12 1 49 (fun r S' G' => Gr [164] [(154, 1), (154, 2), (163, -1), (164, -1)] S G S' G' ∧ r = none ∧ LB0 E S' G' this ∧ G' 154 this 2 = s + 1 ∧ (∀ i : Int, 0 ≤ i → i < s → elm S' G' 154 this i = elm S G 154 this i) ∧ elm S' G' 154 this s = e) := by
  refine calls_by [(0, (2, this)), (1, (2, e)), (2, (2, elementData)), (3, (0, s))] rfl rfl (Nat.le_of_ble_eq_true rfl) (fun X hX => ?_)
  have hP := hPJx4a65c_add_72be8
  refine r_ex hX hP 2 (pc' := 2) (st' := [(2, elementData), (0, s)]) (lo' := [(0, (2, this)), (1, (2, e)), (2, (2, elementData)), (3, (0, s))]) rfl ?_
  refine r_alen hX hP rfl al_163 elementData_s ?_
  refine r_ic_ne hX hP rfl (tgt := 11) rfl (by first | decide | omega) (by first | decide | omega) (by first | decide | omega) (by first | decide | omega) (fun c1 => ?_) (fun c1 => ?_)
  · skip
    refine r_ex hX hP 3 (pc' := 14) (st' := [(2, e), (0, s), (2, elementData)]) (lo' := [(0, (2, this)), (1, (2, e)), (2, (2, elementData)), (3, (0, s))]) rfl ?_
    refine r_aast hX hP rfl (L := 163) al_163 ck_139_O elementData_s e_s (by first | decide | omega) (by first | decide | omega) ?_
    refine r_ex hX hP 4 (pc' := 19) (st' := [(0, (s + 1)), (2, this)]) (lo' := [(0, (2, this)), (1, (2, e)), (2, (2, elementData)), (3, (0, s))]) rfl ?_
    refine r_putIK hX hP rfl fp_Jx4a65c_48_154 hS (by first | decide | omega) (by first | decide | omega) (fun h2 => ?_)
    have g3 : Gr [164] [(154, 1), (154, 2), (163, -1), (164, -1)] S G S (up (up G 163 elementData s e) 154 this 2 (s + 1)) := (gr_up (gr_up (gr_refl [164] [(154, 1), (154, 2), (163, -1), (164, -1)] S G) rfl) rfl)
    exact r_retV hX hP rfl rfl (by first | decide | omega) (by first | decide | omega) ⟨g3, rfl, (Or.inr (Or.inr (Or.inr (Or.inr (Or.inl (lb_mk (G' := (up (up G 163 elementData s e) 154 this 2 (s + 1))) ed_e elementData_s h2 (by first | decide | omega) (le_store els e_s))))))), (h2).symm, (fun i h0 h1 => (elm_mk (G := (up (up G 163 elementData s e) 154 this 2 (s + 1))) (i := i) ed_e elementData_s).trans (((show (up G 163 elementData s e) 163 elementData i = _ from up_ne (fun q => absurd q.2.2 (by first | decide | omega)))).trans (elm_mk (G := G) (i := i) ed_e elementData_s).symm)), ((elm_mk (G := (up (up G 163 elementData s e) 154 this 2 (s + 1))) (i := s) ed_e elementData_s).trans (show (up G 163 elementData s e) 163 elementData s = e from up_self _ _ _ _ _))⟩
  · skip
    refine r_ex hX hP 1 (pc' := 7) (st' := [(2, this)]) (lo' := [(0, (2, this)), (1, (2, e)), (2, (2, elementData)), (3, (0, s))]) rfl ?_
    have e4 : 33 = G 154 this 2 := by have e := s_e; omega
    refine r_callV gd hX hP rfl cv_Jx4a65c_129_154 hS (d' := 10) (mc' := 1) (ms' := 49) (as' := []) (st := []) (by first | decide | omega) (by first | decide | omega) (by first | decide | omega) rfl rfl (Nat.le_of_ble_eq_true rfl) (c_gr0_Lis_3 E S G this  hS elementData ed_e elementData_s e4) ?_
    rintro _ S5 G6 ⟨g7, z8, rfl, z8s, q9, q10⟩
    have s11 : S5 this = 154 := gr_lab g7 hS (by decide)
    have s12 : S5 e = 139 := gr_lab g7 e_s (by decide)
    have s13 : S5 elementData = 163 := gr_lab g7 elementData_s (by decide)
    have e14 : s = G6 154 this 2 := gr_val g7 s_e hS (by decide) rfl
    have g15 : Gr [164] [(154, 1), (154, 2), (163, -1), (164, -1)] S G S5 G6 := gr_call (gr_refl [164] [(154, 1), (154, 2), (163, -1), (164, -1)] S G) g7 rfl rfl
    have e16 : z8 = G6 154 this 1 := q9.symm
    refine r_ex hX hP 4 (pc' := 14) (st' := [(2, e), (0, s), (2, z8)]) (lo' := [(0, (2, this)), (1, (2, e)), (2, (2, z8)), (3, (0, s))]) rfl ?_
    refine r_aast hX hP rfl (L := 164) al_164 ck_139_O z8s s12 (by first | decide | omega) (by first | decide | omega) ?_
    refine r_ex hX hP 4 (pc' := 19) (st' := [(0, (s + 1)), (2, this)]) (lo' := [(0, (2, this)), (1, (2, e)), (2, (2, z8)), (3, (0, s))]) rfl ?_
    refine r_putIK hX hP rfl fp_Jx4a65c_48_154 s11 (by first | decide | omega) (by first | decide | omega) (fun h17 => ?_)
    have g18 : Gr [164] [(154, 1), (154, 2), (163, -1), (164, -1)] S G S5 (up (up G6 164 z8 s e) 154 this 2 (s + 1)) := (gr_up (gr_up g15 rfl) rfl)
    exact r_retV hX hP rfl rfl (by first | decide | omega) (by first | decide | omega) ⟨g18, rfl, (Or.inr (Or.inr (Or.inr (Or.inr (Or.inr ((lb_mk (G' := (up (up G6 164 z8 s e) 154 this 2 (s + 1))) e16 z8s h17 (by first | decide | omega) (le_store (fun i h0 h1 => by rw [q10 i h0 (by first | decide | omega)]; exact gr_lab g7 (els i h0 h1) (by decide)) s12)))))))), (h17).symm, (fun i h0 h1 => (elm_mk (G := (up (up G6 164 z8 s e) 154 this 2 (s + 1))) (i := i) e16 z8s).trans ((((show (up G6 164 z8 s e) 164 z8 i = _ from up_ne (fun q => absurd q.2.2 (by first | decide | omega)))).trans (q10 i h0 (by first | decide | omega))).trans (elm_mk (G := G) (i := i) ed_e elementData_s).symm)), ((elm_mk (G := (up (up G6 164 z8 s e) 154 this 2 (s + 1))) (i := s) e16 z8s).trans (show (up G6 164 z8 s e) 164 z8 s = e from up_self _ _ _ _ _))⟩
set_option maxRecDepth 100000 in
set_option maxHeartbeats 4000000 in
theorem c_ad3_Lis_4T (E : En) (S : Sg) (G : Gh) (this : Int) (e : Int) (elementData : Int) (s : Int) (hS : S this = 154) (e_s : S e = 139) (elementData_s : S elementData = 164) (s_a : 0 ≤ s) (s_b : s ≤ 39) (s_e : s = G 154 this 2) (ed_e : elementData = G 154 this 1) (els : ∀ i : Int, 0 ≤ i → i < s → S (G 164 elementData i) = 139) : Calls E mJx4a65c_add_72be8 [(2, this), (2, e), (2, elementData), (0, s)] S G 12 0 0 (fun r S' G' => Gr [] [(154, 2), (164, -1)] S G S' G' ∧ r = none ∧ LB0 E S' G' this ∧ G' 154 this 2 = s + 1 ∧ (∀ i : Int, 0 ≤ i → i < s → elm S' G' 154 this i = elm S G 154 this i) ∧ elm S' G' 154 this s = e) := by
  refine calls_by [(0, (2, this)), (1, (2, e)), (2, (2, elementData)), (3, (0, s))] rfl rfl (Nat.le_of_ble_eq_true rfl) (fun X hX => ?_)
  have hP := hPJx4a65c_add_72be8
  refine r_ex hX hP 2 (pc' := 2) (st' := [(2, elementData), (0, s)]) (lo' := [(0, (2, this)), (1, (2, e)), (2, (2, elementData)), (3, (0, s))]) rfl ?_
  refine r_alen hX hP rfl al_164 elementData_s ?_
  refine r_ic_ne hX hP rfl (tgt := 11) rfl (by first | decide | omega) (by first | decide | omega) (by first | decide | omega) (by first | decide | omega) (fun c1 => ?_) (fun c1 => ?_)
  · skip
    refine r_ex hX hP 3 (pc' := 14) (st' := [(2, e), (0, s), (2, elementData)]) (lo' := [(0, (2, this)), (1, (2, e)), (2, (2, elementData)), (3, (0, s))]) rfl ?_
    refine r_aast hX hP rfl (L := 164) al_164 ck_139_O elementData_s e_s (by first | decide | omega) (by first | decide | omega) ?_
    refine r_ex hX hP 4 (pc' := 19) (st' := [(0, (s + 1)), (2, this)]) (lo' := [(0, (2, this)), (1, (2, e)), (2, (2, elementData)), (3, (0, s))]) rfl ?_
    refine r_putIK hX hP rfl fp_Jx4a65c_48_154 hS (by first | decide | omega) (by first | decide | omega) (fun h2 => ?_)
    have g3 : Gr [] [(154, 2), (164, -1)] S G S (up (up G 164 elementData s e) 154 this 2 (s + 1)) := (gr_up (gr_up (gr_refl [] [(154, 2), (164, -1)] S G) rfl) rfl)
    exact r_retV hX hP rfl rfl (by first | decide | omega) (by first | decide | omega) ⟨g3, rfl, (Or.inr (Or.inr (Or.inr (Or.inr (Or.inr ((lb_mk (G' := (up (up G 164 elementData s e) 154 this 2 (s + 1))) ed_e elementData_s h2 (by first | decide | omega) (le_store els e_s)))))))), (h2).symm, (fun i h0 h1 => (elm_mk (G := (up (up G 164 elementData s e) 154 this 2 (s + 1))) (i := i) ed_e elementData_s).trans (((show (up G 164 elementData s e) 164 elementData i = _ from up_ne (fun q => absurd q.2.2 (by first | decide | omega)))).trans (elm_mk (G := G) (i := i) ed_e elementData_s).symm)), ((elm_mk (G := (up (up G 164 elementData s e) 154 this 2 (s + 1))) (i := s) ed_e elementData_s).trans (show (up G 164 elementData s e) 164 elementData s = e from up_self _ _ _ _ _))⟩
  · skip
    exfalso; omega
set_option maxRecDepth 100000 in
set_option maxHeartbeats 4000000 in
theorem c_add_LisT (E : En) (S : Sg) (G : Gh) (this : Int) (e : Int) (hS : S this = 154) (e_s : S e = 139) (sz : Int) (sz_e : sz = G 154 this 2) (pre0 : sz + 1 ≤ 40) (ci : CI E S G) : Calls E mJx4a65c_add_9ea2d [(2, this), (2, e)] S G 14 1 49 (fun r S' G' => Gr [160, 161, 162, 163, 164] [(154, 0), (154, 1), (154, 2), (160, -1), (161, -1), (162, -1), (163, -1), (164, -1)] S G S' G' ∧ ∃ z : Int, r = some (0, z) ∧ 1 ≤ z ∧ z ≤ 1 ∧ CI E S' G' ∧ G' 154 this 2 = sz + 1 ∧ (∀ i : Int, 0 ≤ i → i < sz → elm S' G' 154 this i = elm S G 154 this i) ∧ elm S' G' 154 this sz = e) := by
  refine calls_by [(0, (2, this)), (1, (2, e))] rfl rfl (Nat.le_of_ble_eq_true rfl) (fun X hX => ?_)
  have hP := hPJx4a65c_add_9ea2d
  refine r_peekI hX (tl_154 2 rfl (by decide)) hS (fun sz_o sz_oe sz_oa sz_ob => ?_)
  obtain rfl : sz = sz_o := sz_e.trans sz_oe.symm
  refine r_tk hX (fun tk0 => ?_)
  refine r_ex hX hP 2 (pc' := 2) (st' := [(2, this), (2, this)]) (lo' := [(0, (2, this)), (1, (2, e))]) rfl ?_
  refine r_getUI hX hP rfl fu_154 hS (fun mf1 mf1e mf1a mf1b => ?_)
  refine r_ex hX hP 2 (pc' := 7) (st' := [(0, (mf1 + 1)), (2, this)]) (lo' := [(0, (2, this)), (1, (2, e))]) rfl ?_
  refine r_hvI hX (fun w2 w2a w2b w2e => ?_)
  refine r_putUI hX hP rfl fu_154 hS (by first | decide | omega) (by first | decide | omega) ?_
  refine r_ex hX hP 3 (pc' := 13) (st' := [(2, this), (2, e), (2, this)]) (lo' := [(0, (2, this)), (1, (2, e))]) rfl ?_
  refine r_get5 hX hP rfl fl_Jx4a65c_9_154 hS (fun ef3 ef3e ef3o => ?_)
  refine r_ex hX hP 1 (pc' := 17) (st' := [(2, this), (2, ef3), (2, e), (2, this)]) (lo' := [(0, (2, this)), (1, (2, e))]) rfl ?_
  refine r_getKI hX hP rfl fl_Jx4a65c_48_154 hS (x := sz) sz_e ?_
  rcases ci.2.1 this hS with ⟨q1, q2⟩ | ⟨q1, q2, q3⟩ | ⟨q1, q2, q3⟩ | ⟨q1, q2, q3⟩ | ⟨q1, q2, q3⟩ | ⟨q1, q2, q3⟩
  · skip
    obtain rfl : ef3 = Ad E 0 := ef3e.trans q1
    have q2 : sz = 0 := sz_e.trans q2
    have g4 : Gr [160, 161, 162, 163, 164] [(154, 0), (154, 1), (154, 2), (160, -1), (161, -1), (162, -1), (163, -1), (164, -1)] S G S (up G 154 this 0 w2) := (gr_up (gr_refl [160, 161, 162, 163, 164] [(154, 0), (154, 1), (154, 2), (160, -1), (161, -1), (162, -1), (163, -1), (164, -1)] S G) rfl)
    refine r_callV gd hX hP rfl cv_Jx4a65c_131_154 hS (d' := 12) (mc' := 1) (ms' := 10) (as' := [(2, e), (2, (Ad E 0)), (0, sz)]) (st := []) (by first | decide | omega) (by first | decide | omega) (by first | decide | omega) rfl rfl (Nat.le_of_ble_eq_true rfl) (c_ad3_Lis_ET E S (up G 154 this 0 w2) this e (Ad E 0) sz hS e_s (by first | decide | omega) (by first | decide | omega) sz_e rfl ef3e) ?_
    rintro _ S5 G6 ⟨g7, rfl, q8, q9, q10, q11⟩
    have s12 : S5 this = 154 := gr_lab g7 hS (by decide)
    have s13 : S5 e = 139 := gr_lab g7 e_s (by decide)
    have g14 : Gr [160, 161, 162, 163, 164] [(154, 0), (154, 1), (154, 2), (160, -1), (161, -1), (162, -1), (163, -1), (164, -1)] S G S5 G6 := gr_call g4 g7 rfl rfl
    refine r_ex hX hP 1 (pc' := 24) (st' := [(0, 1)]) (lo' := [(0, (2, this)), (1, (2, e))]) rfl ?_
    exact r_retZ hX hP rfl rfl (by first | decide | omega) (by first | decide | omega) (by first | decide | omega) (by first | decide | omega) ⟨g14, 1, rfl, (by first | decide | omega), (by first | decide | omega), (ci_ad0 ci tk0 g14 rfl rfl hS q8 (by have e := q9; omega)), q9, (fun i h0 h1 => by exfalso; omega), q11⟩
  · skip
    have qs : S ef3 = 160 := by rw [ef3e]; exact q1
    have q2 : sz ≤ 10 := by rw [sz_e]; exact q2
    have q3 : ∀ i : Int, 0 ≤ i → i < sz → S (G 160 ef3 i) = 139 := by rw [sz_e, ef3e]; exact q3
    have g15 : Gr [160, 161, 162, 163, 164] [(154, 0), (154, 1), (154, 2), (160, -1), (161, -1), (162, -1), (163, -1), (164, -1)] S G S (up G 154 this 0 w2) := (gr_up (gr_refl [160, 161, 162, 163, 164] [(154, 0), (154, 1), (154, 2), (160, -1), (161, -1), (162, -1), (163, -1), (164, -1)] S G) rfl)
    refine r_callV gd hX hP rfl cv_Jx4a65c_131_154 hS (d' := 12) (mc' := 1) (ms' := 15) (as' := [(2, e), (2, ef3), (0, sz)]) (st := []) (by first | decide | omega) (by first | decide | omega) (by first | decide | omega) rfl rfl (Nat.le_of_ble_eq_true rfl) (c_ad3_Lis_0T E S (up G 154 this 0 w2) this e ef3 sz hS e_s qs (by first | decide | omega) (by first | decide | omega) sz_e ef3e q3) ?_
    rintro _ S16 G17 ⟨g18, rfl, q19, q20, q21, q22⟩
    have s23 : S16 this = 154 := gr_lab g18 hS (by decide)
    have s24 : S16 e = 139 := gr_lab g18 e_s (by decide)
    have s25 : S16 ef3 = 160 := gr_lab g18 qs (by decide)
    have g26 : Gr [160, 161, 162, 163, 164] [(154, 0), (154, 1), (154, 2), (160, -1), (161, -1), (162, -1), (163, -1), (164, -1)] S G S16 G17 := gr_call g15 g18 rfl rfl
    refine r_ex hX hP 1 (pc' := 24) (st' := [(0, 1)]) (lo' := [(0, (2, this)), (1, (2, e))]) rfl ?_
    exact r_retZ hX hP rfl rfl (by first | decide | omega) (by first | decide | omega) (by first | decide | omega) (by first | decide | omega) ⟨g26, 1, rfl, (by first | decide | omega), (by first | decide | omega), (ci_ad0 ci tk0 g26 rfl rfl hS q19 (by have e := q20; omega)), q20, (fun i h0 h1 => (q21 i h0 h1).trans (elm_up (by decide) (by first | decide | omega))), q22⟩
  · skip
    have qs : S ef3 = 161 := by rw [ef3e]; exact q1
    have q2 : sz ≤ 15 := by rw [sz_e]; exact q2
    have q3 : ∀ i : Int, 0 ≤ i → i < sz → S (G 161 ef3 i) = 139 := by rw [sz_e, ef3e]; exact q3
    have g27 : Gr [160, 161, 162, 163, 164] [(154, 0), (154, 1), (154, 2), (160, -1), (161, -1), (162, -1), (163, -1), (164, -1)] S G S (up G 154 this 0 w2) := (gr_up (gr_refl [160, 161, 162, 163, 164] [(154, 0), (154, 1), (154, 2), (160, -1), (161, -1), (162, -1), (163, -1), (164, -1)] S G) rfl)
    refine r_callV gd hX hP rfl cv_Jx4a65c_131_154 hS (d' := 12) (mc' := 1) (ms' := 22) (as' := [(2, e), (2, ef3), (0, sz)]) (st := []) (by first | decide | omega) (by first | decide | omega) (by first | decide | omega) rfl rfl (Nat.le_of_ble_eq_true rfl) (c_ad3_Lis_1T E S (up G 154 this 0 w2) this e ef3 sz hS e_s qs (by first | decide | omega) (by first | decide | omega) sz_e ef3e q3) ?_
    rintro _ S28 G29 ⟨g30, rfl, q31, q32, q33, q34⟩
    have s35 : S28 this = 154 := gr_lab g30 hS (by decide)
    have s36 : S28 e = 139 := gr_lab g30 e_s (by decide)
    have s37 : S28 ef3 = 161 := gr_lab g30 qs (by decide)
    have g38 : Gr [160, 161, 162, 163, 164] [(154, 0), (154, 1), (154, 2), (160, -1), (161, -1), (162, -1), (163, -1), (164, -1)] S G S28 G29 := gr_call g27 g30 rfl rfl
    refine r_ex hX hP 1 (pc' := 24) (st' := [(0, 1)]) (lo' := [(0, (2, this)), (1, (2, e))]) rfl ?_
    exact r_retZ hX hP rfl rfl (by first | decide | omega) (by first | decide | omega) (by first | decide | omega) (by first | decide | omega) ⟨g38, 1, rfl, (by first | decide | omega), (by first | decide | omega), (ci_ad0 ci tk0 g38 rfl rfl hS q31 (by have e := q32; omega)), q32, (fun i h0 h1 => (q33 i h0 h1).trans (elm_up (by decide) (by first | decide | omega))), q34⟩
  · skip
    have qs : S ef3 = 162 := by rw [ef3e]; exact q1
    have q2 : sz ≤ 22 := by rw [sz_e]; exact q2
    have q3 : ∀ i : Int, 0 ≤ i → i < sz → S (G 162 ef3 i) = 139 := by rw [sz_e, ef3e]; exact q3
    have g39 : Gr [160, 161, 162, 163, 164] [(154, 0), (154, 1), (154, 2), (160, -1), (161, -1), (162, -1), (163, -1), (164, -1)] S G S (up G 154 this 0 w2) := (gr_up (gr_refl [160, 161, 162, 163, 164] [(154, 0), (154, 1), (154, 2), (160, -1), (161, -1), (162, -1), (163, -1), (164, -1)] S G) rfl)
    refine r_callV gd hX hP rfl cv_Jx4a65c_131_154 hS (d' := 12) (mc' := 1) (ms' := 33) (as' := [(2, e), (2, ef3), (0, sz)]) (st := []) (by first | decide | omega) (by first | decide | omega) (by first | decide | omega) rfl rfl (Nat.le_of_ble_eq_true rfl) (c_ad3_Lis_2T E S (up G 154 this 0 w2) this e ef3 sz hS e_s qs (by first | decide | omega) (by first | decide | omega) sz_e ef3e q3) ?_
    rintro _ S40 G41 ⟨g42, rfl, q43, q44, q45, q46⟩
    have s47 : S40 this = 154 := gr_lab g42 hS (by decide)
    have s48 : S40 e = 139 := gr_lab g42 e_s (by decide)
    have s49 : S40 ef3 = 162 := gr_lab g42 qs (by decide)
    have g50 : Gr [160, 161, 162, 163, 164] [(154, 0), (154, 1), (154, 2), (160, -1), (161, -1), (162, -1), (163, -1), (164, -1)] S G S40 G41 := gr_call g39 g42 rfl rfl
    refine r_ex hX hP 1 (pc' := 24) (st' := [(0, 1)]) (lo' := [(0, (2, this)), (1, (2, e))]) rfl ?_
    exact r_retZ hX hP rfl rfl (by first | decide | omega) (by first | decide | omega) (by first | decide | omega) (by first | decide | omega) ⟨g50, 1, rfl, (by first | decide | omega), (by first | decide | omega), (ci_ad0 ci tk0 g50 rfl rfl hS q43 (by have e := q44; omega)), q44, (fun i h0 h1 => (q45 i h0 h1).trans (elm_up (by decide) (by first | decide | omega))), q46⟩
  · skip
    have qs : S ef3 = 163 := by rw [ef3e]; exact q1
    have q2 : sz ≤ 33 := by rw [sz_e]; exact q2
    have q3 : ∀ i : Int, 0 ≤ i → i < sz → S (G 163 ef3 i) = 139 := by rw [sz_e, ef3e]; exact q3
    have g51 : Gr [160, 161, 162, 163, 164] [(154, 0), (154, 1), (154, 2), (160, -1), (161, -1), (162, -1), (163, -1), (164, -1)] S G S (up G 154 this 0 w2) := (gr_up (gr_refl [160, 161, 162, 163, 164] [(154, 0), (154, 1), (154, 2), (160, -1), (161, -1), (162, -1), (163, -1), (164, -1)] S G) rfl)
    refine r_callV gd hX hP rfl cv_Jx4a65c_131_154 hS (d' := 12) (mc' := 1) (ms' := 49) (as' := [(2, e), (2, ef3), (0, sz)]) (st := []) (by first | decide | omega) (by first | decide | omega) (by first | decide | omega) rfl rfl (Nat.le_of_ble_eq_true rfl) (c_ad3_Lis_3T E S (up G 154 this 0 w2) this e ef3 sz hS e_s qs (by first | decide | omega) (by first | decide | omega) sz_e ef3e q3) ?_
    rintro _ S52 G53 ⟨g54, rfl, q55, q56, q57, q58⟩
    have s59 : S52 this = 154 := gr_lab g54 hS (by decide)
    have s60 : S52 e = 139 := gr_lab g54 e_s (by decide)
    have s61 : S52 ef3 = 163 := gr_lab g54 qs (by decide)
    have g62 : Gr [160, 161, 162, 163, 164] [(154, 0), (154, 1), (154, 2), (160, -1), (161, -1), (162, -1), (163, -1), (164, -1)] S G S52 G53 := gr_call g51 g54 rfl rfl
    refine r_ex hX hP 1 (pc' := 24) (st' := [(0, 1)]) (lo' := [(0, (2, this)), (1, (2, e))]) rfl ?_
    exact r_retZ hX hP rfl rfl (by first | decide | omega) (by first | decide | omega) (by first | decide | omega) (by first | decide | omega) ⟨g62, 1, rfl, (by first | decide | omega), (by first | decide | omega), (ci_ad0 ci tk0 g62 rfl rfl hS q55 (by have e := q56; omega)), q56, (fun i h0 h1 => (q57 i h0 h1).trans (elm_up (by decide) (by first | decide | omega))), q58⟩
  · skip
    have qs : S ef3 = 164 := by rw [ef3e]; exact q1
    have q2 : sz ≤ 49 := by rw [sz_e]; exact q2
    have q3 : ∀ i : Int, 0 ≤ i → i < sz → S (G 164 ef3 i) = 139 := by rw [sz_e, ef3e]; exact q3
    have g63 : Gr [160, 161, 162, 163, 164] [(154, 0), (154, 1), (154, 2), (160, -1), (161, -1), (162, -1), (163, -1), (164, -1)] S G S (up G 154 this 0 w2) := (gr_up (gr_refl [160, 161, 162, 163, 164] [(154, 0), (154, 1), (154, 2), (160, -1), (161, -1), (162, -1), (163, -1), (164, -1)] S G) rfl)
    refine r_callV gd hX hP rfl cv_Jx4a65c_131_154 hS (d' := 12) (mc' := 0) (ms' := 0) (as' := [(2, e), (2, ef3), (0, sz)]) (st := []) (by first | decide | omega) (by first | decide | omega) (by first | decide | omega) rfl rfl (Nat.le_of_ble_eq_true rfl) (c_ad3_Lis_4T E S (up G 154 this 0 w2) this e ef3 sz hS e_s qs (by first | decide | omega) (by first | decide | omega) sz_e ef3e q3) ?_
    rintro _ S64 G65 ⟨g66, rfl, q67, q68, q69, q70⟩
    have s71 : S64 this = 154 := gr_lab g66 hS (by decide)
    have s72 : S64 e = 139 := gr_lab g66 e_s (by decide)
    have s73 : S64 ef3 = 164 := gr_lab g66 qs (by decide)
    have e74 : ef3 = G65 154 this 1 := gr_val g66 ef3e hS (by decide) rfl
    have g75 : Gr [160, 161, 162, 163, 164] [(154, 0), (154, 1), (154, 2), (160, -1), (161, -1), (162, -1), (163, -1), (164, -1)] S G S64 G65 := gr_call g63 g66 rfl rfl
    refine r_ex hX hP 1 (pc' := 24) (st' := [(0, 1)]) (lo' := [(0, (2, this)), (1, (2, e))]) rfl ?_
    exact r_retZ hX hP rfl rfl (by first | decide | omega) (by first | decide | omega) (by first | decide | omega) (by first | decide | omega) ⟨g75, 1, rfl, (by first | decide | omega), (by first | decide | omega), (ci_ad0 ci tk0 g75 rfl rfl hS q67 (by have e := q68; omega)), q68, (fun i h0 h1 => (q69 i h0 h1).trans (elm_up (by decide) (by first | decide | omega))), q70⟩
set_option maxRecDepth 100000 in
set_option maxHeartbeats 4000000 in
theorem c_ad3_Ltr_ET (E : En) (S : Sg) (G : Gh) (this : Int) (e : Int) (elementData : Int) (s : Int) (hS : S this = 155) (e_s : S e = 140) (s_a : 0 ≤ s) (s_b : s ≤ 0) (s_e : s = G 155 this 2) (ed_x : elementData = Ad E 0) (ed_e : Ad E 0 = G 155 this 1) : Calls E mJx4a65c_add_72be8 [(2, this), (2, e), (2, elementData), (0, s)] S G 12 1 10 (fun r S' G' => Gr [165] [(155, 1), (155, 2), (165, -1)] S G S' G' ∧ r = none ∧ LB1 E S' G' this ∧ G' 155 this 2 = s + 1 ∧ (∀ i : Int, 0 ≤ i → i < s → elm S' G' 155 this i = elm S G 155 this i) ∧ elm S' G' 155 this s = e) := by
  refine calls_by [(0, (2, this)), (1, (2, e)), (2, (2, elementData)), (3, (0, s))] rfl rfl (Nat.le_of_ble_eq_true rfl) (fun X hX => ?_)
  have hP := hPJx4a65c_add_72be8
  subst ed_x
  refine r_ex hX hP 2 (pc' := 2) (st' := [(2, (Ad E 0)), (0, s)]) (lo' := [(0, (2, this)), (1, (2, e)), (2, (2, (Ad E 0))), (3, (0, s))]) rfl ?_
  refine r_alenE hX hP rfl ?_
  refine r_ic_ne hX hP rfl (tgt := 11) rfl (by first | decide | omega) (by first | decide | omega) (by first | decide | omega) (by first | decide | omega) (fun c1 => ?_) (fun c1 => ?_)
  · skip
    exfalso; omega
  · skip
    refine r_ex hX hP 1 (pc' := 7) (st' := [(2, this)]) (lo' := [(0, (2, this)), (1, (2, e)), (2, (2, (Ad E 0))), (3, (0, s))]) rfl ?_
    have e2 : 0 = G 155 this 2 := by have e := s_e; omega
    refine r_callV gd hX hP rfl cv_Jx4a65c_129_155 hS (d' := 10) (mc' := 1) (ms' := 10) (as' := []) (st := []) (by first | decide | omega) (by first | decide | omega) (by first | decide | omega) rfl rfl (Nat.le_of_ble_eq_true rfl) (c_gr0_Ltr_E E S G this  hS ed_e e2) ?_
    rintro _ S3 G4 ⟨g5, z6, rfl, z6s, q7⟩
    have s8 : S3 this = 155 := gr_lab g5 hS (by decide)
    have s9 : S3 e = 140 := gr_lab g5 e_s (by decide)
    have e10 : s = G4 155 this 2 := gr_val g5 s_e hS (by decide) rfl
    have g11 : Gr [165] [(155, 1), (155, 2), (165, -1)] S G S3 G4 := gr_call (gr_refl [165] [(155, 1), (155, 2), (165, -1)] S G) g5 rfl rfl
    have e12 : z6 = G4 155 this 1 := q7.symm
    refine r_ex hX hP 4 (pc' := 14) (st' := [(2, e), (0, s), (2, z6)]) (lo' := [(0, (2, this)), (1, (2, e)), (2, (2, z6)), (3, (0, s))]) rfl ?_
    refine r_aast hX hP rfl (L := 165) al_165 ck_140_O z6s s9 (by first | decide | omega) (by first | decide | omega) ?_
    refine r_ex hX hP 4 (pc' := 19) (st' := [(0, (s + 1)), (2, this)]) (lo' := [(0, (2, this)), (1, (2, e)), (2, (2, z6)), (3, (0, s))]) rfl ?_
    refine r_putIK hX hP rfl fp_Jx4a65c_48_155 s8 (by first | decide | omega) (by first | decide | omega) (fun h13 => ?_)
    have g14 : Gr [165] [(155, 1), (155, 2), (165, -1)] S G S3 (up (up G4 165 z6 s e) 155 this 2 (s + 1)) := (gr_up (gr_up g11 rfl) rfl)
    exact r_retV hX hP rfl rfl (by first | decide | omega) (by first | decide | omega) ⟨g14, rfl, (Or.inr (Or.inl (lb_mk (G' := (up (up G4 165 z6 s e) 155 this 2 (s + 1))) e12 z6s h13 (by first | decide | omega) (le_store (fun i h0 h1 => by exfalso; omega) s9)))), (h13).symm, (fun i h0 h1 => by exfalso; omega), ((elm_mk (G := (up (up G4 165 z6 s e) 155 this 2 (s + 1))) (i := s) e12 z6s).trans (show (up G4 165 z6 s e) 165 z6 s = e from up_self _ _ _ _ _))⟩
set_option maxRecDepth 100000 in
set_option maxHeartbeats 4000000 in
theorem c_ad3_Ltr_0T (E : En) (S : Sg) (G : Gh) (this : Int) (e : Int) (elementData : Int) (s : Int) (hS : S this = 155) (e_s : S e = 140) (elementData_s : S elementData = 165) (s_a : 0 ≤ s) (s_b : s ≤ 10) (s_e : s = G 155 this 2) (ed_e : elementData = G 155 this 1) (els : ∀ i : Int, 0 ≤ i → i < s → S (G 165 elementData i) = 140) : Calls E mJx4a65c_add_72be8 [(2, this), (2, e), (2, elementData), (0, s)] S G 12 1 15 (fun r S' G' => Gr [166] [(155, 1), (155, 2), (165, -1), (166, -1)] S G S' G' ∧ r = none ∧ LB1 E S' G' this ∧ G' 155 this 2 = s + 1 ∧ (∀ i : Int, 0 ≤ i → i < s → elm S' G' 155 this i = elm S G 155 this i) ∧ elm S' G' 155 this s = e) := by
  refine calls_by [(0, (2, this)), (1, (2, e)), (2, (2, elementData)), (3, (0, s))] rfl rfl (Nat.le_of_ble_eq_true rfl) (fun X hX => ?_)
  have hP := hPJx4a65c_add_72be8
  refine r_ex hX hP 2 (pc' := 2) (st' := [(2, elementData), (0, s)]) (lo' := [(0, (2, this)), (1, (2, e)), (2, (2, elementData)), (3, (0, s))]) rfl ?_
  refine r_alen hX hP rfl al_165 elementData_s ?_
  refine r_ic_ne hX hP rfl (tgt := 11) rfl (by first | decide | omega) (by first | decide | omega) (by first | decide | omega) (by first | decide | omega) (fun c1 => ?_) (fun c1 => ?_)
  · skip
    refine r_ex hX hP 3 (pc' := 14) (st' := [(2, e), (0, s), (2, elementData)]) (lo' := [(0, (2, this)), (1, (2, e)), (2, (2, elementData)), (3, (0, s))]) rfl ?_
    refine r_aast hX hP rfl (L := 165) al_165 ck_140_O elementData_s e_s (by first | decide | omega) (by first | decide | omega) ?_
    refine r_ex hX hP 4 (pc' := 19) (st' := [(0, (s + 1)), (2, this)]) (lo' := [(0, (2, this)), (1, (2, e)), (2, (2, elementData)), (3, (0, s))]) rfl ?_
    refine r_putIK hX hP rfl fp_Jx4a65c_48_155 hS (by first | decide | omega) (by first | decide | omega) (fun h2 => ?_)
    have g3 : Gr [166] [(155, 1), (155, 2), (165, -1), (166, -1)] S G S (up (up G 165 elementData s e) 155 this 2 (s + 1)) := (gr_up (gr_up (gr_refl [166] [(155, 1), (155, 2), (165, -1), (166, -1)] S G) rfl) rfl)
    exact r_retV hX hP rfl rfl (by first | decide | omega) (by first | decide | omega) ⟨g3, rfl, (Or.inr (Or.inl (lb_mk (G' := (up (up G 165 elementData s e) 155 this 2 (s + 1))) ed_e elementData_s h2 (by first | decide | omega) (le_store els e_s)))), (h2).symm, (fun i h0 h1 => (elm_mk (G := (up (up G 165 elementData s e) 155 this 2 (s + 1))) (i := i) ed_e elementData_s).trans (((show (up G 165 elementData s e) 165 elementData i = _ from up_ne (fun q => absurd q.2.2 (by first | decide | omega)))).trans (elm_mk (G := G) (i := i) ed_e elementData_s).symm)), ((elm_mk (G := (up (up G 165 elementData s e) 155 this 2 (s + 1))) (i := s) ed_e elementData_s).trans (show (up G 165 elementData s e) 165 elementData s = e from up_self _ _ _ _ _))⟩
  · skip
    refine r_ex hX hP 1 (pc' := 7) (st' := [(2, this)]) (lo' := [(0, (2, this)), (1, (2, e)), (2, (2, elementData)), (3, (0, s))]) rfl ?_
    have e4 : 10 = G 155 this 2 := by have e := s_e; omega
    refine r_callV gd hX hP rfl cv_Jx4a65c_129_155 hS (d' := 10) (mc' := 1) (ms' := 15) (as' := []) (st := []) (by first | decide | omega) (by first | decide | omega) (by first | decide | omega) rfl rfl (Nat.le_of_ble_eq_true rfl) (c_gr0_Ltr_0 E S G this  hS elementData ed_e elementData_s e4) ?_
    rintro _ S5 G6 ⟨g7, z8, rfl, z8s, q9, q10⟩
    have s11 : S5 this = 155 := gr_lab g7 hS (by decide)
    have s12 : S5 e = 140 := gr_lab g7 e_s (by decide)
    have s13 : S5 elementData = 165 := gr_lab g7 elementData_s (by decide)
    have e14 : s = G6 155 this 2 := gr_val g7 s_e hS (by decide) rfl
    have g15 : Gr [166] [(155, 1), (155, 2), (165, -1), (166, -1)] S G S5 G6 := gr_call (gr_refl [166] [(155, 1), (155, 2), (165, -1), (166, -1)] S G) g7 rfl rfl
    have e16 : z8 = G6 155 this 1 := q9.symm
    refine r_ex hX hP 4 (pc' := 14) (st' := [(2, e), (0, s), (2, z8)]) (lo' := [(0, (2, this)), (1, (2, e)), (2, (2, z8)), (3, (0, s))]) rfl ?_
    refine r_aast hX hP rfl (L := 166) al_166 ck_140_O z8s s12 (by first | decide | omega) (by first | decide | omega) ?_
    refine r_ex hX hP 4 (pc' := 19) (st' := [(0, (s + 1)), (2, this)]) (lo' := [(0, (2, this)), (1, (2, e)), (2, (2, z8)), (3, (0, s))]) rfl ?_
    refine r_putIK hX hP rfl fp_Jx4a65c_48_155 s11 (by first | decide | omega) (by first | decide | omega) (fun h17 => ?_)
    have g18 : Gr [166] [(155, 1), (155, 2), (165, -1), (166, -1)] S G S5 (up (up G6 166 z8 s e) 155 this 2 (s + 1)) := (gr_up (gr_up g15 rfl) rfl)
    exact r_retV hX hP rfl rfl (by first | decide | omega) (by first | decide | omega) ⟨g18, rfl, (Or.inr (Or.inr (Or.inl (lb_mk (G' := (up (up G6 166 z8 s e) 155 this 2 (s + 1))) e16 z8s h17 (by first | decide | omega) (le_store (fun i h0 h1 => by rw [q10 i h0 (by first | decide | omega)]; exact gr_lab g7 (els i h0 h1) (by decide)) s12))))), (h17).symm, (fun i h0 h1 => (elm_mk (G := (up (up G6 166 z8 s e) 155 this 2 (s + 1))) (i := i) e16 z8s).trans ((((show (up G6 166 z8 s e) 166 z8 i = _ from up_ne (fun q => absurd q.2.2 (by first | decide | omega)))).trans (q10 i h0 (by first | decide | omega))).trans (elm_mk (G := G) (i := i) ed_e elementData_s).symm)), ((elm_mk (G := (up (up G6 166 z8 s e) 155 this 2 (s + 1))) (i := s) e16 z8s).trans (show (up G6 166 z8 s e) 166 z8 s = e from up_self _ _ _ _ _))⟩
set_option maxRecDepth 100000 in
set_option maxHeartbeats 4000000 in
theorem c_ad3_Ltr_1T (E : En) (S : Sg) (G : Gh) (this : Int) (e : Int) (elementData : Int) (s : Int) (hS : S this = 155) (e_s : S e = 140) (elementData_s : S elementData = 166) (s_a : 0 ≤ s) (s_b : s ≤ 15) (s_e : s = G 155 this 2) (ed_e : elementData = G 155 this 1) (els : ∀ i : Int, 0 ≤ i → i < s → S (G 166 elementData i) = 140) : Calls E mJx4a65c_add_72be8 [(2, this), (2, e), (2, elementData), (0, s)] S G 12 1 22 (fun r S' G' => Gr [167] [(155, 1), (155, 2), (166, -1), (167, -1)] S G S' G' ∧ r = none ∧ LB1 E S' G' this ∧ G' 155 this 2 = s + 1 ∧ (∀ i : Int, 0 ≤ i → i < s → elm S' G' 155 this i = elm S G 155 this i) ∧ elm S' G' 155 this s = e) := by
  refine calls_by [(0, (2, this)), (1, (2, e)), (2, (2, elementData)), (3, (0, s))] rfl rfl (Nat.le_of_ble_eq_true rfl) (fun X hX => ?_)
  have hP := hPJx4a65c_add_72be8
  refine r_ex hX hP 2 (pc' := 2) (st' := [(2, elementData), (0, s)]) (lo' := [(0, (2, this)), (1, (2, e)), (2, (2, elementData)), (3, (0, s))]) rfl ?_
  refine r_alen hX hP rfl al_166 elementData_s ?_
  refine r_ic_ne hX hP rfl (tgt := 11) rfl (by first | decide | omega) (by first | decide | omega) (by first | decide | omega) (by first | decide | omega) (fun c1 => ?_) (fun c1 => ?_)
  · skip
    refine r_ex hX hP 3 (pc' := 14) (st' := [(2, e), (0, s), (2, elementData)]) (lo' := [(0, (2, this)), (1, (2, e)), (2, (2, elementData)), (3, (0, s))]) rfl ?_
    refine r_aast hX hP rfl (L := 166) al_166 ck_140_O elementData_s e_s (by first | decide | omega) (by first | decide | omega) ?_
    refine r_ex hX hP 4 (pc' := 19) (st' := [(0, (s + 1)), (2, this)]) (lo' := [(0, (2, this)), (1, (2, e)), (2, (2, elementData)), (3, (0, s))]) rfl ?_
    refine r_putIK hX hP rfl fp_Jx4a65c_48_155 hS (by first | decide | omega) (by first | decide | omega) (fun h2 => ?_)
    have g3 : Gr [167] [(155, 1), (155, 2), (166, -1), (167, -1)] S G S (up (up G 166 elementData s e) 155 this 2 (s + 1)) := (gr_up (gr_up (gr_refl [167] [(155, 1), (155, 2), (166, -1), (167, -1)] S G) rfl) rfl)
    exact r_retV hX hP rfl rfl (by first | decide | omega) (by first | decide | omega) ⟨g3, rfl, (Or.inr (Or.inr (Or.inl (lb_mk (G' := (up (up G 166 elementData s e) 155 this 2 (s + 1))) ed_e elementData_s h2 (by first | decide | omega) (le_store els e_s))))), (h2).symm, (fun i h0 h1 => (elm_mk (G := (up (up G 166 elementData s e) 155 this 2 (s + 1))) (i := i) ed_e elementData_s).trans (((show (up G 166 elementData s e) 166 elementData i = _ from up_ne (fun q => absurd q.2.2 (by first | decide | omega)))).trans (elm_mk (G := G) (i := i) ed_e elementData_s).symm)), ((elm_mk (G := (up (up G 166 elementData s e) 155 this 2 (s + 1))) (i := s) ed_e elementData_s).trans (show (up G 166 elementData s e) 166 elementData s = e from up_self _ _ _ _ _))⟩
  · skip
    refine r_ex hX hP 1 (pc' := 7) (st' := [(2, this)]) (lo' := [(0, (2, this)), (1, (2, e)), (2, (2, elementData)), (3, (0, s))]) rfl ?_
    have e4 : 15 = G 155 this 2 := by have e := s_e; omega
    refine r_callV gd hX hP rfl cv_Jx4a65c_129_155 hS (d' := 10) (mc' := 1) (ms' := 22) (as' := []) (st := []) (by first | decide | omega) (by first | decide | omega) (by first | decide | omega) rfl rfl (Nat.le_of_ble_eq_true rfl) (c_gr0_Ltr_1 E S G this  hS elementData ed_e elementData_s e4) ?_
    rintro _ S5 G6 ⟨g7, z8, rfl, z8s, q9, q10⟩
    have s11 : S5 this = 155 := gr_lab g7 hS (by decide)
    have s12 : S5 e = 140 := gr_lab g7 e_s (by decide)
    have s13 : S5 elementData = 166 := gr_lab g7 elementData_s (by decide)
    have e14 : s = G6 155 this 2 := gr_val g7 s_e hS (by decide) rfl
    have g15 : Gr [167] [(155, 1), (155, 2), (166, -1), (167, -1)] S G S5 G6 := gr_call (gr_refl [167] [(155, 1), (155, 2), (166, -1), (167, -1)] S G) g7 rfl rfl
    have e16 : z8 = G6 155 this 1 := q9.symm
    refine r_ex hX hP 4 (pc' := 14) (st' := [(2, e), (0, s), (2, z8)]) (lo' := [(0, (2, this)), (1, (2, e)), (2, (2, z8)), (3, (0, s))]) rfl ?_
    refine r_aast hX hP rfl (L := 167) al_167 ck_140_O z8s s12 (by first | decide | omega) (by first | decide | omega) ?_
    refine r_ex hX hP 4 (pc' := 19) (st' := [(0, (s + 1)), (2, this)]) (lo' := [(0, (2, this)), (1, (2, e)), (2, (2, z8)), (3, (0, s))]) rfl ?_
    refine r_putIK hX hP rfl fp_Jx4a65c_48_155 s11 (by first | decide | omega) (by first | decide | omega) (fun h17 => ?_)
    have g18 : Gr [167] [(155, 1), (155, 2), (166, -1), (167, -1)] S G S5 (up (up G6 167 z8 s e) 155 this 2 (s + 1)) := (gr_up (gr_up g15 rfl) rfl)
    exact r_retV hX hP rfl rfl (by first | decide | omega) (by first | decide | omega) ⟨g18, rfl, (Or.inr (Or.inr (Or.inr (Or.inl (lb_mk (G' := (up (up G6 167 z8 s e) 155 this 2 (s + 1))) e16 z8s h17 (by first | decide | omega) (le_store (fun i h0 h1 => by rw [q10 i h0 (by first | decide | omega)]; exact gr_lab g7 (els i h0 h1) (by decide)) s12)))))), (h17).symm, (fun i h0 h1 => (elm_mk (G := (up (up G6 167 z8 s e) 155 this 2 (s + 1))) (i := i) e16 z8s).trans ((((show (up G6 167 z8 s e) 167 z8 i = _ from up_ne (fun q => absurd q.2.2 (by first | decide | omega)))).trans (q10 i h0 (by first | decide | omega))).trans (elm_mk (G := G) (i := i) ed_e elementData_s).symm)), ((elm_mk (G := (up (up G6 167 z8 s e) 155 this 2 (s + 1))) (i := s) e16 z8s).trans (show (up G6 167 z8 s e) 167 z8 s = e from up_self _ _ _ _ _))⟩
