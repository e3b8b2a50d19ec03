theorem co_J3_checkIndex_8e157 : Co mJ3_checkIndex_8e157 3 := ⟨(tbg sg4 80 rfl rfl), (tbg sg1 20 rfl rfl), by decide, by decide, by decide +kernel, by decide⟩
theorem cs_J15_105 : Cs RJ15 105 mJ3_checkIndex_8e157 3 := ⟨co_J3_checkIndex_8e157, (tbg sg5 12 rfl rfl), (tbg sg4 79 rfl rfl)⟩
theorem tl_154 (j : Nat) {t : Ty} (h : fs_154.getD j (0, 0, 0) = t) (hj : j < fs_154.length) : Tl 154 j t := ⟨0, fs_154, rfl, hj, h, by decide⟩
theorem fl_Jx4a65c_48_154 : Fl RJx4a65c 48 154 2 (0, 0, 40) := ⟨0, 3, fs_154, RJx4a65c, TJx4a65c, rfl, rfl, by decide, rfl, by decide, rfl, cf_Jx4a65c, (tbg sg1 140 rfl rfl)⟩
theorem fl_Jx4a65c_9_154 : Fl RJx4a65c 9 154 1 (5, 160, 164) := ⟨0, 3, fs_154, RJx4a65c, TJx4a65c, rfl, rfl, by decide, rfl, by decide, rfl, cf_Jx4a65c, (tbg sg1 139 rfl rfl)⟩
theorem al_160 : Al 160 5 10 (3, 139, 0) := ⟨rfl, by decide, by decide⟩
theorem al_161 : Al 161 5 15 (3, 139, 0) := ⟨rfl, by decide, by decide⟩
theorem al_162 : Al 162 5 22 (3, 139, 0) := ⟨rfl, by decide, by decide⟩
theorem al_163 : Al 163 5 33 (3, 139, 0) := ⟨rfl, by decide, by decide⟩
theorem al_164 : Al 164 5 49 (3, 139, 0) := ⟨rfl, by decide, by decide⟩
theorem co_J15_checkIndex_7cf53 : Co mJ15_checkIndex_7cf53 2 := ⟨(tbg sg5 11 rfl rfl), (tbg sg1 23 rfl rfl), by decide, by decide, by decide +kernel, by decide⟩
theorem cs_Jx4a65c_118 : Cs RJx4a65c 118 mJ15_checkIndex_7cf53 2 := ⟨co_J15_checkIndex_7cf53, (tbg sg5 9 rfl rfl), (tbg sg5 10 rfl rfl)⟩
theorem co_Jx4a65c_elementData_915e3 : Co mJx4a65c_elementData_915e3 1 := ⟨(tbg sg5 16 rfl rfl), (tbg sg1 6 rfl rfl), by decide, by decide, by decide +kernel, by decide⟩
theorem cv_Jx4a65c_123_154 : Cv RJx4a65c 123 mJx4a65c_elementData_915e3 154 1 := ⟨co_Jx4a65c_elementData_915e3, (tbg sg5 13 rfl rfl), (tbg sg5 14 rfl rfl), 0, 3, fs_154, RJx4a65c, TJx4a65c, rfl, by decide, rfl, (tbg sg5 15 rfl rfl)⟩
theorem tl_155 (j : Nat) {t : Ty} (h : fs_155.getD j (0, 0, 0) = t) (hj : j < fs_155.length) : Tl 155 j t := ⟨0, fs_155, rfl, hj, h, by decide⟩
theorem fl_Jx4a65c_48_155 : Fl RJx4a65c 48 155 2 (0, 0, 40) := ⟨0, 3, fs_155, RJx4a65c, TJx4a65c, rfl, rfl, by decide, rfl, by decide, rfl, cf_Jx4a65c, (tbg sg1 140 rfl rfl)⟩
theorem fl_Jx4a65c_9_155 : Fl RJx4a65c 9 155 1 (5, 165, 169) := ⟨0, 3, fs_155, RJx4a65c, TJx4a65c, rfl, rfl, by decide, rfl, by decide, rfl, cf_Jx4a65c, (tbg sg1 139 rfl rfl)⟩
theorem al_165 : Al 165 5 10 (3, 140, 0) := ⟨rfl, by decide, by decide⟩
theorem al_166 : Al 166 5 15 (3, 140, 0) := ⟨rfl, by decide, by decide⟩
theorem al_167 : Al 167 5 22 (3, 140, 0) := ⟨rfl, by decide, by decide⟩
theorem al_168 : Al 168 5 33 (3, 140, 0) := ⟨rfl, by decide, by decide⟩
theorem al_169 : Al 169 5 49 (3, 140, 0) := ⟨rfl, by decide, by decide⟩
theorem cv_Jx4a65c_123_155 : Cv RJx4a65c 123 mJx4a65c_elementData_915e3 155 1 := ⟨co_Jx4a65c_elementData_915e3, (tbg sg5 13 rfl rfl), (tbg sg5 14 rfl rfl), 0, 3, fs_155, RJx4a65c, TJx4a65c, rfl, by decide, rfl, (tbg sg5 15 rfl rfl)⟩
theorem tl_156 (j : Nat) {t : Ty} (h : fs_156.getD j (0, 0, 0) = t) (hj : j < fs_156.length) : Tl 156 j t := ⟨0, fs_156, rfl, hj, h, by decide⟩
theorem fl_Jx4a65c_48_156 : Fl RJx4a65c 48 156 2 (0, 0, 16) := ⟨0, 3, fs_156, RJx4a65c, TJx4a65c, rfl, rfl, by decide, rfl, by decide, rfl, cf_Jx4a65c, (tbg sg1 140 rfl rfl)⟩
theorem fl_Jx4a65c_9_156 : Fl RJx4a65c 9 156 1 (5, 170, 172) := ⟨0, 3, fs_156, RJx4a65c, TJx4a65c, rfl, rfl, by decide, rfl, by decide, rfl, cf_Jx4a65c, (tbg sg1 139 rfl rfl)⟩
theorem al_170 : Al 170 5 10 (3, 137, 0) := ⟨rfl, by decide, by decide⟩
theorem al_171 : Al 171 5 15 (3, 137, 0) := ⟨rfl, by decide, by decide⟩
theorem al_172 : Al 172 5 22 (3, 137, 0) := ⟨rfl, by decide, by decide⟩
theorem cv_Jx4a65c_123_156 : Cv RJx4a65c 123 mJx4a65c_elementData_915e3 156 1 := ⟨co_Jx4a65c_elementData_915e3, (tbg sg5 13 rfl rfl), (tbg sg5 14 rfl rfl), 0, 3, fs_156, RJx4a65c, TJx4a65c, rfl, by decide, rfl, (tbg sg5 15 rfl rfl)⟩
theorem tl_157 (j : Nat) {t : Ty} (h : fs_157.getD j (0, 0, 0) = t) (hj : j < fs_157.length) : Tl 157 j t := ⟨0, fs_157, rfl, hj, h, by decide⟩
theorem fl_Jx4a65c_48_157 : Fl RJx4a65c 48 157 2 (0, 0, 60) := ⟨0, 3, fs_157, RJx4a65c, TJx4a65c, rfl, rfl, by decide, rfl, by decide, rfl, cf_Jx4a65c, (tbg sg1 140 rfl rfl)⟩
theorem fl_Jx4a65c_9_157 : Fl RJx4a65c 9 157 1 (5, 173, 178) := ⟨0, 3, fs_157, RJx4a65c, TJx4a65c, rfl, rfl, by decide, rfl, by decide, rfl, cf_Jx4a65c, (tbg sg1 139 rfl rfl)⟩
theorem al_173 : Al 173 5 10 (3, 138, 0) := ⟨rfl, by decide, by decide⟩
theorem al_174 : Al 174 5 15 (3, 138, 0) := ⟨rfl, by decide, by decide⟩
theorem al_175 : Al 175 5 22 (3, 138, 0) := ⟨rfl, by decide, by decide⟩
theorem al_176 : Al 176 5 33 (3, 138, 0) := ⟨rfl, by decide, by decide⟩
theorem al_177 : Al 177 5 49 (3, 138, 0) := ⟨rfl, by decide, by decide⟩
theorem al_178 : Al 178 5 73 (3, 138, 0) := ⟨rfl, by decide, by decide⟩
theorem cv_Jx4a65c_123_157 : Cv RJx4a65c 123 mJx4a65c_elementData_915e3 157 1 := ⟨co_Jx4a65c_elementData_915e3, (tbg sg5 13 rfl rfl), (tbg sg5 14 rfl rfl), 0, 3, fs_157, RJx4a65c, TJx4a65c, rfl, by decide, rfl, (tbg sg5 15 rfl rfl)⟩
theorem tl_158 (j : Nat) {t : Ty} (h : fs_158.getD j (0, 0, 0) = t) (hj : j < fs_158.length) : Tl 158 j t := ⟨0, fs_158, rfl, hj, h, by decide⟩
theorem fl_Jx4a65c_48_158 : Fl RJx4a65c 48 158 2 (0, 0, 10) := ⟨0, 3, fs_158, RJx4a65c, TJx4a65c, rfl, rfl, by decide, rfl, by decide, rfl, cf_Jx4a65c, (tbg sg1 140 rfl rfl)⟩
theorem fl_Jx4a65c_9_158 : Fl RJx4a65c 9 158 1 (5, 179, 179) := ⟨0, 3, fs_158, RJx4a65c, TJx4a65c, rfl, rfl, by decide, rfl, by decide, rfl, cf_Jx4a65c, (tbg sg1 139 rfl rfl)⟩
theorem al_179 : Al 179 5 10 (3, 141, 0) := ⟨rfl, by decide, by decide⟩
theorem cv_Jx4a65c_123_158 : Cv RJx4a65c 123 mJx4a65c_elementData_915e3 158 1 := ⟨co_Jx4a65c_elementData_915e3, (tbg sg5 13 rfl rfl), (tbg sg5 14 rfl rfl), 0, 3, fs_158, RJx4a65c, TJx4a65c, rfl, by decide, rfl, (tbg sg5 15 rfl rfl)⟩
theorem tl_159 (j : Nat) {t : Ty} (h : fs_159.getD j (0, 0, 0) = t) (hj : j < fs_159.length) : Tl 159 j t := ⟨0, fs_159, rfl, hj, h, by decide⟩
theorem fl_Jx4a65c_48_159 : Fl RJx4a65c 48 159 2 (0, 0, 60) := ⟨0, 3, fs_159, RJx4a65c, TJx4a65c, rfl, rfl, by decide, rfl, by decide, rfl, cf_Jx4a65c, (tbg sg1 140 rfl rfl)⟩
theorem fl_Jx4a65c_9_159 : Fl RJx4a65c 9 159 1 (5, 180, 185) := ⟨0, 3, fs_159, RJx4a65c, TJx4a65c, rfl, rfl, by decide, rfl, by decide, rfl, cf_Jx4a65c, (tbg sg1 139 rfl rfl)⟩
theorem al_180 : Al 180 5 10 (3, 141, 0) := ⟨rfl, by decide, by decide⟩
theorem al_181 : Al 181 5 15 (3, 141, 0) := ⟨rfl, by decide, by decide⟩
theorem al_182 : Al 182 5 22 (3, 141, 0) := ⟨rfl, by decide, by decide⟩
theorem al_183 : Al 183 5 33 (3, 141, 0) := ⟨rfl, by decide, by decide⟩
theorem al_184 : Al 184 5 49 (3, 141, 0) := ⟨rfl, by decide, by decide⟩
theorem al_185 : Al 185 5 73 (3, 141, 0) := ⟨rfl, by decide, by decide⟩
theorem cv_Jx4a65c_123_159 : Cv RJx4a65c 123 mJx4a65c_elementData_915e3 159 1 := ⟨co_Jx4a65c_elementData_915e3, (tbg sg5 13 rfl rfl), (tbg sg5 14 rfl rfl), 0, 3, fs_159, RJx4a65c, TJx4a65c, rfl, by decide, rfl, (tbg sg5 15 rfl rfl)⟩
set_option maxRecDepth 100000 in
set_option maxHeartbeats 4000000 in
theorem c_J3_checkIndex_8e157 (E : En) (S : Sg) (G : Gh) (index : Int) (length : Int) (f : Int) (index_a : 0 ≤ index) (index_b : index ≤ 2147483647) (length_a : (-2147483648) ≤ length) (length_b : length ≤ 2147483647) (pre0 : index + 1 ≤ length) : Calls E mJ3_checkIndex_8e157 [(0, index), (0, length), (2, f)] S G 0 0 0 (fun r S' G' => S = S' ∧ G = G' ∧ ∃ z : Int, r = some (0, z) ∧ (-2147483648) ≤ z ∧ z ≤ 2147483647) := by
  refine calls_by [(0, (0, index)), (1, (0, length)), (2, (2, f))] rfl rfl (Nat.le_of_ble_eq_true rfl) (fun X hX => ?_)
  have hP := hPJ3_checkIndex_8e157
  refine r_ex hX hP 1 (pc' := 1) (st' := [(0, index)]) (lo' := [(0, (0, index)), (1, (0, length)), (2, (2, f))]) rfl ?_
  refine r_if_lt hX hP rfl (tgt := 9) rfl (by first | decide | omega) (by first | decide | omega) (fun c1 => ?_) (fun c1 => ?_)
  · skip
    exfalso; omega
  · skip
    refine r_ex hX hP 2 (pc' := 6) (st' := [(0, length), (0, index)]) (lo' := [(0, (0, index)), (1, (0, length)), (2, (2, f))]) rfl ?_
    refine r_ic_lt hX hP rfl (tgt := 16) rfl (by first | decide | omega) (by first | decide | omega) (by first | decide | omega) (by first | decide | omega) (fun c2 => ?_) (fun c2 => ?_)
    · skip
      refine r_ex hX hP 1 (pc' := 17) (st' := [(0, index)]) (lo' := [(0, (0, index)), (1, (0, length)), (2, (2, f))]) rfl ?_
      exact r_retI hX hP rfl rfl (by first | decide | omega) (by first | decide | omega) ⟨rfl, rfl, index, rfl, (by first | decide | omega)⟩
    · skip
      exfalso; omega
set_option maxRecDepth 100000 in
set_option maxHeartbeats 4000000 in
theorem c_J15_checkIndex_7cf53 (E : En) (S : Sg) (G : Gh) (index : Int) (length : Int) (index_a : 0 ≤ index) (index_b : index ≤ 2147483647) (length_a : (-2147483648) ≤ length) (length_b : length ≤ 2147483647) (pre0 : index + 1 ≤ length) : Calls E mJ15_checkIndex_7cf53 [(0, index), (0, length)] S G 1 0 0 (fun r S' G' => S = S' ∧ G = G' ∧ ∃ z : Int, r = some (0, z) ∧ (-2147483648) ≤ z ∧ z ≤ 2147483647) := by
  refine calls_by [(0, (0, index)), (1, (0, length))] rfl rfl (Nat.le_of_ble_eq_true rfl) (fun X hX => ?_)
  have hP := hPJ15_checkIndex_7cf53
  refine r_ex hX hP 3 (pc' := 3) (st' := [(2, (-1)), (0, length), (0, index)]) (lo' := [(0, (0, index)), (1, (0, length))]) rfl ?_
  refine r_callS gd hX hP rfl cs_J15_105 (d' := 0) (mc' := 0) (ms' := 0) (as' := [(0, index), (0, length), (2, (-1))]) (st := []) (by first | decide | omega) (by first | decide | omega) (by first | decide | omega) rfl rfl (Nat.le_of_ble_eq_true rfl) (c_J3_checkIndex_8e157 E S G index length (-1) (by first | decide | omega) (by first | decide | omega) (by first | decide | omega) (by first | decide | omega) (by first | decide | omega)) ?_
  rintro _ _ _ ⟨rfl, rfl, z1, rfl, z1a, z1b⟩
  exact r_retI hX hP rfl rfl (by first | decide | omega) (by first | decide | omega) ⟨rfl, rfl, z1, rfl, (by first | decide | omega)⟩
set_option maxRecDepth 100000 in
set_option maxHeartbeats 4000000 in
theorem c_size_Lis (E : En) (S : Sg) (G : Gh) (this : Int) (hS : S this = 154) (sz : Int) (sz_e : sz = G 154 this 2) : Calls E mJx4a65c_size_8abf5 [(2, this)] S G 0 0 0 (fun r S' G' => S = S' ∧ G = G' ∧ ∃ z : Int, r = some (0, z) ∧ 0 ≤ z ∧ z ≤ 40 ∧ z = sz) := by
  refine calls_by [(0, (2, this))] rfl rfl (Nat.le_of_ble_eq_true rfl) (fun X hX => ?_)
  have hP := hPJx4a65c_size_8abf5
  refine r_peekI hX (tl_154 2 rfl (by decide)) hS (fun sz_o sz_oe sz_oa sz_ob => ?_)
  obtain rfl : sz = sz_o := sz_e.trans sz_oe.symm
  refine r_ex hX hP 1 (pc' := 1) (st' := [(2, this)]) (lo' := [(0, (2, this))]) rfl ?_
  refine r_getKI hX hP rfl fl_Jx4a65c_48_154 hS (x := sz) sz_e ?_
  exact r_retI hX hP rfl rfl (by first | decide | omega) (by first | decide | omega) ⟨rfl, rfl, sz, rfl, (by first | decide | omega), (by first | decide | omega), (by first | decide | omega)⟩
set_option maxRecDepth 100000 in
set_option maxHeartbeats 4000000 in
theorem c_ed_Lis (E : En) (S : Sg) (G : Gh) (this : Int) (index : Int) (hS : S this = 154) (sz : Int) (sz_e : sz = G 154 this 2) (index_a : 0 ≤ index) (index_b : index ≤ 39) (pre0 : index + 1 ≤ sz) (ci : CI E S G) : Calls E mJx4a65c_elementData_915e3 [(2, this), (0, index)] S G 0 0 0 (fun r S' G' => S = S' ∧ G = G' ∧ ∃ z : Int, r = some (2, z) ∧ S z = 139) := by
  refine calls_by [(0, (2, this)), (1, (0, index))] rfl rfl (Nat.le_of_ble_eq_true rfl) (fun X hX => ?_)
  have hP := hPJx4a65c_elementData_915e3
  refine r_peekI hX (tl_154 2 rfl (by decide)) hS (fun sz_o sz_oe sz_oa sz_ob => ?_)
  obtain rfl : sz = sz_o := sz_e.trans sz_oe.symm
  refine r_ex hX hP 1 (pc' := 1) (st' := [(2, this)]) (lo' := [(0, (2, this)), (1, (0, index))]) rfl ?_
  refine r_get5 hX hP rfl fl_Jx4a65c_9_154 hS (fun ef1 ef1e ef1o => ?_)
  refine r_ex hX hP 1 (pc' := 5) (st' := [(0, index), (2, ef1)]) (lo' := [(0, (2, this)), (1, (0, index))]) rfl ?_
  rcases ci_L0 ci hS ef1e sz_e (i := index) (by first | decide | omega) (by first | decide | omega) with ⟨sA, iA, eA⟩ | ⟨sA, iA, eA⟩ | ⟨sA, iA, eA⟩ | ⟨sA, iA, eA⟩ | ⟨sA, iA, eA⟩
  · skip
    refine r_aaldN hX hP rfl al_160 rfl sA (by first | decide | omega) (by first | decide | omega) (fun r2 r2e r2n => ?_)
    have r2s : S r2 = 139 := by rw [r2e]; exact eA
    exact r_retR hX hP rfl rfl (by first | exact Or.inl ⟨_, rfl⟩ | exact Or.inr ⟨_, rfl⟩) (by first | decide | omega) (by first | decide | omega) ⟨rfl, rfl, r2, rfl, r2s⟩
  · skip
    refine r_aaldN hX hP rfl al_161 rfl sA (by first | decide | omega) (by first | decide | omega) (fun r2 r2e r2n => ?_)
    have r2s : S r2 = 139 := by rw [r2e]; exact eA
    exact r_retR hX hP rfl rfl (by first | exact Or.inl ⟨_, rfl⟩ | exact Or.inr ⟨_, rfl⟩) (by first | decide | omega) (by first | decide | omega) ⟨rfl, rfl, r2, rfl, r2s⟩
  · skip
    refine r_aaldN hX hP rfl al_162 rfl sA (by first | decide | omega) (by first | decide | omega) (fun r2 r2e r2n => ?_)
    have r2s : S r2 = 139 := by rw [r2e]; exact eA
    exact r_retR hX hP rfl rfl (by first | exact Or.inl ⟨_, rfl⟩ | exact Or.inr ⟨_, rfl⟩) (by first | decide | omega) (by first | decide | omega) ⟨rfl, rfl, r2, rfl, r2s⟩
  · skip
    refine r_aaldN hX hP rfl al_163 rfl sA (by first | decide | omega) (by first | decide | omega) (fun r2 r2e r2n => ?_)
    have r2s : S r2 = 139 := by rw [r2e]; exact eA
    exact r_retR hX hP rfl rfl (by first | exact Or.inl ⟨_, rfl⟩ | exact Or.inr ⟨_, rfl⟩) (by first | decide | omega) (by first | decide | omega) ⟨rfl, rfl, r2, rfl, r2s⟩
  · skip
    refine r_aaldN hX hP rfl al_164 rfl sA (by first | decide | omega) (by first | decide | omega) (fun r2 r2e r2n => ?_)
    have r2s : S r2 = 139 := by rw [r2e]; exact eA
    exact r_retR hX hP rfl rfl (by first | exact Or.inl ⟨_, rfl⟩ | exact Or.inr ⟨_, rfl⟩) (by first | decide | omega) (by first | decide | omega) ⟨rfl, rfl, r2, rfl, r2s⟩
set_option maxRecDepth 100000 in
set_option maxHeartbeats 4000000 in
theorem c_get_Lis (E : En) (S : Sg) (G : Gh) (this : Int) (index : Int) (hS : S this = 154) (sz : Int) (sz_e : sz = G 154 this 2) (index_a : 0 ≤ index) (index_b : index ≤ 39) (pre0 : index + 1 ≤ sz) (ci : CI E S G) : Calls E mJx4a65c_get_915e3 [(2, this), (0, index)] S G 2 0 0 (fun r S' G' => S = S' ∧ G = G' ∧ ∃ z : Int, r = some (2, z) ∧ S z = 139) := by
  refine calls_by [(0, (2, this)), (1, (0, index))] rfl rfl (Nat.le_of_ble_eq_true rfl) (fun X hX => ?_)
  have hP := hPJx4a65c_get_915e3
  refine r_peekI hX (tl_154 2 rfl (by decide)) hS (fun sz_o sz_oe sz_oa sz_ob => ?_)
  obtain rfl : sz = sz_o := sz_e.trans sz_oe.symm
  refine r_ex hX hP 2 (pc' := 2) (st' := [(2, this), (0, index)]) (lo' := [(0, (2, this)), (1, (0, index))]) rfl ?_
  refine r_getKI hX hP rfl fl_Jx4a65c_48_154 hS (x := sz) sz_e ?_
  refine r_callS gd hX hP rfl cs_Jx4a65c_118 (d' := 1) (mc' := 0) (ms' := 0) (as' := [(0, index), (0, sz)]) (st := []) (by first | decide | omega) (by first | decide | omega) (by first | decide | omega) rfl rfl (Nat.le_of_ble_eq_true rfl) (c_J15_checkIndex_7cf53 E S G index sz (by first | decide | omega) (by first | decide | omega) (by first | decide | omega) (by first | decide | omega) (by first | decide | omega)) ?_
  rintro _ _ _ ⟨rfl, rfl, z1, rfl, z1a, z1b⟩
  refine r_ex hX hP 3 (pc' := 11) (st' := [(0, index), (2, this)]) (lo' := [(0, (2, this)), (1, (0, index))]) rfl ?_
  refine r_callV gd hX hP rfl cv_Jx4a65c_123_154 hS (d' := 0) (mc' := 0) (ms' := 0) (as' := [(0, index)]) (st := []) (by first | decide | omega) (by first | decide | omega) (by first | decide | omega) rfl rfl (Nat.le_of_ble_eq_true rfl) (c_ed_Lis E S G this index hS sz sz_e (by first | decide | omega) (by first | decide | omega) (by first | decide | omega) ci) ?_
  rintro _ _ _ ⟨rfl, rfl, z2, rfl, z2s⟩
  exact r_retR hX hP rfl rfl (by first | exact Or.inl ⟨_, rfl⟩ | exact Or.inr ⟨_, rfl⟩) (by first | decide | omega) (by first | decide | omega) ⟨rfl, rfl, z2, rfl, z2s⟩
set_option maxRecDepth 100000 in
set_option maxHeartbeats 4000000 in
theorem c_size_Ltr (E : En) (S : Sg) (G : Gh) (this : Int) (hS : S this = 155) (sz : Int) (sz_e : sz = G 155 this 2) : Calls E mJx4a65c_size_8abf5 [(2, this)] S G 0 0 0 (fun r S' G' => S = S' ∧ G = G' ∧ ∃ z : Int, r = some (0, z) ∧ 0 ≤ z ∧ z ≤ 40 ∧ z = sz) := by
  refine calls_by [(0, (2, this))] rfl rfl (Nat.le_of_ble_eq_true rfl) (fun X hX => ?_)
  have hP := hPJx4a65c_size_8abf5
  refine r_peekI hX (tl_155 2 rfl (by decide)) hS (fun sz_o sz_oe sz_oa sz_ob => ?_)
  obtain rfl : sz = sz_o := sz_e.trans sz_oe.symm
  refine r_ex hX hP 1 (pc' := 1) (st' := [(2, this)]) (lo' := [(0, (2, this))]) rfl ?_
  refine r_getKI hX hP rfl fl_Jx4a65c_48_155 hS (x := sz) sz_e ?_
  exact r_retI hX hP rfl rfl (by first | decide | omega) (by first | decide | omega) ⟨rfl, rfl, sz, rfl, (by first | decide | omega), (by first | decide | omega), (by first | decide | omega)⟩
set_option maxRecDepth 100000 in
set_option maxHeartbeats 4000000 in
theorem c_ed_Ltr (E : En) (S : Sg) (G : Gh) (this : Int) (index : Int) (hS : S this = 155) (sz : Int) (sz_e : sz = G 155 this 2) (index_a : 0 ≤ index) (index_b : index ≤ 39) (pre0 : index + 1 ≤ sz) (ci : CI E S G) : Calls E mJx4a65c_elementData_915e3 [(2, this), (0, index)] S G 0 0 0 (fun r S' G' => S = S' ∧ G = G' ∧ ∃ z : Int, r = some (2, z) ∧ S z = 140) := by
  refine calls_by [(0, (2, this)), (1, (0, index))] rfl rfl (Nat.le_of_ble_eq_true rfl) (fun X hX => ?_)
  have hP := hPJx4a65c_elementData_915e3
  refine r_peekI hX (tl_155 2 rfl (by decide)) hS (fun sz_o sz_oe sz_oa sz_ob => ?_)
  obtain rfl : sz = sz_o := sz_e.trans sz_oe.symm
  refine r_ex hX hP 1 (pc' := 1) (st' := [(2, this)]) (lo' := [(0, (2, this)), (1, (0, index))]) rfl ?_
  refine r_get5 hX hP rfl fl_Jx4a65c_9_155 hS (fun ef1 ef1e ef1o => ?_)
  refine r_ex hX hP 1 (pc' := 5) (st' := [(0, index), (2, ef1)]) (lo' := [(0, (2, this)), (1, (0, index))]) rfl ?_
  rcases ci_L1 ci hS ef1e sz_e (i := index) (by first | decide | omega) (by first | decide | omega) with ⟨sA, iA, eA⟩ | ⟨sA, iA, eA⟩ | ⟨sA, iA, eA⟩ | ⟨sA, iA, eA⟩ | ⟨sA, iA, eA⟩
  · skip
    refine r_aaldN hX hP rfl al_165 rfl sA (by first | decide | omega) (by first | decide | omega) (fun r2 r2e r2n => ?_)
    have r2s : S r2 = 140 := by rw [r2e]; exact eA
    exact r_retR hX hP rfl rfl (by first | exact Or.inl ⟨_, rfl⟩ | exact Or.inr ⟨_, rfl⟩) (by first | decide | omega) (by first | decide | omega) ⟨rfl, rfl, r2, rfl, r2s⟩
  · skip
    refine r_aaldN hX hP rfl al_166 rfl sA (by first | decide | omega) (by first | decide | omega) (fun r2 r2e r2n => ?_)
    have r2s : S r2 = 140 := by rw [r2e]; exact eA
    exact r_retR hX hP rfl rfl (by first | exact Or.inl ⟨_, rfl⟩ | exact Or.inr ⟨_, rfl⟩) (by first | decide | omega) (by first | decide | omega) ⟨rfl, rfl, r2, rfl, r2s⟩
  · skip
    refine r_aaldN hX hP rfl al_167 rfl sA (by first | decide | omega) (by first | decide | omega) (fun r2 r2e r2n => ?_)
    have r2s : S r2 = 140 := by rw [r2e]; exact eA
    exact r_retR hX hP rfl rfl (by first | exact Or.inl ⟨_, rfl⟩ | exact Or.inr ⟨_, rfl⟩) (by first | decide | omega) (by first | decide | omega) ⟨rfl, rfl, r2, rfl, r2s⟩
  · skip
    refine r_aaldN hX hP rfl al_168 rfl sA (by first | decide | omega) (by first | decide | omega) (fun r2 r2e r2n => ?_)
    have r2s : S r2 = 140 := by rw [r2e]; exact eA
    exact r_retR hX hP rfl rfl (by first | exact Or.inl ⟨_, rfl⟩ | exact Or.inr ⟨_, rfl⟩) (by first | decide | omega) (by first | decide | omega) ⟨rfl, rfl, r2, rfl, r2s⟩
  · skip
    refine r_aaldN hX hP rfl al_169 rfl sA (by first | decide | omega) (by first | decide | omega) (fun r2 r2e r2n => ?_)
    have r2s : S r2 = 140 := by rw [r2e]; exact eA
    exact r_retR hX hP rfl rfl (by first | exact Or.inl ⟨_, rfl⟩ | exact Or.inr ⟨_, rfl⟩) (by first | decide | omega) (by first | decide | omega) ⟨rfl, rfl, r2, rfl, r2s⟩
set_option maxRecDepth 100000 in
set_option maxHeartbeats 4000000 in
theorem c_get_Ltr (E : En) (S : Sg) (G : Gh) (this : Int) (index : Int) (hS : S this = 155) (sz : Int) (sz_e : sz = G 155 this 2) (index_a : 0 ≤ index) (index_b : index ≤ 39) (pre0 : index + 1 ≤ sz) (ci : CI E S G) : Calls E mJx4a65c_get_915e3 [(2, this), (0, index)] S G 2 0 0 (fun r S' G' => S = S' ∧ G = G' ∧ ∃ z : Int, r = some (2, z) ∧ S z = 140) := by
  refine calls_by [(0, (2, this)), (1, (0, index))] rfl rfl (Nat.le_of_ble_eq_true rfl) (fun X hX => ?_)
  have hP := hPJx4a65c_get_915e3
  refine r_peekI hX (tl_155 2 rfl (by decide)) hS (fun sz_o sz_oe sz_oa sz_ob => ?_)
  obtain rfl : sz = sz_o := sz_e.trans sz_oe.symm
  refine r_ex hX hP 2 (pc' := 2) (st' := [(2, this), (0, index)]) (lo' := [(0, (2, this)), (1, (0, index))]) rfl ?_
  refine r_getKI hX hP rfl fl_Jx4a65c_48_155 hS (x := sz) sz_e ?_
  refine r_callS gd hX hP rfl cs_Jx4a65c_118 (d' := 1) (mc' := 0) (ms' := 0) (as' := [(0, index), (0, sz)]) (st := []) (by first | decide | omega) (by first | decide | omega) (by first | decide | omega) rfl rfl (Nat.le_of_ble_eq_true rfl) (c_J15_checkIndex_7cf53 E S G index sz (by first | decide | omega) (by first | decide | omega) (by first | decide | omega) (by first | decide | omega) (by first | decide | omega)) ?_
  rintro _ _ _ ⟨rfl, rfl, z1, rfl, z1a, z1b⟩
  refine r_ex hX hP 3 (pc' := 11) (st' := [(0, index), (2, this)]) (lo' := [(0, (2, this)), (1, (0, index))]) rfl ?_
  refine r_callV gd hX hP rfl cv_Jx4a65c_123_155 hS (d' := 0) (mc' := 0) (ms' := 0) (as' := [(0, index)]) (st := []) (by first | decide | omega) (by first | decide | omega) (by first | decide | omega) rfl rfl (Nat.le_of_ble_eq_true rfl) (c_ed_Ltr E S G this index hS sz sz_e (by first | decide | omega) (by first | decide | omega) (by first | decide | omega) ci) ?_
  rintro _ _ _ ⟨rfl, rfl, z2, rfl, z2s⟩
  exact r_retR hX hP rfl rfl (by first | exact Or.inl ⟨_, rfl⟩ | exact Or.inr ⟨_, rfl⟩) (by first | decide | omega) (by first | decide | omega) ⟨rfl, rfl, z2, rfl, z2s⟩
set_option maxRecDepth 100000 in
set_option maxHeartbeats 4000000 in
theorem c_size_Lev (E : En) (S : Sg) (G : Gh) (this : Int) (hS : S this = 156) (sz : Int) (sz_e : sz = G 156 this 2) : Calls E mJx4a65c_size_8abf5 [(2, this)] S G 0 0 0 (fun r S' G' => S = S' ∧ G = G' ∧ ∃ z : Int, r = some (0, z) ∧ 0 ≤ z ∧ z ≤ 16 ∧ z = sz) := by
  refine calls_by [(0, (2, this))] rfl rfl (Nat.le_of_ble_eq_true rfl) (fun X hX => ?_)
  have hP := hPJx4a65c_size_8abf5
  refine r_peekI hX (tl_156 2 rfl (by decide)) hS (fun sz_o sz_oe sz_oa sz_ob => ?_)
  obtain rfl : sz = sz_o := sz_e.trans sz_oe.symm
  refine r_ex hX hP 1 (pc' := 1) (st' := [(2, this)]) (lo' := [(0, (2, this))]) rfl ?_
  refine r_getKI hX hP rfl fl_Jx4a65c_48_156 hS (x := sz) sz_e ?_
  exact r_retI hX hP rfl rfl (by first | decide | omega) (by first | decide | omega) ⟨rfl, rfl, sz, rfl, (by first | decide | omega), (by first | decide | omega), (by first | decide | omega)⟩
set_option maxRecDepth 100000 in
set_option maxHeartbeats 4000000 in
theorem c_ed_Lev (E : En) (S : Sg) (G : Gh) (this : Int) (index : Int) (hS : S this = 156) (sz : Int) (sz_e : sz = G 156 this 2) (index_a : 0 ≤ index) (index_b : index ≤ 15) (pre0 : index + 1 ≤ sz) (ci : CI E S G) : Calls E mJx4a65c_elementData_915e3 [(2, this), (0, index)] S G 0 0 0 (fun r S' G' => S = S' ∧ G = G' ∧ ∃ z : Int, r = some (2, z) ∧ S z = 137) := by
  refine calls_by [(0, (2, this)), (1, (0, index))] rfl rfl (Nat.le_of_ble_eq_true rfl) (fun X hX => ?_)
  have hP := hPJx4a65c_elementData_915e3
  refine r_peekI hX (tl_156 2 rfl (by decide)) hS (fun sz_o sz_oe sz_oa sz_ob => ?_)
  obtain rfl : sz = sz_o := sz_e.trans sz_oe.symm
  refine r_ex hX hP 1 (pc' := 1) (st' := [(2, this)]) (lo' := [(0, (2, this)), (1, (0, index))]) rfl ?_
  refine r_get5 hX hP rfl fl_Jx4a65c_9_156 hS (fun ef1 ef1e ef1o => ?_)
  refine r_ex hX hP 1 (pc' := 5) (st' := [(0, index), (2, ef1)]) (lo' := [(0, (2, this)), (1, (0, index))]) rfl ?_
  rcases ci_L2 ci hS ef1e sz_e (i := index) (by first | decide | omega) (by first | decide | omega) with ⟨sA, iA, eA⟩ | ⟨sA, iA, eA⟩ | ⟨sA, iA, eA⟩
  · skip
    refine r_aaldN hX hP rfl al_170 rfl sA (by first | decide | omega) (by first | decide | omega) (fun r2 r2e r2n => ?_)
    have r2s : S r2 = 137 := by rw [r2e]; exact eA
    exact r_retR hX hP rfl rfl (by first | exact Or.inl ⟨_, rfl⟩ | exact Or.inr ⟨_, rfl⟩) (by first | decide | omega) (by first | decide | omega) ⟨rfl, rfl, r2, rfl, r2s⟩
  · skip
    refine r_aaldN hX hP rfl al_171 rfl sA (by first | decide | omega) (by first | decide | omega) (fun r2 r2e r2n => ?_)
    have r2s : S r2 = 137 := by rw [r2e]; exact eA
    exact r_retR hX hP rfl rfl (by first | exact Or.inl ⟨_, rfl⟩ | exact Or.inr ⟨_, rfl⟩) (by first | decide | omega) (by first | decide | omega) ⟨rfl, rfl, r2, rfl, r2s⟩
  · skip
    refine r_aaldN hX hP rfl al_172 rfl sA (by first | decide | omega) (by first | decide | omega) (fun r2 r2e r2n => ?_)
    have r2s : S r2 = 137 := by rw [r2e]; exact eA
    exact r_retR hX hP rfl rfl (by first | exact Or.inl ⟨_, rfl⟩ | exact Or.inr ⟨_, rfl⟩) (by first | decide | omega) (by first | decide | omega) ⟨rfl, rfl, r2, rfl, r2s⟩
set_option maxRecDepth 100000 in
set_option maxHeartbeats 4000000 in
theorem c_get_Lev (E : En) (S : Sg) (G : Gh) (this : Int) (index : Int) (hS : S this = 156) (sz : Int) (sz_e : sz = G 156 this 2) (index_a : 0 ≤ index) (index_b : index ≤ 15) (pre0 : index + 1 ≤ sz) (ci : CI E S G) : Calls E mJx4a65c_get_915e3 [(2, this), (0, index)] S G 2 0 0 (fun r S' G' => S = S' ∧ G = G' ∧ ∃ z : Int, r = some (2, z) ∧ S z = 137) := by
  refine calls_by [(0, (2, this)), (1, (0, index))] rfl rfl (Nat.le_of_ble_eq_true rfl) (fun X hX => ?_)
  have hP := hPJx4a65c_get_915e3
  refine r_peekI hX (tl_156 2 rfl (by decide)) hS (fun sz_o sz_oe sz_oa sz_ob => ?_)
  obtain rfl : sz = sz_o := sz_e.trans sz_oe.symm
  refine r_ex hX hP 2 (pc' := 2) (st' := [(2, this), (0, index)]) (lo' := [(0, (2, this)), (1, (0, index))]) rfl ?_
  refine r_getKI hX hP rfl fl_Jx4a65c_48_156 hS (x := sz) sz_e ?_
  refine r_callS gd hX hP rfl cs_Jx4a65c_118 (d' := 1) (mc' := 0) (ms' := 0) (as' := [(0, index), (0, sz)]) (st := []) (by first | decide | omega) (by first | decide | omega) (by first | decide | omega) rfl rfl (Nat.le_of_ble_eq_true rfl) (c_J15_checkIndex_7cf53 E S G index sz (by first | decide | omega) (by first | decide | omega) (by first | decide | omega) (by first | decide | omega) (by first | decide | omega)) ?_
  rintro _ _ _ ⟨rfl, rfl, z1, rfl, z1a, z1b⟩
  refine r_ex hX hP 3 (pc' := 11) (st' := [(0, index), (2, this)]) (lo' := [(0, (2, this)), (1, (0, index))]) rfl ?_
  refine r_callV gd hX hP rfl cv_Jx4a65c_123_156 hS (d' := 0) (mc' := 0) (ms' := 0) (as' := [(0, index)]) (st := []) (by first | decide | omega) (by first | decide | omega) (by first | decide | omega) rfl rfl (Nat.le_of_ble_eq_true rfl) (c_ed_Lev E S G this index hS sz sz_e (by first | decide | omega) (by first | decide | omega) (by first | decide | omega) ci) ?_
  rintro _ _ _ ⟨rfl, rfl, z2, rfl, z2s⟩
  exact r_retR hX hP rfl rfl (by first | exact Or.inl ⟨_, rfl⟩ | exact Or.inr ⟨_, rfl⟩) (by first | decide | omega) (by first | decide | omega) ⟨rfl, rfl, z2, rfl, z2s⟩
set_option maxRecDepth 100000 in
set_option maxHeartbeats 4000000 in
theorem c_size_Lpi (E : En) (S : Sg) (G : Gh) (this : Int) (hS : S this = 157) (sz : Int) (sz_e : sz = G 157 this 2) : Calls E mJx4a65c_size_8abf5 [(2, this)] S G 0 0 0 (fun r S' G' => S = S' ∧ G = G' ∧ ∃ z : Int, r = some (0, z) ∧ 0 ≤ z ∧ z ≤ 60 ∧ z = sz) := by
  refine calls_by [(0, (2, this))] rfl rfl (Nat.le_of_ble_eq_true rfl) (fun X hX => ?_)
  have hP := hPJx4a65c_size_8abf5
  refine r_peekI hX (tl_157 2 rfl (by decide)) hS (fun sz_o sz_oe sz_oa sz_ob => ?_)
  obtain rfl : sz = sz_o := sz_e.trans sz_oe.symm
  refine r_ex hX hP 1 (pc' := 1) (st' := [(2, this)]) (lo' := [(0, (2, this))]) rfl ?_
  refine r_getKI hX hP rfl fl_Jx4a65c_48_157 hS (x := sz) sz_e ?_
  exact r_retI hX hP rfl rfl (by first | decide | omega) (by first | decide | omega) ⟨rfl, rfl, sz, rfl, (by first | decide | omega), (by first | decide | omega), (by first | decide | omega)⟩
set_option maxRecDepth 100000 in
set_option maxHeartbeats 4000000 in
theorem c_ed_Lpi (E : En) (S : Sg) (G : Gh) (this : Int) (index : Int) (hS : S this = 157) (sz : Int) (sz_e : sz = G 157 this 2) (index_a : 0 ≤ index) (index_b : index ≤ 59) (pre0 : index + 1 ≤ sz) (ci : CI E S G) : Calls E mJx4a65c_elementData_915e3 [(2, this), (0, index)] S G 0 0 0 (fun r S' G' => S = S' ∧ G = G' ∧ ∃ z : Int, r = some (2, z) ∧ S z = 138) := by
  refine calls_by [(0, (2, this)), (1, (0, index))] rfl rfl (Nat.le_of_ble_eq_true rfl) (fun X hX => ?_)
  have hP := hPJx4a65c_elementData_915e3
  refine r_peekI hX (tl_157 2 rfl (by decide)) hS (fun sz_o sz_oe sz_oa sz_ob => ?_)
  obtain rfl : sz = sz_o := sz_e.trans sz_oe.symm
  refine r_ex hX hP 1 (pc' := 1) (st' := [(2, this)]) (lo' := [(0, (2, this)), (1, (0, index))]) rfl ?_
  refine r_get5 hX hP rfl fl_Jx4a65c_9_157 hS (fun ef1 ef1e ef1o => ?_)
  refine r_ex hX hP 1 (pc' := 5) (st' := [(0, index), (2, ef1)]) (lo' := [(0, (2, this)), (1, (0, index))]) rfl ?_
  rcases ci_L3 ci hS ef1e sz_e (i := index) (by first | decide | omega) (by first | decide | omega) with ⟨sA, iA, eA⟩ | ⟨sA, iA, eA⟩ | ⟨sA, iA, eA⟩ | ⟨sA, iA, eA⟩ | ⟨sA, iA, eA⟩ | ⟨sA, iA, eA⟩
  · skip
    refine r_aaldN hX hP rfl al_173 rfl sA (by first | decide | omega) (by first | decide | omega) (fun r2 r2e r2n => ?_)
    have r2s : S r2 = 138 := by rw [r2e]; exact eA
    exact r_retR hX hP rfl rfl (by first | exact Or.inl ⟨_, rfl⟩ | exact Or.inr ⟨_, rfl⟩) (by first | decide | omega) (by first | decide | omega) ⟨rfl, rfl, r2, rfl, r2s⟩
  · skip
    refine r_aaldN hX hP rfl al_174 rfl sA (by first | decide | omega) (by first | decide | omega) (fun r2 r2e r2n => ?_)
    have r2s : S r2 = 138 := by rw [r2e]; exact eA
    exact r_retR hX hP rfl rfl (by first | exact Or.inl ⟨_, rfl⟩ | exact Or.inr ⟨_, rfl⟩) (by first | decide | omega) (by first | decide | omega) ⟨rfl, rfl, r2, rfl, r2s⟩
  · skip
    refine r_aaldN hX hP rfl al_175 rfl sA (by first | decide | omega) (by first | decide | omega) (fun r2 r2e r2n => ?_)
    have r2s : S r2 = 138 := by rw [r2e]; exact eA
    exact r_retR hX hP rfl rfl (by first | exact Or.inl ⟨_, rfl⟩ | exact Or.inr ⟨_, rfl⟩) (by first | decide | omega) (by first | decide | omega) ⟨rfl, rfl, r2, rfl, r2s⟩
  · skip
    refine r_aaldN hX hP rfl al_176 rfl sA (by first | decide | omega) (by first | decide | omega) (fun r2 r2e r2n => ?_)
    have r2s : S r2 = 138 := by rw [r2e]; exact eA
    exact r_retR hX hP rfl rfl (by first | exact Or.inl ⟨_, rfl⟩ | exact Or.inr ⟨_, rfl⟩) (by first | decide | omega) (by first | decide | omega) ⟨rfl, rfl, r2, rfl, r2s⟩
  · skip
    refine r_aaldN hX hP rfl al_177 rfl sA (by first | decide | omega) (by first | decide | omega) (fun r2 r2e r2n => ?_)
    have r2s : S r2 = 138 := by rw [r2e]; exact eA
    exact r_retR hX hP rfl rfl (by first | exact Or.inl ⟨_, rfl⟩ | exact Or.inr ⟨_, rfl⟩) (by first | decide | omega) (by first | decide | omega) ⟨rfl, rfl, r2, rfl, r2s⟩
  · skip
    refine r_aaldN hX hP rfl al_178 rfl sA (by first | decide | omega) (by first | decide | omega) (fun r2 r2e r2n => ?_)
    have r2s : S r2 = 138 := by rw [r2e]; exact eA
    exact r_retR hX hP rfl rfl (by first | exact Or.inl ⟨_, rfl⟩ | exact Or.inr ⟨_, rfl⟩) (by first | decide | omega) (by first | decide | omega) ⟨rfl, rfl, r2, rfl, r2s⟩
set_option maxRecDepth 100000 in
set_option maxHeartbeats 4000000 in
theorem c_get_Lpi (E : En) (S : Sg) (G : Gh) (this : Int) (index : Int) (hS : S this = 157) (sz : Int) (sz_e : sz = G 157 this 2) (index_a : 0 ≤ index) (index_b : index ≤ 59) (pre0 : index + 1 ≤ sz) (ci : CI E S G) : Calls E mJx4a65c_get_915e3 [(2, this), (0, index)] S G 2 0 0 (fun r S' G' => S = S' ∧ G = G' ∧ ∃ z : Int, r = some (2, z) ∧ S z = 138) := by
  refine calls_by [(0, (2, this)), (1, (0, index))] rfl rfl (Nat.le_of_ble_eq_true rfl) (fun X hX => ?_)
  have hP := hPJx4a65c_get_915e3
  refine r_peekI hX (tl_157 2 rfl (by decide)) hS (fun sz_o sz_oe sz_oa sz_ob => ?_)
  obtain rfl : sz = sz_o := sz_e.trans sz_oe.symm
  refine r_ex hX hP 2 (pc' := 2) (st' := [(2, this), (0, index)]) (lo' := [(0, (2, this)), (1, (0, index))]) rfl ?_
  refine r_getKI hX hP rfl fl_Jx4a65c_48_157 hS (x := sz) sz_e ?_
  refine r_callS gd hX hP rfl cs_Jx4a65c_118 (d' := 1) (mc' := 0) (ms' := 0) (as' := [(0, index), (0, sz)]) (st := []) (by first | decide | omega) (by first | decide | omega) (by first | decide | omega) rfl rfl (Nat.le_of_ble_eq_true rfl) (c_J15_checkIndex_7cf53 E S G index sz (by first | decide | omega) (by first | decide | omega) (by first | decide | omega) (by first | decide | omega) (by first | decide | omega)) ?_
  rintro _ _ _ ⟨rfl, rfl, z1, rfl, z1a, z1b⟩
  refine r_ex hX hP 3 (pc' := 11) (st' := [(0, index), (2, this)]) (lo' := [(0, (2, this)), (1, (0, index))]) rfl ?_
  refine r_callV gd hX hP rfl cv_Jx4a65c_123_157 hS (d' := 0) (mc' := 0) (ms' := 0) (as' := [(0, index)]) (st := []) (by first | decide | omega) (by first | decide | omega) (by first | decide | omega) rfl rfl (Nat.le_of_ble_eq_true rfl) (c_ed_Lpi E S G this index hS sz sz_e (by first | decide | omega) (by first | decide | omega) (by first | decide | omega) ci) ?_
  rintro _ _ _ ⟨rfl, rfl, z2, rfl, z2s⟩
  exact r_retR hX hP rfl rfl (by first | exact Or.inl ⟨_, rfl⟩ | exact Or.inr ⟨_, rfl⟩) (by first | decide | omega) (by first | decide | omega) ⟨rfl, rfl, z2, rfl, z2s⟩
set_option maxRecDepth 100000 in
set_option maxHeartbeats 4000000 in
theorem c_size_Lop (E : En) (S : Sg) (G : Gh) (this : Int) (hS : S this = 158) (sz : Int) (sz_e : sz = G 158 this 2) : Calls E mJx4a65c_size_8abf5 [(2, this)] S G 0 0 0 (fun r S' G' => S = S' ∧ G = G' ∧ ∃ z : Int, r = some (0, z) ∧ 0 ≤ z ∧ z ≤ 10 ∧ z = sz) := by
  refine calls_by [(0, (2, this))] rfl rfl (Nat.le_of_ble_eq_true rfl) (fun X hX => ?_)
  have hP := hPJx4a65c_size_8abf5
  refine r_peekI hX (tl_158 2 rfl (by decide)) hS (fun sz_o sz_oe sz_oa sz_ob => ?_)
  obtain rfl : sz = sz_o := sz_e.trans sz_oe.symm
  refine r_ex hX hP 1 (pc' := 1) (st' := [(2, this)]) (lo' := [(0, (2, this))]) rfl ?_
  refine r_getKI hX hP rfl fl_Jx4a65c_48_158 hS (x := sz) sz_e ?_
  exact r_retI hX hP rfl rfl (by first | decide | omega) (by first | decide | omega) ⟨rfl, rfl, sz, rfl, (by first | decide | omega), (by first | decide | omega), (by first | decide | omega)⟩
set_option maxRecDepth 100000 in
set_option maxHeartbeats 4000000 in
theorem c_ed_Lop (E : En) (S : Sg) (G : Gh) (this : Int) (index : Int) (hS : S this = 158) (sz : Int) (sz_e : sz = G 158 this 2) (index_a : 0 ≤ index) (index_b : index ≤ 9) (pre0 : index + 1 ≤ sz) (ci : CI E S G) : Calls E mJx4a65c_elementData_915e3 [(2, this), (0, index)] S G 0 0 0 (fun r S' G' => S = S' ∧ G = G' ∧ ∃ z : Int, r = some (2, z) ∧ S z = 141) := by
  refine calls_by [(0, (2, this)), (1, (0, index))] rfl rfl (Nat.le_of_ble_eq_true rfl) (fun X hX => ?_)
  have hP := hPJx4a65c_elementData_915e3
  refine r_peekI hX (tl_158 2 rfl (by decide)) hS (fun sz_o sz_oe sz_oa sz_ob => ?_)
  obtain rfl : sz = sz_o := sz_e.trans sz_oe.symm
  refine r_ex hX hP 1 (pc' := 1) (st' := [(2, this)]) (lo' := [(0, (2, this)), (1, (0, index))]) rfl ?_
  refine r_get5 hX hP rfl fl_Jx4a65c_9_158 hS (fun ef1 ef1e ef1o => ?_)
  refine r_ex hX hP 1 (pc' := 5) (st' := [(0, index), (2, ef1)]) (lo' := [(0, (2, this)), (1, (0, index))]) rfl ?_
  rcases ci_L4 ci hS ef1e sz_e (i := index) (by first | decide | omega) (by first | decide | omega) with ⟨sA, iA, eA⟩
  · skip
    refine r_aaldN hX hP rfl al_179 rfl sA (by first | decide | omega) (by first | decide | omega) (fun r2 r2e r2n => ?_)
    have r2s : S r2 = 141 := by rw [r2e]; exact eA
    exact r_retR hX hP rfl rfl (by first | exact Or.inl ⟨_, rfl⟩ | exact Or.inr ⟨_, rfl⟩) (by first | decide | omega) (by first | decide | omega) ⟨rfl, rfl, r2, rfl, r2s⟩
set_option maxRecDepth 100000 in
set_option maxHeartbeats 4000000 in
theorem c_get_Lop (E : En) (S : Sg) (G : Gh) (this : Int) (index : Int) (hS : S this = 158) (sz : Int) (sz_e : sz = G 158 this 2) (index_a : 0 ≤ index) (index_b : index ≤ 9) (pre0 : index + 1 ≤ sz) (ci : CI E S G) : Calls E mJx4a65c_get_915e3 [(2, this), (0, index)] S G 2 0 0 (fun r S' G' => S = S' ∧ G = G' ∧ ∃ z : Int, r = some (2, z) ∧ S z = 141) := by
  refine calls_by [(0, (2, this)), (1, (0, index))] rfl rfl (Nat.le_of_ble_eq_true rfl) (fun X hX => ?_)
  have hP := hPJx4a65c_get_915e3
  refine r_peekI hX (tl_158 2 rfl (by decide)) hS (fun sz_o sz_oe sz_oa sz_ob => ?_)
  obtain rfl : sz = sz_o := sz_e.trans sz_oe.symm
  refine r_ex hX hP 2 (pc' := 2) (st' := [(2, this), (0, index)]) (lo' := [(0, (2, this)), (1, (0, index))]) rfl ?_
  refine r_getKI hX hP rfl fl_Jx4a65c_48_158 hS (x := sz) sz_e ?_
  refine r_callS gd hX hP rfl cs_Jx4a65c_118 (d' := 1) (mc' := 0) (ms' := 0) (as' := [(0, index), (0, sz)]) (st := []) (by first | decide | omega) (by first | decide | omega) (by first | decide | omega) rfl rfl (Nat.le_of_ble_eq_true rfl) (c_J15_checkIndex_7cf53 E S G index sz (by first | decide | omega) (by first | decide | omega) (by first | decide | omega) (by first | decide | omega) (by first | decide | omega)) ?_
  rintro _ _ _ ⟨rfl, rfl, z1, rfl, z1a, z1b⟩
  refine r_ex hX hP 3 (pc' := 11) (st' := [(0, index), (2, this)]) (lo' := [(0, (2, this)), (1, (0, index))]) rfl ?_
  refine r_callV gd hX hP rfl cv_Jx4a65c_123_158 hS (d' := 0) (mc' := 0) (ms' := 0) (as' := [(0, index)]) (st := []) (by first | decide | omega) (by first | decide | omega) (by first | decide | omega) rfl rfl (Nat.le_of_ble_eq_true rfl) (c_ed_Lop E S G this index hS sz sz_e (by first | decide | omega) (by first | decide | omega) (by first | decide | omega) ci) ?_
  rintro _ _ _ ⟨rfl, rfl, z2, rfl, z2s⟩
  exact r_retR hX hP rfl rfl (by first | exact Or.inl ⟨_, rfl⟩ | exact Or.inr ⟨_, rfl⟩) (by first | decide | omega) (by first | decide | omega) ⟨rfl, rfl, z2, rfl, z2s⟩
set_option maxRecDepth 100000 in
set_option maxHeartbeats 4000000 in
theorem c_size_Lna (E : En) (S : Sg) (G : Gh) (this : Int) (hS : S this = 159) (sz : Int) (sz_e : sz = G 159 this 2) : Calls E mJx4a65c_size_8abf5 [(2, this)] S G 0 0 0 (fun r S' G' => S = S' ∧ G = G' ∧ ∃ z : Int, r = some (0, z) ∧ 0 ≤ z ∧ z ≤ 60 ∧ z = sz) := by
  refine calls_by [(0, (2, this))] rfl rfl (Nat.le_of_ble_eq_true rfl) (fun X hX => ?_)
  have hP := hPJx4a65c_size_8abf5
  refine r_peekI hX (tl_159 2 rfl (by decide)) hS (fun sz_o sz_oe sz_oa sz_ob => ?_)
  obtain rfl : sz = sz_o := sz_e.trans sz_oe.symm
  refine r_ex hX hP 1 (pc' := 1) (st' := [(2, this)]) (lo' := [(0, (2, this))]) rfl ?_
  refine r_getKI hX hP rfl fl_Jx4a65c_48_159 hS (x := sz) sz_e ?_
  exact r_retI hX hP rfl rfl (by first | decide | omega) (by first | decide | omega) ⟨rfl, rfl, sz, rfl, (by first | decide | omega), (by first | decide | omega), (by first | decide | omega)⟩
