def LB0 (E : En) (S : Sg) (G : Gh) (l : Int) : Prop := (G 154 l 1 = Ad E 0 ∧ G 154 l 2 = 0) ∨ (S (G 154 l 1) = 160 ∧ G 154 l 2 ≤ 10 ∧ ∀ i : Int, 0 ≤ i → i < G 154 l 2 → S (G 160 (G 154 l 1) i) = 139) ∨ (S (G 154 l 1) = 161 ∧ G 154 l 2 ≤ 15 ∧ ∀ i : Int, 0 ≤ i → i < G 154 l 2 → S (G 161 (G 154 l 1) i) = 139) ∨ (S (G 154 l 1) = 162 ∧ G 154 l 2 ≤ 22 ∧ ∀ i : Int, 0 ≤ i → i < G 154 l 2 → S (G 162 (G 154 l 1) i) = 139) ∨ (S (G 154 l 1) = 163 ∧ G 154 l 2 ≤ 33 ∧ ∀ i : Int, 0 ≤ i → i < G 154 l 2 → S (G 163 (G 154 l 1) i) = 139) ∨ (S (G 154 l 1) = 164 ∧ G 154 l 2 ≤ 49 ∧ ∀ i : Int, 0 ≤ i → i < G 154 l 2 → S (G 164 (G 154 l 1) i) = 139)
def LB1 (E : En) (S : Sg) (G : Gh) (l : Int) : Prop := (G 155 l 1 = Ad E 0 ∧ G 155 l 2 = 0) ∨ (S (G 155 l 1) = 165 ∧ G 155 l 2 ≤ 10 ∧ ∀ i : Int, 0 ≤ i → i < G 155 l 2 → S (G 165 (G 155 l 1) i) = 140) ∨ (S (G 155 l 1) = 166 ∧ G 155 l 2 ≤ 15 ∧ ∀ i : Int, 0 ≤ i → i < G 155 l 2 → S (G 166 (G 155 l 1) i) = 140) ∨ (S (G 155 l 1) = 167 ∧ G 155 l 2 ≤ 22 ∧ ∀ i : Int, 0 ≤ i → i < G 155 l 2 → S (G 167 (G 155 l 1) i) = 140) ∨ (S (G 155 l 1) = 168 ∧ G 155 l 2 ≤ 33 ∧ ∀ i : Int, 0 ≤ i → i < G 155 l 2 → S (G 168 (G 155 l 1) i) = 140) ∨ (S (G 155 l 1) = 169 ∧ G 155 l 2 ≤ 49 ∧ ∀ i : Int, 0 ≤ i → i < G 155 l 2 → S (G 169 (G 155 l 1) i) = 140)
def LB2 (E : En) (S : Sg) (G : Gh) (l : Int) : Prop := (G 156 l 1 = Ad E 0 ∧ G 156 l 2 = 0) ∨ (S (G 156 l 1) = 170 ∧ G 156 l 2 ≤ 10 ∧ ∀ i : Int, 0 ≤ i → i < G 156 l 2 → S (G 170 (G 156 l 1) i) = 137) ∨ (S (G 156 l 1) = 171 ∧ G 156 l 2 ≤ 15 ∧ ∀ i : Int, 0 ≤ i → i < G 156 l 2 → S (G 171 (G 156 l 1) i) = 137) ∨ (S (G 156 l 1) = 172 ∧ G 156 l 2 ≤ 22 ∧ ∀ i : Int, 0 ≤ i → i < G 156 l 2 → S (G 172 (G 156 l 1) i) = 137)
def LB3 (E : En) (S : Sg) (G : Gh) (l : Int) : Prop := (G 157 l 1 = Ad E 0 ∧ G 157 l 2 = 0) ∨ (S (G 157 l 1) = 173 ∧ G 157 l 2 ≤ 10 ∧ ∀ i : Int, 0 ≤ i → i < G 157 l 2 → S (G 173 (G 157 l 1) i) = 138) ∨ (S (G 157 l 1) = 174 ∧ G 157 l 2 ≤ 15 ∧ ∀ i : Int, 0 ≤ i → i < G 157 l 2 → S (G 174 (G 157 l 1) i) = 138) ∨ (S (G 157 l 1) = 175 ∧ G 157 l 2 ≤ 22 ∧ ∀ i : Int, 0 ≤ i → i < G 157 l 2 → S (G 175 (G 157 l 1) i) = 138) ∨ (S (G 157 l 1) = 176 ∧ G 157 l 2 ≤ 33 ∧ ∀ i : Int, 0 ≤ i → i < G 157 l 2 → S (G 176 (G 157 l 1) i) = 138) ∨ (S (G 157 l 1) = 177 ∧ G 157 l 2 ≤ 49 ∧ ∀ i : Int, 0 ≤ i → i < G 157 l 2 → S (G 177 (G 157 l 1) i) = 138) ∨ (S (G 157 l 1) = 178 ∧ G 157 l 2 ≤ 73 ∧ ∀ i : Int, 0 ≤ i → i < G 157 l 2 → S (G 178 (G 157 l 1) i) = 138)
def LB4 (E : En) (S : Sg) (G : Gh) (l : Int) : Prop := (G 158 l 1 = Ad E 0 ∧ G 158 l 2 = 0) ∨ (S (G 158 l 1) = 179 ∧ G 158 l 2 ≤ 10 ∧ ∀ i : Int, 0 ≤ i → i < G 158 l 2 → S (G 179 (G 158 l 1) i) = 141)
def LB5 (E : En) (S : Sg) (G : Gh) (l : Int) : Prop := (G 159 l 1 = Ad E 0 ∧ G 159 l 2 = 0) ∨ (S (G 159 l 1) = 180 ∧ G 159 l 2 ≤ 10 ∧ ∀ i : Int, 0 ≤ i → i < G 159 l 2 → S (G 180 (G 159 l 1) i) = 141) ∨ (S (G 159 l 1) = 181 ∧ G 159 l 2 ≤ 15 ∧ ∀ i : Int, 0 ≤ i → i < G 159 l 2 → S (G 181 (G 159 l 1) i) = 141) ∨ (S (G 159 l 1) = 182 ∧ G 159 l 2 ≤ 22 ∧ ∀ i : Int, 0 ≤ i → i < G 159 l 2 → S (G 182 (G 159 l 1) i) = 141) ∨ (S (G 159 l 1) = 183 ∧ G 159 l 2 ≤ 33 ∧ ∀ i : Int, 0 ≤ i → i < G 159 l 2 → S (G 183 (G 159 l 1) i) = 141) ∨ (S (G 159 l 1) = 184 ∧ G 159 l 2 ≤ 49 ∧ ∀ i : Int, 0 ≤ i → i < G 159 l 2 → S (G 184 (G 159 l 1) i) = 141) ∨ (S (G 159 l 1) = 185 ∧ G 159 l 2 ≤ 73 ∧ ∀ i : Int, 0 ≤ i → i < G 159 l 2 → S (G 185 (G 159 l 1) i) = 141)
theorem le_store {S : Sg} {G : Gh} {C ed s e el : Int} (h : ∀ i : Int, 0 ≤ i → i < s → S (G C ed i) = el) (he : S e = el) : ∀ i : Int, 0 ≤ i → i < s + 1 → S (up G C ed s e C ed i) = el := by
  intro i h0 h1
  by_cases q : i = s
  · subst q
    rw [up_self]
    exact he
  · rw [up_ne (fun w => q w.2.2)]
    exact h i h0 (by first | decide | omega)
theorem lb_mk {S : Sg} {G' : Gh} {C L l ar s n el : Int} (ae : ar = G' L l 1) (hl : S ar = C) (ez : s + 1 = G' L l 2) (hn : s + 1 ≤ n) (h : ∀ i : Int, 0 ≤ i → i < s + 1 → S (G' C ar i) = el) : S (G' L l 1) = C ∧ G' L l 2 ≤ n ∧ ∀ i : Int, 0 ≤ i → i < G' L l 2 → S (G' C (G' L l 1) i) = el := by
  rw [← ae, ← ez]
  exact ⟨hl, hn, h⟩
theorem ck_139_O : Ck 139 "java/lang/Object" := ⟨2, 9, fs_139, RX1, TX1, rfl, by decide, rfl, Or.inr (List.mem_filter.mpr ⟨sg11 _ (List.mem_of_getElem? (i := 42) rfl), rfl⟩)⟩
theorem co_J7_copyOf_6403c : Co mJ7_copyOf_6403c 3 := ⟨(tbg sg3 117 rfl rfl), (tbg sg1 15 rfl rfl), by decide, by decide, by decide +kernel, by decide⟩
theorem cs_J7_300 : Cs RJ7 300 mJ7_copyOf_6403c 3 := ⟨co_J7_copyOf_6403c, (tbg sg3 115 rfl rfl), (tbg sg3 116 rfl rfl)⟩
theorem ck_140_O : Ck 140 "java/lang/Object" := ⟨2, 9, fs_140, RX1, TX1, rfl, by decide, rfl, Or.inr (List.mem_filter.mpr ⟨sg11 _ (List.mem_of_getElem? (i := 42) rfl), rfl⟩)⟩
theorem ck_137_O : Ck 137 "java/lang/Object" := ⟨3, 7, fs_137, RX2, TX2, rfl, by decide, rfl, Or.inr (List.mem_filter.mpr ⟨sg11 _ (List.mem_of_getElem? (i := 44) rfl), rfl⟩)⟩
theorem ck_138_O : Ck 138 "java/lang/Object" := ⟨6, 6, fs_138, RX5, TX5, rfl, by decide, rfl, Or.inr (List.mem_filter.mpr ⟨sg11 _ (List.mem_of_getElem? (i := 45) rfl), rfl⟩)⟩
theorem ck_141_O : Ck 141 "java/lang/Object" := ⟨2, 9, fs_141, RX1, TX1, rfl, by decide, rfl, Or.inr (List.mem_filter.mpr ⟨sg11 _ (List.mem_of_getElem? (i := 42) rfl), rfl⟩)⟩
theorem fp_Jx4a65c_9_154 : Fp RJx4a65c 9 154 1 (5, 160, 164) := ⟨fl_Jx4a65c_9_154, 0, 3, fs_154, RJx4a65c, TJx4a65c, (.array (.object "java/lang/Object")), rfl, rfl, rfl, by decide +kernel, fun E S x h => reffit (fun _ => rfl) ⟨rfl, fun _ => rfl⟩ (by decide) x⟩
theorem co_Jx4a65c_grow_92f84 : Co mJx4a65c_grow_92f84 1 := ⟨(tbg sg3 84 rfl rfl), (tbg sg1 6 rfl rfl), by decide, by decide, by decide +kernel, by decide⟩
theorem cv_Jx4a65c_69_154 : Cv RJx4a65c 69 mJx4a65c_grow_92f84 154 1 := ⟨co_Jx4a65c_grow_92f84, (tbg sg3 81 rfl rfl), (tbg sg3 83 rfl rfl), 0, 3, fs_154, RJx4a65c, TJx4a65c, rfl, by decide, rfl, (tbm 4 (by decide +kernel) rfl)⟩
theorem co_J8_newLength_cabcc : Co mJ8_newLength_cabcc 3 := ⟨(tbg sg3 87 rfl rfl), (tbg sg1 13 rfl rfl), by decide, by decide, by decide +kernel, by decide⟩
theorem cs_Jx4a65c_73 : Cs RJx4a65c 73 mJ8_newLength_cabcc 3 := ⟨co_J8_newLength_cabcc, (tbg sg3 85 rfl rfl), (tbg sg3 86 rfl rfl)⟩
theorem co_J7_copyOf_1904c : Co mJ7_copyOf_1904c 2 := ⟨(tbg sg3 97 rfl rfl), (tbg sg1 15 rfl rfl), by decide, by decide, by decide +kernel, by decide⟩
theorem cs_Jx4a65c_66 : Cs RJx4a65c 66 mJ7_copyOf_1904c 2 := ⟨co_J7_copyOf_1904c, (tbg sg3 95 rfl rfl), (tbg sg3 96 rfl rfl)⟩
theorem fp_Jx4a65c_9_155 : Fp RJx4a65c 9 155 1 (5, 165, 169) := ⟨fl_Jx4a65c_9_155, 0, 3, fs_155, RJx4a65c, TJx4a65c, (.array (.object "java/lang/Object")), rfl, rfl, rfl, by decide +kernel, fun E S x h => reffit (fun _ => rfl) ⟨rfl, fun _ => rfl⟩ (by decide) x⟩
theorem cv_Jx4a65c_69_155 : Cv RJx4a65c 69 mJx4a65c_grow_92f84 155 1 := ⟨co_Jx4a65c_grow_92f84, (tbg sg3 81 rfl rfl), (tbg sg3 83 rfl rfl), 0, 3, fs_155, RJx4a65c, TJx4a65c, rfl, by decide, rfl, (tbm 4 (by decide +kernel) rfl)⟩
theorem fp_Jx4a65c_9_156 : Fp RJx4a65c 9 156 1 (5, 170, 172) := ⟨fl_Jx4a65c_9_156, 0, 3, fs_156, RJx4a65c, TJx4a65c, (.array (.object "java/lang/Object")), rfl, rfl, rfl, by decide +kernel, fun E S x h => reffit (fun _ => rfl) ⟨rfl, fun _ => rfl⟩ (by decide) x⟩
theorem cv_Jx4a65c_69_156 : Cv RJx4a65c 69 mJx4a65c_grow_92f84 156 1 := ⟨co_Jx4a65c_grow_92f84, (tbg sg3 81 rfl rfl), (tbg sg3 83 rfl rfl), 0, 3, fs_156, RJx4a65c, TJx4a65c, rfl, by decide, rfl, (tbm 4 (by decide +kernel) rfl)⟩
theorem fp_Jx4a65c_9_157 : Fp RJx4a65c 9 157 1 (5, 173, 178) := ⟨fl_Jx4a65c_9_157, 0, 3, fs_157, RJx4a65c, TJx4a65c, (.array (.object "java/lang/Object")), rfl, rfl, rfl, by decide +kernel, fun E S x h => reffit (fun _ => rfl) ⟨rfl, fun _ => rfl⟩ (by decide) x⟩
theorem cv_Jx4a65c_69_157 : Cv RJx4a65c 69 mJx4a65c_grow_92f84 157 1 := ⟨co_Jx4a65c_grow_92f84, (tbg sg3 81 rfl rfl), (tbg sg3 83 rfl rfl), 0, 3, fs_157, RJx4a65c, TJx4a65c, rfl, by decide, rfl, (tbm 4 (by decide +kernel) rfl)⟩
theorem fp_Jx4a65c_9_158 : Fp RJx4a65c 9 158 1 (5, 179, 179) := ⟨fl_Jx4a65c_9_158, 0, 3, fs_158, RJx4a65c, TJx4a65c, (.array (.object "java/lang/Object")), rfl, rfl, rfl, by decide +kernel, fun E S x h => reffit (fun _ => rfl) ⟨rfl, fun _ => rfl⟩ (by decide) x⟩
theorem cv_Jx4a65c_69_158 : Cv RJx4a65c 69 mJx4a65c_grow_92f84 158 1 := ⟨co_Jx4a65c_grow_92f84, (tbg sg3 81 rfl rfl), (tbg sg3 83 rfl rfl), 0, 3, fs_158, RJx4a65c, TJx4a65c, rfl, by decide, rfl, (tbm 4 (by decide +kernel) rfl)⟩
theorem fp_Jx4a65c_9_159 : Fp RJx4a65c 9 159 1 (5, 180, 185) := ⟨fl_Jx4a65c_9_159, 0, 3, fs_159, RJx4a65c, TJx4a65c, (.array (.object "java/lang/Object")), rfl, rfl, rfl, by decide +kernel, fun E S x h => reffit (fun _ => rfl) ⟨rfl, fun _ => rfl⟩ (by decide) x⟩
theorem cv_Jx4a65c_69_159 : Cv RJx4a65c 69 mJx4a65c_grow_92f84 159 1 := ⟨co_Jx4a65c_grow_92f84, (tbg sg3 81 rfl rfl), (tbg sg3 83 rfl rfl), 0, 3, fs_159, RJx4a65c, TJx4a65c, rfl, by decide, rfl, (tbm 4 (by decide +kernel) rfl)⟩
theorem co_Jx4a65c_grow_d5877 : Co mJx4a65c_grow_d5877 0 := ⟨(tbg sg3 80 rfl rfl), (tbg sg1 6 rfl rfl), by decide, by decide, by decide +kernel, by decide⟩
theorem cv_Jx4a65c_129_154 : Cv RJx4a65c 129 mJx4a65c_grow_d5877 154 0 := ⟨co_Jx4a65c_grow_d5877, (tbg sg3 77 rfl rfl), (tbg sg3 79 rfl rfl), 0, 3, fs_154, RJx4a65c, TJx4a65c, rfl, by decide, rfl, (tbm 3 (by decide +kernel) rfl)⟩
theorem fp_Jx4a65c_48_154 : Fp RJx4a65c 48 154 2 (0, 0, 40) := ⟨fl_Jx4a65c_48_154, 0, 3, fs_154, RJx4a65c, TJx4a65c, .int, rfl, rfl, rfl, by decide +kernel, fun E S x h => ⟨rfl, rfl⟩⟩
theorem cv_Jx4a65c_129_155 : Cv RJx4a65c 129 mJx4a65c_grow_d5877 155 0 := ⟨co_Jx4a65c_grow_d5877, (tbg sg3 77 rfl rfl), (tbg sg3 79 rfl rfl), 0, 3, fs_155, RJx4a65c, TJx4a65c, rfl, by decide, rfl, (tbm 3 (by decide +kernel) rfl)⟩
theorem fp_Jx4a65c_48_155 : Fp RJx4a65c 48 155 2 (0, 0, 40) := ⟨fl_Jx4a65c_48_155, 0, 3, fs_155, RJx4a65c, TJx4a65c, .int, rfl, rfl, rfl, by decide +kernel, fun E S x h => ⟨rfl, rfl⟩⟩
theorem cv_Jx4a65c_129_156 : Cv RJx4a65c 129 mJx4a65c_grow_d5877 156 0 := ⟨co_Jx4a65c_grow_d5877, (tbg sg3 77 rfl rfl), (tbg sg3 79 rfl rfl), 0, 3, fs_156, RJx4a65c, TJx4a65c, rfl, by decide, rfl, (tbm 3 (by decide +kernel) rfl)⟩
theorem fp_Jx4a65c_48_156 : Fp RJx4a65c 48 156 2 (0, 0, 16) := ⟨fl_Jx4a65c_48_156, 0, 3, fs_156, RJx4a65c, TJx4a65c, .int, rfl, rfl, rfl, by decide +kernel, fun E S x h => ⟨rfl, rfl⟩⟩
theorem cv_Jx4a65c_129_157 : Cv RJx4a65c 129 mJx4a65c_grow_d5877 157 0 := ⟨co_Jx4a65c_grow_d5877, (tbg sg3 77 rfl rfl), (tbg sg3 79 rfl rfl), 0, 3, fs_157, RJx4a65c, TJx4a65c, rfl, by decide, rfl, (tbm 3 (by decide +kernel) rfl)⟩
theorem fp_Jx4a65c_48_157 : Fp RJx4a65c 48 157 2 (0, 0, 60) := ⟨fl_Jx4a65c_48_157, 0, 3, fs_157, RJx4a65c, TJx4a65c, .int, rfl, rfl, rfl, by decide +kernel, fun E S x h => ⟨rfl, rfl⟩⟩
theorem cv_Jx4a65c_129_158 : Cv RJx4a65c 129 mJx4a65c_grow_d5877 158 0 := ⟨co_Jx4a65c_grow_d5877, (tbg sg3 77 rfl rfl), (tbg sg3 79 rfl rfl), 0, 3, fs_158, RJx4a65c, TJx4a65c, rfl, by decide, rfl, (tbm 3 (by decide +kernel) rfl)⟩
theorem fp_Jx4a65c_48_158 : Fp RJx4a65c 48 158 2 (0, 0, 10) := ⟨fl_Jx4a65c_48_158, 0, 3, fs_158, RJx4a65c, TJx4a65c, .int, rfl, rfl, rfl, by decide +kernel, fun E S x h => ⟨rfl, rfl⟩⟩
theorem cv_Jx4a65c_129_159 : Cv RJx4a65c 129 mJx4a65c_grow_d5877 159 0 := ⟨co_Jx4a65c_grow_d5877, (tbg sg3 77 rfl rfl), (tbg sg3 79 rfl rfl), 0, 3, fs_159, RJx4a65c, TJx4a65c, rfl, by decide, rfl, (tbm 3 (by decide +kernel) rfl)⟩
theorem fp_Jx4a65c_48_159 : Fp RJx4a65c 48 159 2 (0, 0, 60) := ⟨fl_Jx4a65c_48_159, 0, 3, fs_159, RJx4a65c, TJx4a65c, .int, rfl, rfl, rfl, by decide +kernel, fun E S x h => ⟨rfl, rfl⟩⟩
set_option maxRecDepth 100000 in
set_option maxHeartbeats 4000000 in
theorem c_J8_newLength_cabcc (E : En) (S : Sg) (G : Gh) (oldLength : Int) (minGrowth : Int) (prefGrowth : Int) (oldLength_a : 1 ≤ oldLength) (oldLength_b : oldLength ≤ 100) (minGrowth_a : 0 ≤ minGrowth) (minGrowth_b : minGrowth ≤ 100) (prefGrowth_a : 0 ≤ prefGrowth) (prefGrowth_b : prefGrowth ≤ 100) : Calls E mJ8_newLength_cabcc [(0, oldLength), (0, minGrowth), (0, prefGrowth)] S G 3 0 0 (fun r S' G' => S = S' ∧ G = G' ∧ ∃ z : Int, r = some (0, z) ∧ 0 ≤ z ∧ z ≤ 200 ∧ (z = oldLength + minGrowth ∨ z = oldLength + prefGrowth) ∧ oldLength + minGrowth ≤ z ∧ oldLength + prefGrowth ≤ z) := by
  refine calls_by [(0, (0, oldLength)), (1, (0, minGrowth)), (2, (0, prefGrowth))] rfl rfl (Nat.le_of_ble_eq_true rfl) (fun X hX => ?_)
  have hP := hPJ8_newLength_cabcc
  refine r_ex hX hP 3 (pc' := 3) (st' := [(0, prefGrowth), (0, minGrowth), (0, oldLength)]) (lo' := [(0, (0, oldLength)), (1, (0, minGrowth)), (2, (0, prefGrowth))]) rfl ?_
  refine r_mmaxI hX hP rfl (tbg sg3 88 rfl rfl) (tbg sg3 89 rfl rfl) (tbg sg1 14 rfl rfl) (tbg sg3 90 rfl rfl) (by decide) (by decide) (by decide) (Nat.le_of_ble_eq_true rfl) (by first | decide | omega) (by first | decide | omega) (by first | decide | omega) (by first | decide | omega) (fun c1 => ?_) (fun c1 => ?_)
  · skip
    refine r_ex hX hP 4 (pc' := 10) (st' := [(0, (oldLength + minGrowth)), (0, 0)]) (lo' := [(0, (0, oldLength)), (1, (0, minGrowth)), (2, (0, prefGrowth)), (3, (0, (oldLength + minGrowth)))]) rfl ?_
    refine r_ic_ge hX hP rfl (tgt := 21) rfl (by first | decide | omega) (by first | decide | omega) (by first | decide | omega) (by first | decide | omega) (fun c2 => ?_) (fun c2 => ?_)
    · skip
      exfalso; omega
    · skip
      refine r_ex hX hP 1 (pc' := 14) (st' := [(0, (oldLength + minGrowth))]) (lo' := [(0, (0, oldLength)), (1, (0, minGrowth)), (2, (0, prefGrowth)), (3, (0, (oldLength + minGrowth)))]) rfl ?_
      refine r_ldc hX hP rfl (v := 2147483639) (tbg sg3 91 rfl rfl) ?_
      refine r_ic_gt hX hP rfl (tgt := 21) rfl (by first | decide | omega) (by first | decide | omega) (by first | decide | omega) (by first | decide | omega) (fun c3 => ?_) (fun c3 => ?_)
      · skip
        exfalso; omega
      · skip
        refine r_ex hX hP 1 (pc' := 20) (st' := [(0, (oldLength + minGrowth))]) (lo' := [(0, (0, oldLength)), (1, (0, minGrowth)), (2, (0, prefGrowth)), (3, (0, (oldLength + minGrowth)))]) rfl ?_
        exact r_retI hX hP rfl rfl (by first | decide | omega) (by first | decide | omega) ⟨rfl, rfl, (oldLength + minGrowth), rfl, (by first | decide | omega), (by first | decide | omega), (by first | decide | omega), (by first | decide | omega), (by first | decide | omega)⟩
  · skip
    refine r_ex hX hP 4 (pc' := 10) (st' := [(0, (oldLength + prefGrowth)), (0, 0)]) (lo' := [(0, (0, oldLength)), (1, (0, minGrowth)), (2, (0, prefGrowth)), (3, (0, (oldLength + prefGrowth)))]) rfl ?_
    refine r_ic_ge hX hP rfl (tgt := 21) rfl (by first | decide | omega) (by first | decide | omega) (by first | decide | omega) (by first | decide | omega) (fun c4 => ?_) (fun c4 => ?_)
    · skip
      exfalso; omega
    · skip
      refine r_ex hX hP 1 (pc' := 14) (st' := [(0, (oldLength + prefGrowth))]) (lo' := [(0, (0, oldLength)), (1, (0, minGrowth)), (2, (0, prefGrowth)), (3, (0, (oldLength + prefGrowth)))]) rfl ?_
      refine r_ldc hX hP rfl (v := 2147483639) (tbg sg3 91 rfl rfl) ?_
      refine r_ic_gt hX hP rfl (tgt := 21) rfl (by first | decide | omega) (by first | decide | omega) (by first | decide | omega) (by first | decide | omega) (fun c5 => ?_) (fun c5 => ?_)
      · skip
        exfalso; omega
      · skip
        refine r_ex hX hP 1 (pc' := 20) (st' := [(0, (oldLength + prefGrowth))]) (lo' := [(0, (0, oldLength)), (1, (0, minGrowth)), (2, (0, prefGrowth)), (3, (0, (oldLength + prefGrowth)))]) rfl ?_
        exact r_retI hX hP rfl rfl (by first | decide | omega) (by first | decide | omega) ⟨rfl, rfl, (oldLength + prefGrowth), rfl, (by first | decide | omega), (by first | decide | omega), (by first | decide | omega), (by first | decide | omega), (by first | decide | omega)⟩
set_option maxRecDepth 100000 in
set_option maxHeartbeats 4000000 in
theorem c_cp3_Lis_0 (E : En) (S : Sg) (G : Gh) (original : Int) (newLength : Int) (newType : Int) (original_s : S original = 160) (newLength_a : 15 ≤ newLength) (newLength_b : newLength ≤ 15) (xt : newType = mI E) : Calls E mJ7_copyOf_6403c [(2, original), (0, newLength), (2, newType)] S G 4 1 15 (fun r S' G' => Gr [161] [(161, -1)] S G S' G' ∧ ∃ z : Int, r = some (2, z) ∧ S' z = 161 ∧ (∀ i : Int, 0 ≤ i → i < 10 → G' 161 z i = G 160 original i)) := by
  refine calls_by [(0, (2, original)), (1, (0, newLength)), (2, (2, newType))] rfl rfl (Nat.le_of_ble_eq_true rfl) (fun X hX => ?_)
  have hP := hPJ7_copyOf_6403c
  obtain rfl : newLength = 15 := by omega
  subst xt
  refine r_ex hX hP 1 (pc' := 1) (st' := [(2, (mI E))]) (lo' := [(0, (2, original)), (1, (0, 15)), (2, (2, (mI E)))]) rfl ?_
  refine r_ldcM hX hP rfl (tbg sg3 118 rfl rfl) ?_
  refine r_acmpN hX hP rfl (tgt := 13) rfl (Int.le_trans (by decide) (Int.natCast_nonneg _)) (Int.le_trans (by decide) (Int.natCast_nonneg _)) (fun q => absurd rfl q) (fun _ => ?_)
  refine r_ex hX hP 1 (pc' := 7) (st' := [(0, 15)]) (lo' := [(0, (2, original)), (1, (0, 15)), (2, (2, (mI E)))]) rfl ?_
  refine r_anewA hX hP rfl (L := 161) (n := 15) al_161 (tbg sg3 120 rfl rfl) (by decide) (by first | decide | omega) (by first | decide | omega) (fun n1 S2 G3 n1z n1n n1l g4 n1v => ?_)
  have z5 : S n1 = 0 := gr_zero (gr_refl [161] [(161, -1)] S G) n1z
  have s6 : S2 original = 160 := gr_lab g4 original_s (by decide)
  have g7 : Gr [161] [(161, -1)] S G S2 G3 := gr_call (gr_refl [161] [(161, -1)] S G) g4 rfl rfl
  refine r_ex hX hP 7 (pc' := 30) (st' := [(2, original), (0, 0), (2, n1), (0, 0), (2, original)]) (lo' := [(0, (2, original)), (1, (0, 15)), (2, (2, (mI E))), (3, (2, n1))]) rfl ?_
  refine r_alen hX hP rfl al_160 s6 ?_
  refine r_ex hX hP 1 (pc' := 32) (st' := [(0, 15), (0, 10), (0, 0), (2, n1), (0, 0), (2, original)]) (lo' := [(0, (2, original)), (1, (0, 15)), (2, (2, (mI E))), (3, (2, n1))]) rfl ?_
  refine r_mminI hX hP rfl (tbg sg3 121 rfl rfl) (tbg sg3 122 rfl rfl) (tbg sg1 14 rfl rfl) (tbg sg3 123 rfl rfl) (by decide) (by decide) (by decide) (Nat.le_of_ble_eq_true rfl) (by first | decide | omega) (by first | decide | omega) (by first | decide | omega) (by first | decide | omega) (fun c8 => ?_) (fun c8 => ?_)
  · skip
    refine r_acopyQ hX hP rfl (n := 10) al_160 al_161 ck_139_O (tbg sg3 124 rfl rfl) (tbg sg3 126 rfl rfl) (tbg sg3 125 rfl rfl) (tbg sg1 16 rfl rfl) (by first | decide | omega) (Nat.le_of_ble_eq_true rfl) s6 n1l (by decide) (by decide) ?_
    have cq10 : ∀ i : Int, 0 ≤ i → i < 10 → cpy G3 160 original 161 n1 10 161 n1 i = G3 160 original i := fun i h0 h1 => cpy_in h0 h1
    rw [cpy_hw]
    rw [cpy_hw] at cq10
    generalize cpy _ _ _ _ _ _ = G9 at cq10 ⊢
    refine r_ex hX hP 1 (pc' := 39) (st' := [(2, n1)]) (lo' := [(0, (2, original)), (1, (0, 15)), (2, (2, (mI E))), (3, (2, n1))]) rfl ?_
    have g11 : Gr [161] [(161, -1)] S G S2 (hw [(161, -1)] G3 G9) := (gr_hw g7 rfl)
    exact r_retR hX hP rfl rfl (by first | exact Or.inl ⟨_, rfl⟩ | exact Or.inr ⟨_, rfl⟩) (by first | decide | omega) (by first | decide | omega) ⟨g11, n1, rfl, n1l, (fun i h0 h1 => (cq10 i h0 h1).trans (gr_at g4 original_s (by decide) rfl))⟩
  · skip
    exfalso; omega
set_option maxRecDepth 100000 in
set_option maxHeartbeats 4000000 in
theorem c_cp2_Lis_0 (E : En) (S : Sg) (G : Gh) (original : Int) (newLength : Int) (original_s : S original = 160) (newLength_a : 15 ≤ newLength) (newLength_b : newLength ≤ 15) : Calls E mJ7_copyOf_1904c [(2, original), (0, newLength)] S G 6 1 15 (fun r S' G' => Gr [161] [(161, -1)] S G S' G' ∧ ∃ z : Int, r = some (2, z) ∧ S' z = 161 ∧ (∀ i : Int, 0 ≤ i → i < 10 → G' 161 z i = G 160 original i)) := by
  refine calls_by [(0, (2, original)), (1, (0, newLength))] rfl rfl (Nat.le_of_ble_eq_true rfl) (fun X hX => ?_)
  have hP := hPJ7_copyOf_1904c
  obtain rfl : newLength = 15 := by omega
  refine r_ex hX hP 3 (pc' := 3) (st' := [(2, original), (0, 15), (2, original)]) (lo' := [(0, (2, original)), (1, (0, 15))]) rfl ?_
  refine r_getCls hX hP rfl (L := 160) al_160 original_s (tbg sg3 98 rfl rfl) (List.mem_filter.mpr ⟨sg11 _ (List.mem_of_getElem? (i := 50) rfl), rfl⟩) (tbg sg11 49 rfl rfl) (tbg sg3 99 rfl rfl) (tbg sg3 114 rfl rfl) (by first | decide | omega) (Nat.le_of_ble_eq_true rfl) ?_
  refine r_callS gd hX hP rfl cs_J7_300 (d' := 4) (mc' := 1) (ms' := 15) (as' := [(2, original), (0, 15), (2, (mI E))]) (st := []) (by first | decide | omega) (by first | decide | omega) (by first | decide | omega) rfl rfl (Nat.le_of_ble_eq_true rfl) (c_cp3_Lis_0 E S G original 15 (mI E) original_s (by first | decide | omega) (by first | decide | omega) rfl) ?_
  rintro _ S1 G2 ⟨g3, z4, rfl, z4s, q5⟩
  have s6 : S1 original = 160 := gr_lab g3 original_s (by decide)
  have g7 : Gr [161] [(161, -1)] S G S1 G2 := gr_call (gr_refl [161] [(161, -1)] S G) g3 rfl rfl
  exact r_retR hX hP rfl rfl (by first | exact Or.inl ⟨_, rfl⟩ | exact Or.inr ⟨_, rfl⟩) (by first | decide | omega) (by first | decide | omega) ⟨g7, z4, rfl, z4s, q5⟩
set_option maxRecDepth 100000 in
set_option maxHeartbeats 4000000 in
theorem c_cp3_Lis_1 (E : En) (S : Sg) (G : Gh) (original : Int) (newLength : Int) (newType : Int) (original_s : S original = 161) (newLength_a : 22 ≤ newLength) (newLength_b : newLength ≤ 22) (xt : newType = mI E) : Calls E mJ7_copyOf_6403c [(2, original), (0, newLength), (2, newType)] S G 4 1 22 (fun r S' G' => Gr [162] [(162, -1)] S G S' G' ∧ ∃ z : Int, r = some (2, z) ∧ S' z = 162 ∧ (∀ i : Int, 0 ≤ i → i < 15 → G' 162 z i = G 161 original i)) := by
  refine calls_by [(0, (2, original)), (1, (0, newLength)), (2, (2, newType))] rfl rfl (Nat.le_of_ble_eq_true rfl) (fun X hX => ?_)
  have hP := hPJ7_copyOf_6403c
  obtain rfl : newLength = 22 := by omega
  subst xt
  refine r_ex hX hP 1 (pc' := 1) (st' := [(2, (mI E))]) (lo' := [(0, (2, original)), (1, (0, 22)), (2, (2, (mI E)))]) rfl ?_
  refine r_ldcM hX hP rfl (tbg sg3 118 rfl rfl) ?_
  refine r_acmpN hX hP rfl (tgt := 13) rfl (Int.le_trans (by decide) (Int.natCast_nonneg _)) (Int.le_trans (by decide) (Int.natCast_nonneg _)) (fun q => absurd rfl q) (fun _ => ?_)
  refine r_ex hX hP 1 (pc' := 7) (st' := [(0, 22)]) (lo' := [(0, (2, original)), (1, (0, 22)), (2, (2, (mI E)))]) rfl ?_
  refine r_anewA hX hP rfl (L := 162) (n := 22) al_162 (tbg sg3 120 rfl rfl) (by decide) (by first | decide | omega) (by first | decide | omega) (fun n1 S2 G3 n1z n1n n1l g4 n1v => ?_)
  have z5 : S n1 = 0 := gr_zero (gr_refl [162] [(162, -1)] S G) n1z
  have s6 : S2 original = 161 := gr_lab g4 original_s (by decide)
  have g7 : Gr [162] [(162, -1)] S G S2 G3 := gr_call (gr_refl [162] [(162, -1)] S G) g4 rfl rfl
  refine r_ex hX hP 7 (pc' := 30) (st' := [(2, original), (0, 0), (2, n1), (0, 0), (2, original)]) (lo' := [(0, (2, original)), (1, (0, 22)), (2, (2, (mI E))), (3, (2, n1))]) rfl ?_
  refine r_alen hX hP rfl al_161 s6 ?_
  refine r_ex hX hP 1 (pc' := 32) (st' := [(0, 22), (0, 15), (0, 0), (2, n1), (0, 0), (2, original)]) (lo' := [(0, (2, original)), (1, (0, 22)), (2, (2, (mI E))), (3, (2, n1))]) rfl ?_
  refine r_mminI hX hP rfl (tbg sg3 121 rfl rfl) (tbg sg3 122 rfl rfl) (tbg sg1 14 rfl rfl) (tbg sg3 123 rfl rfl) (by decide) (by decide) (by decide) (Nat.le_of_ble_eq_true rfl) (by first | decide | omega) (by first | decide | omega) (by first | decide | omega) (by first | decide | omega) (fun c8 => ?_) (fun c8 => ?_)
  · skip
    refine r_acopyQ hX hP rfl (n := 15) al_161 al_162 ck_139_O (tbg sg3 124 rfl rfl) (tbg sg3 126 rfl rfl) (tbg sg3 125 rfl rfl) (tbg sg1 16 rfl rfl) (by first | decide | omega) (Nat.le_of_ble_eq_true rfl) s6 n1l (by decide) (by decide) ?_
    have cq10 : ∀ i : Int, 0 ≤ i → i < 15 → cpy G3 161 original 162 n1 15 162 n1 i = G3 161 original i := fun i h0 h1 => cpy_in h0 h1
    rw [cpy_hw]
    rw [cpy_hw] at cq10
    generalize cpy _ _ _ _ _ _ = G9 at cq10 ⊢
    refine r_ex hX hP 1 (pc' := 39) (st' := [(2, n1)]) (lo' := [(0, (2, original)), (1, (0, 22)), (2, (2, (mI E))), (3, (2, n1))]) rfl ?_
    have g11 : Gr [162] [(162, -1)] S G S2 (hw [(162, -1)] G3 G9) := (gr_hw g7 rfl)
    exact r_retR hX hP rfl rfl (by first | exact Or.inl ⟨_, rfl⟩ | exact Or.inr ⟨_, rfl⟩) (by first | decide | omega) (by first | decide | omega) ⟨g11, n1, rfl, n1l, (fun i h0 h1 => (cq10 i h0 h1).trans (gr_at g4 original_s (by decide) rfl))⟩
  · skip
    exfalso; omega
set_option maxRecDepth 100000 in
set_option maxHeartbeats 4000000 in
theorem c_cp2_Lis_1 (E : En) (S : Sg) (G : Gh) (original : Int) (newLength : Int) (original_s : S original = 161) (newLength_a : 22 ≤ newLength) (newLength_b : newLength ≤ 22) : Calls E mJ7_copyOf_1904c [(2, original), (0, newLength)] S G 6 1 22 (fun r S' G' => Gr [162] [(162, -1)] S G S' G' ∧ ∃ z : Int, r = some (2, z) ∧ S' z = 162 ∧ (∀ i : Int, 0 ≤ i → i < 15 → G' 162 z i = G 161 original i)) := by
  refine calls_by [(0, (2, original)), (1, (0, newLength))] rfl rfl (Nat.le_of_ble_eq_true rfl) (fun X hX => ?_)
  have hP := hPJ7_copyOf_1904c
  obtain rfl : newLength = 22 := by omega
  refine r_ex hX hP 3 (pc' := 3) (st' := [(2, original), (0, 22), (2, original)]) (lo' := [(0, (2, original)), (1, (0, 22))]) rfl ?_
  refine r_getCls hX hP rfl (L := 161) al_161 original_s (tbg sg3 98 rfl rfl) (List.mem_filter.mpr ⟨sg11 _ (List.mem_of_getElem? (i := 50) rfl), rfl⟩) (tbg sg11 49 rfl rfl) (tbg sg3 99 rfl rfl) (tbg sg3 114 rfl rfl) (by first | decide | omega) (Nat.le_of_ble_eq_true rfl) ?_
  refine r_callS gd hX hP rfl cs_J7_300 (d' := 4) (mc' := 1) (ms' := 22) (as' := [(2, original), (0, 22), (2, (mI E))]) (st := []) (by first | decide | omega) (by first | decide | omega) (by first | decide | omega) rfl rfl (Nat.le_of_ble_eq_true rfl) (c_cp3_Lis_1 E S G original 22 (mI E) original_s (by first | decide | omega) (by first | decide | omega) rfl) ?_
  rintro _ S1 G2 ⟨g3, z4, rfl, z4s, q5⟩
  have s6 : S1 original = 161 := gr_lab g3 original_s (by decide)
  have g7 : Gr [162] [(162, -1)] S G S1 G2 := gr_call (gr_refl [162] [(162, -1)] S G) g3 rfl rfl
  exact r_retR hX hP rfl rfl (by first | exact Or.inl ⟨_, rfl⟩ | exact Or.inr ⟨_, rfl⟩) (by first | decide | omega) (by first | decide | omega) ⟨g7, z4, rfl, z4s, q5⟩
set_option maxRecDepth 100000 in
set_option maxHeartbeats 4000000 in
theorem c_cp3_Lis_2 (E : En) (S : Sg) (G : Gh) (original : Int) (newLength : Int) (newType : Int) (original_s : S original = 162) (newLength_a : 33 ≤ newLength) (newLength_b : newLength ≤ 33) (xt : newType = mI E) : Calls E mJ7_copyOf_6403c [(2, original), (0, newLength), (2, newType)] S G 4 1 33 (fun r S' G' => Gr [163] [(163, -1)] S G S' G' ∧ ∃ z : Int, r = some (2, z) ∧ S' z = 163 ∧ (∀ i : Int, 0 ≤ i → i < 22 → G' 163 z i = G 162 original i)) := by
  refine calls_by [(0, (2, original)), (1, (0, newLength)), (2, (2, newType))] rfl rfl (Nat.le_of_ble_eq_true rfl) (fun X hX => ?_)
  have hP := hPJ7_copyOf_6403c
  obtain rfl : newLength = 33 := by omega
  subst xt
  refine r_ex hX hP 1 (pc' := 1) (st' := [(2, (mI E))]) (lo' := [(0, (2, original)), (1, (0, 33)), (2, (2, (mI E)))]) rfl ?_
  refine r_ldcM hX hP rfl (tbg sg3 118 rfl rfl) ?_
  refine r_acmpN hX hP rfl (tgt := 13) rfl (Int.le_trans (by decide) (Int.natCast_nonneg _)) (Int.le_trans (by decide) (Int.natCast_nonneg _)) (fun q => absurd rfl q) (fun _ => ?_)
  refine r_ex hX hP 1 (pc' := 7) (st' := [(0, 33)]) (lo' := [(0, (2, original)), (1, (0, 33)), (2, (2, (mI E)))]) rfl ?_
  refine r_anewA hX hP rfl (L := 163) (n := 33) al_163 (tbg sg3 120 rfl rfl) (by decide) (by first | decide | omega) (by first | decide | omega) (fun n1 S2 G3 n1z n1n n1l g4 n1v => ?_)
  have z5 : S n1 = 0 := gr_zero (gr_refl [163] [(163, -1)] S G) n1z
  have s6 : S2 original = 162 := gr_lab g4 original_s (by decide)
  have g7 : Gr [163] [(163, -1)] S G S2 G3 := gr_call (gr_refl [163] [(163, -1)] S G) g4 rfl rfl
  refine r_ex hX hP 7 (pc' := 30) (st' := [(2, original), (0, 0), (2, n1), (0, 0), (2, original)]) (lo' := [(0, (2, original)), (1, (0, 33)), (2, (2, (mI E))), (3, (2, n1))]) rfl ?_
  refine r_alen hX hP rfl al_162 s6 ?_
  refine r_ex hX hP 1 (pc' := 32) (st' := [(0, 33), (0, 22), (0, 0), (2, n1), (0, 0), (2, original)]) (lo' := [(0, (2, original)), (1, (0, 33)), (2, (2, (mI E))), (3, (2, n1))]) rfl ?_
  refine r_mminI hX hP rfl (tbg sg3 121 rfl rfl) (tbg sg3 122 rfl rfl) (tbg sg1 14 rfl rfl) (tbg sg3 123 rfl rfl) (by decide) (by decide) (by decide) (Nat.le_of_ble_eq_true rfl) (by first | decide | omega) (by first | decide | omega) (by first | decide | omega) (by first | decide | omega) (fun c8 => ?_) (fun c8 => ?_)
  · skip
    refine r_acopyQ hX hP rfl (n := 22) al_162 al_163 ck_139_O (tbg sg3 124 rfl rfl) (tbg sg3 126 rfl rfl) (tbg sg3 125 rfl rfl) (tbg sg1 16 rfl rfl) (by first | decide | omega) (Nat.le_of_ble_eq_true rfl) s6 n1l (by decide) (by decide) ?_
    have cq10 : ∀ i : Int, 0 ≤ i → i < 22 → cpy G3 162 original 163 n1 22 163 n1 i = G3 162 original i := fun i h0 h1 => cpy_in h0 h1
    rw [cpy_hw]
    rw [cpy_hw] at cq10
    generalize cpy _ _ _ _ _ _ = G9 at cq10 ⊢
    refine r_ex hX hP 1 (pc' := 39) (st' := [(2, n1)]) (lo' := [(0, (2, original)), (1, (0, 33)), (2, (2, (mI E))), (3, (2, n1))]) rfl ?_
    have g11 : Gr [163] [(163, -1)] S G S2 (hw [(163, -1)] G3 G9) := (gr_hw g7 rfl)
    exact r_retR hX hP rfl rfl (by first | exact Or.inl ⟨_, rfl⟩ | exact Or.inr ⟨_, rfl⟩) (by first | decide | omega) (by first | decide | omega) ⟨g11, n1, rfl, n1l, (fun i h0 h1 => (cq10 i h0 h1).trans (gr_at g4 original_s (by decide) rfl))⟩
  · skip
    exfalso; omega
set_option maxRecDepth 100000 in
set_option maxHeartbeats 4000000 in
theorem c_cp2_Lis_2 (E : En) (S : Sg) (G : Gh) (original : Int) (newLength : Int) (original_s : S original = 162) (newLength_a : 33 ≤ newLength) (newLength_b : newLength ≤ 33) : Calls E mJ7_copyOf_1904c [(2, original), (0, newLength)] S G 6 1 33 (fun r S' G' => Gr [163] [(163, -1)] S G S' G' ∧ ∃ z : Int, r = some (2, z) ∧ S' z = 163 ∧ (∀ i : Int, 0 ≤ i → i < 22 → G' 163 z i = G 162 original i)) := by
  refine calls_by [(0, (2, original)), (1, (0, newLength))] rfl rfl (Nat.le_of_ble_eq_true rfl) (fun X hX => ?_)
  have hP := hPJ7_copyOf_1904c
  obtain rfl : newLength = 33 := by omega
  refine r_ex hX hP 3 (pc' := 3) (st' := [(2, original), (0, 33), (2, original)]) (lo' := [(0, (2, original)), (1, (0, 33))]) rfl ?_
  refine r_getCls hX hP rfl (L := 162) al_162 original_s (tbg sg3 98 rfl rfl) (List.mem_filter.mpr ⟨sg11 _ (List.mem_of_getElem? (i := 50) rfl), rfl⟩) (tbg sg11 49 rfl rfl) (tbg sg3 99 rfl rfl) (tbg sg3 114 rfl rfl) (by first | decide | omega) (Nat.le_of_ble_eq_true rfl) ?_
  refine r_callS gd hX hP rfl cs_J7_300 (d' := 4) (mc' := 1) (ms' := 33) (as' := [(2, original), (0, 33), (2, (mI E))]) (st := []) (by first | decide | omega) (by first | decide | omega) (by first | decide | omega) rfl rfl (Nat.le_of_ble_eq_true rfl) (c_cp3_Lis_2 E S G original 33 (mI E) original_s (by first | decide | omega) (by first | decide | omega) rfl) ?_
  rintro _ S1 G2 ⟨g3, z4, rfl, z4s, q5⟩
  have s6 : S1 original = 162 := gr_lab g3 original_s (by decide)
  have g7 : Gr [163] [(163, -1)] S G S1 G2 := gr_call (gr_refl [163] [(163, -1)] S G) g3 rfl rfl
  exact r_retR hX hP rfl rfl (by first | exact Or.inl ⟨_, rfl⟩ | exact Or.inr ⟨_, rfl⟩) (by first | decide | omega) (by first | decide | omega) ⟨g7, z4, rfl, z4s, q5⟩
set_option maxRecDepth 100000 in
set_option maxHeartbeats 4000000 in
theorem c_cp3_Lis_3 (E : En) (S : Sg) (G : Gh) (original : Int) (newLength : Int) (newType : Int) (original_s : S original = 163) (newLength_a : 49 ≤ newLength) (newLength_b : newLength ≤ 49) (xt : newType = mI E) : Calls E mJ7_copyOf_6403c [(2, original), (0, newLength), (2, newType)] S G 4 1 49 (fun r S' G' => Gr [164] [(164, -1)] S G S' G' ∧ ∃ z : Int, r = some (2, z) ∧ S' z = 164 ∧ (∀ i : Int, 0 ≤ i → i < 33 → G' 164 z i = G 163 original i)) := by
  refine calls_by [(0, (2, original)), (1, (0, newLength)), (2, (2, newType))] rfl rfl (Nat.le_of_ble_eq_true rfl) (fun X hX => ?_)
  have hP := hPJ7_copyOf_6403c
  obtain rfl : newLength = 49 := by omega
  subst xt
  refine r_ex hX hP 1 (pc' := 1) (st' := [(2, (mI E))]) (lo' := [(0, (2, original)), (1, (0, 49)), (2, (2, (mI E)))]) rfl ?_
  refine r_ldcM hX hP rfl (tbg sg3 118 rfl rfl) ?_
  refine r_acmpN hX hP rfl (tgt := 13) rfl (Int.le_trans (by decide) (Int.natCast_nonneg _)) (Int.le_trans (by decide) (Int.natCast_nonneg _)) (fun q => absurd rfl q) (fun _ => ?_)
  refine r_ex hX hP 1 (pc' := 7) (st' := [(0, 49)]) (lo' := [(0, (2, original)), (1, (0, 49)), (2, (2, (mI E)))]) rfl ?_
  refine r_anewA hX hP rfl (L := 164) (n := 49) al_164 (tbg sg3 120 rfl rfl) (by decide) (by first | decide | omega) (by first | decide | omega) (fun n1 S2 G3 n1z n1n n1l g4 n1v => ?_)
  have z5 : S n1 = 0 := gr_zero (gr_refl [164] [(164, -1)] S G) n1z
  have s6 : S2 original = 163 := gr_lab g4 original_s (by decide)
  have g7 : Gr [164] [(164, -1)] S G S2 G3 := gr_call (gr_refl [164] [(164, -1)] S G) g4 rfl rfl
  refine r_ex hX hP 7 (pc' := 30) (st' := [(2, original), (0, 0), (2, n1), (0, 0), (2, original)]) (lo' := [(0, (2, original)), (1, (0, 49)), (2, (2, (mI E))), (3, (2, n1))]) rfl ?_
  refine r_alen hX hP rfl al_163 s6 ?_
  refine r_ex hX hP 1 (pc' := 32) (st' := [(0, 49), (0, 33), (0, 0), (2, n1), (0, 0), (2, original)]) (lo' := [(0, (2, original)), (1, (0, 49)), (2, (2, (mI E))), (3, (2, n1))]) rfl ?_
  refine r_mminI hX hP rfl (tbg sg3 121 rfl rfl) (tbg sg3 122 rfl rfl) (tbg sg1 14 rfl rfl) (tbg sg3 123 rfl rfl) (by decide) (by decide) (by decide) (Nat.le_of_ble_eq_true rfl) (by first | decide | omega) (by first | decide | omega) (by first | decide | omega) (by first | decide | omega) (fun c8 => ?_) (fun c8 => ?_)
  · skip
    refine r_acopyQ hX hP rfl (n := 33) al_163 al_164 ck_139_O (tbg sg3 124 rfl rfl) (tbg sg3 126 rfl rfl) (tbg sg3 125 rfl rfl) (tbg sg1 16 rfl rfl) (by first | decide | omega) (Nat.le_of_ble_eq_true rfl) s6 n1l (by decide) (by decide) ?_
    have cq10 : ∀ i : Int, 0 ≤ i → i < 33 → cpy G3 163 original 164 n1 33 164 n1 i = G3 163 original i := fun i h0 h1 => cpy_in h0 h1
    rw [cpy_hw]
    rw [cpy_hw] at cq10
    generalize cpy _ _ _ _ _ _ = G9 at cq10 ⊢
    refine r_ex hX hP 1 (pc' := 39) (st' := [(2, n1)]) (lo' := [(0, (2, original)), (1, (0, 49)), (2, (2, (mI E))), (3, (2, n1))]) rfl ?_
    have g11 : Gr [164] [(164, -1)] S G S2 (hw [(164, -1)] G3 G9) := (gr_hw g7 rfl)
    exact r_retR hX hP rfl rfl (by first | exact Or.inl ⟨_, rfl⟩ | exact Or.inr ⟨_, rfl⟩) (by first | decide | omega) (by first | decide | omega) ⟨g11, n1, rfl, n1l, (fun i h0 h1 => (cq10 i h0 h1).trans (gr_at g4 original_s (by decide) rfl))⟩
  · skip
    exfalso; omega
set_option maxRecDepth 100000 in
set_option maxHeartbeats 4000000 in
theorem c_cp2_Lis_3 (E : En) (S : Sg) (G : Gh) (original : Int) (newLength : Int) (original_s : S original = 163) (newLength_a : 49 ≤ newLength) (newLength_b : newLength ≤ 49) : Calls E mJ7_copyOf_1904c [(2, original), (0, newLength)] S G 6 1 49 (fun r S' G' => Gr [164] [(164, -1)] S G S' G' ∧ ∃ z : Int, r = some (2, z) ∧ S' z = 164 ∧ (∀ i : Int, 0 ≤ i → i < 33 → G' 164 z i = G 163 original i)) := by
  refine calls_by [(0, (2, original)), (1, (0, newLength))] rfl rfl (Nat.le_of_ble_eq_true rfl) (fun X hX => ?_)
  have hP := hPJ7_copyOf_1904c
  obtain rfl : newLength = 49 := by omega
  refine r_ex hX hP 3 (pc' := 3) (st' := [(2, original), (0, 49), (2, original)]) (lo' := [(0, (2, original)), (1, (0, 49))]) rfl ?_
  refine r_getCls hX hP rfl (L := 163) al_163 original_s (tbg sg3 98 rfl rfl) (List.mem_filter.mpr ⟨sg11 _ (List.mem_of_getElem? (i := 50) rfl), rfl⟩) (tbg sg11 49 rfl rfl) (tbg sg3 99 rfl rfl) (tbg sg3 114 rfl rfl) (by first | decide | omega) (Nat.le_of_ble_eq_true rfl) ?_
  refine r_callS gd hX hP rfl cs_J7_300 (d' := 4) (mc' := 1) (ms' := 49) (as' := [(2, original), (0, 49), (2, (mI E))]) (st := []) (by first | decide | omega) (by first | decide | omega) (by first | decide | omega) rfl rfl (Nat.le_of_ble_eq_true rfl) (c_cp3_Lis_3 E S G original 49 (mI E) original_s (by first | decide | omega) (by first | decide | omega) rfl) ?_
  rintro _ S1 G2 ⟨g3, z4, rfl, z4s, q5⟩
  have s6 : S1 original = 163 := gr_lab g3 original_s (by decide)
  have g7 : Gr [164] [(164, -1)] S G S1 G2 := gr_call (gr_refl [164] [(164, -1)] S G) g3 rfl rfl
  exact r_retR hX hP rfl rfl (by first | exact Or.inl ⟨_, rfl⟩ | exact Or.inr ⟨_, rfl⟩) (by first | decide | omega) (by first | decide | omega) ⟨g7, z4, rfl, z4s, q5⟩
set_option maxRecDepth 100000 in
set_option maxHeartbeats 4000000 in
theorem c_cp3_Ltr_0 (E : En) (S : Sg) (G : Gh) (original : Int) (newLength : Int) (newType : Int) (original_s : S original = 165) (newLength_a : 15 ≤ newLength) (newLength_b : newLength ≤ 15) (xt : newType = mI E) : Calls E mJ7_copyOf_6403c [(2, original), (0, newLength), (2, newType)] S G 4 1 15 (fun r S' G' => Gr [166] [(166, -1)] S G S' G' ∧ ∃ z : Int, r = some (2, z) ∧ S' z = 166 ∧ (∀ i : Int, 0 ≤ i → i < 10 → G' 166 z i = G 165 original i)) := by
  refine calls_by [(0, (2, original)), (1, (0, newLength)), (2, (2, newType))] rfl rfl (Nat.le_of_ble_eq_true rfl) (fun X hX => ?_)
  have hP := hPJ7_copyOf_6403c
  obtain rfl : newLength = 15 := by omega
  subst xt
  refine r_ex hX hP 1 (pc' := 1) (st' := [(2, (mI E))]) (lo' := [(0, (2, original)), (1, (0, 15)), (2, (2, (mI E)))]) rfl ?_
  refine r_ldcM hX hP rfl (tbg sg3 118 rfl rfl) ?_
  refine r_acmpN hX hP rfl (tgt := 13) rfl (Int.le_trans (by decide) (Int.natCast_nonneg _)) (Int.le_trans (by decide) (Int.natCast_nonneg _)) (fun q => absurd rfl q) (fun _ => ?_)
  refine r_ex hX hP 1 (pc' := 7) (st' := [(0, 15)]) (lo' := [(0, (2, original)), (1, (0, 15)), (2, (2, (mI E)))]) rfl ?_
  refine r_anewA hX hP rfl (L := 166) (n := 15) al_166 (tbg sg3 120 rfl rfl) (by decide) (by first | decide | omega) (by first | decide | omega) (fun n1 S2 G3 n1z n1n n1l g4 n1v => ?_)
  have z5 : S n1 = 0 := gr_zero (gr_refl [166] [(166, -1)] S G) n1z
  have s6 : S2 original = 165 := gr_lab g4 original_s (by decide)
  have g7 : Gr [166] [(166, -1)] S G S2 G3 := gr_call (gr_refl [166] [(166, -1)] S G) g4 rfl rfl
  refine r_ex hX hP 7 (pc' := 30) (st' := [(2, original), (0, 0), (2, n1), (0, 0), (2, original)]) (lo' := [(0, (2, original)), (1, (0, 15)), (2, (2, (mI E))), (3, (2, n1))]) rfl ?_
  refine r_alen hX hP rfl al_165 s6 ?_
  refine r_ex hX hP 1 (pc' := 32) (st' := [(0, 15), (0, 10), (0, 0), (2, n1), (0, 0), (2, original)]) (lo' := [(0, (2, original)), (1, (0, 15)), (2, (2, (mI E))), (3, (2, n1))]) rfl ?_
  refine r_mminI hX hP rfl (tbg sg3 121 rfl rfl) (tbg sg3 122 rfl rfl) (tbg sg1 14 rfl rfl) (tbg sg3 123 rfl rfl) (by decide) (by decide) (by decide) (Nat.le_of_ble_eq_true rfl) (by first | decide | omega) (by first | decide | omega) (by first | decide | omega) (by first | decide | omega) (fun c8 => ?_) (fun c8 => ?_)
  · skip
    refine r_acopyQ hX hP rfl (n := 10) al_165 al_166 ck_140_O (tbg sg3 124 rfl rfl) (tbg sg3 126 rfl rfl) (tbg sg3 125 rfl rfl) (tbg sg1 16 rfl rfl) (by first | decide | omega) (Nat.le_of_ble_eq_true rfl) s6 n1l (by decide) (by decide) ?_
    have cq10 : ∀ i : Int, 0 ≤ i → i < 10 → cpy G3 165 original 166 n1 10 166 n1 i = G3 165 original i := fun i h0 h1 => cpy_in h0 h1
    rw [cpy_hw]
    rw [cpy_hw] at cq10
    generalize cpy _ _ _ _ _ _ = G9 at cq10 ⊢
    refine r_ex hX hP 1 (pc' := 39) (st' := [(2, n1)]) (lo' := [(0, (2, original)), (1, (0, 15)), (2, (2, (mI E))), (3, (2, n1))]) rfl ?_
    have g11 : Gr [166] [(166, -1)] S G S2 (hw [(166, -1)] G3 G9) := (gr_hw g7 rfl)
    exact r_retR hX hP rfl rfl (by first | exact Or.inl ⟨_, rfl⟩ | exact Or.inr ⟨_, rfl⟩) (by first | decide | omega) (by first | decide | omega) ⟨g11, n1, rfl, n1l, (fun i h0 h1 => (cq10 i h0 h1).trans (gr_at g4 original_s (by decide) rfl))⟩
  · skip
    exfalso; omega
set_option maxRecDepth 100000 in
set_option maxHeartbeats 4000000 in
theorem c_cp2_Ltr_0 (E : En) (S : Sg) (G : Gh) (original : Int) (newLength : Int) (original_s : S original = 165) (newLength_a : 15 ≤ newLength) (newLength_b : newLength ≤ 15) : Calls E mJ7_copyOf_1904c [(2, original), (0, newLength)] S G 6 1 15 (fun r S' G' => Gr [166] [(166, -1)] S G S' G' ∧ ∃ z : Int, r = some (2, z) ∧ S' z = 166 ∧ (∀ i : Int, 0 ≤ i → i < 10 → G' 166 z i = G 165 original i)) := by
  refine calls_by [(0, (2, original)), (1, (0, newLength))] rfl rfl (Nat.le_of_ble_eq_true rfl) (fun X hX => ?_)
  have hP := hPJ7_copyOf_1904c
  obtain rfl : newLength = 15 := by omega
  refine r_ex hX hP 3 (pc' := 3) (st' := [(2, original), (0, 15), (2, original)]) (lo' := [(0, (2, original)), (1, (0, 15))]) rfl ?_
  refine r_getCls hX hP rfl (L := 165) al_165 original_s (tbg sg3 98 rfl rfl) (List.mem_filter.mpr ⟨sg11 _ (List.mem_of_getElem? (i := 50) rfl), rfl⟩) (tbg sg11 49 rfl rfl) (tbg sg3 99 rfl rfl) (tbg sg3 114 rfl rfl) (by first | decide | omega) (Nat.le_of_ble_eq_true rfl) ?_
  refine r_callS gd hX hP rfl cs_J7_300 (d' := 4) (mc' := 1) (ms' := 15) (as' := [(2, original), (0, 15), (2, (mI E))]) (st := []) (by first | decide | omega) (by first | decide | omega) (by first | decide | omega) rfl rfl (Nat.le_of_ble_eq_true rfl) (c_cp3_Ltr_0 E S G original 15 (mI E) original_s (by first | decide | omega) (by first | decide | omega) rfl) ?_
  rintro _ S1 G2 ⟨g3, z4, rfl, z4s, q5⟩
  have s6 : S1 original = 165 := gr_lab g3 original_s (by decide)
  have g7 : Gr [166] [(166, -1)] S G S1 G2 := gr_call (gr_refl [166] [(166, -1)] S G) g3 rfl rfl
  exact r_retR hX hP rfl rfl (by first | exact Or.inl ⟨_, rfl⟩ | exact Or.inr ⟨_, rfl⟩) (by first | decide | omega) (by first | decide | omega) ⟨g7, z4, rfl, z4s, q5⟩
set_option maxRecDepth 100000 in
set_option maxHeartbeats 4000000 in
theorem c_cp3_Ltr_1 (E : En) (S : Sg) (G : Gh) (original : Int) (newLength : Int) (newType : Int) (original_s : S original = 166) (newLength_a : 22 ≤ newLength) (newLength_b : newLength ≤ 22) (xt : newType = mI E) : Calls E mJ7_copyOf_6403c [(2, original), (0, newLength), (2, newType)] S G 4 1 22 (fun r S' G' => Gr [167] [(167, -1)] S G S' G' ∧ ∃ z : Int, r = some (2, z) ∧ S' z = 167 ∧ (∀ i : Int, 0 ≤ i → i < 15 → G' 167 z i = G 166 original i)) := by
  refine calls_by [(0, (2, original)), (1, (0, newLength)), (2, (2, newType))] rfl rfl (Nat.le_of_ble_eq_true rfl) (fun X hX => ?_)
  have hP := hPJ7_copyOf_6403c
  obtain rfl : newLength = 22 := by omega
  subst xt
  refine r_ex hX hP 1 (pc' := 1) (st' := [(2, (mI E))]) (lo' := [(0, (2, original)), (1, (0, 22)), (2, (2, (mI E)))]) rfl ?_
  refine r_ldcM hX hP rfl (tbg sg3 118 rfl rfl) ?_
  refine r_acmpN hX hP rfl (tgt := 13) rfl (Int.le_trans (by decide) (Int.natCast_nonneg _)) (Int.le_trans (by decide) (Int.natCast_nonneg _)) (fun q => absurd rfl q) (fun _ => ?_)
  refine r_ex hX hP 1 (pc' := 7) (st' := [(0, 22)]) (lo' := [(0, (2, original)), (1, (0, 22)), (2, (2, (mI E)))]) rfl ?_
  refine r_anewA hX hP rfl (L := 167) (n := 22) al_167 (tbg sg3 120 rfl rfl) (by decide) (by first | decide | omega) (by first | decide | omega) (fun n1 S2 G3 n1z n1n n1l g4 n1v => ?_)
  have z5 : S n1 = 0 := gr_zero (gr_refl [167] [(167, -1)] S G) n1z
  have s6 : S2 original = 166 := gr_lab g4 original_s (by decide)
  have g7 : Gr [167] [(167, -1)] S G S2 G3 := gr_call (gr_refl [167] [(167, -1)] S G) g4 rfl rfl
  refine r_ex hX hP 7 (pc' := 30) (st' := [(2, original), (0, 0), (2, n1), (0, 0), (2, original)]) (lo' := [(0, (2, original)), (1, (0, 22)), (2, (2, (mI E))), (3, (2, n1))]) rfl ?_
  refine r_alen hX hP rfl al_166 s6 ?_
  refine r_ex hX hP 1 (pc' := 32) (st' := [(0, 22), (0, 15), (0, 0), (2, n1), (0, 0), (2, original)]) (lo' := [(0, (2, original)), (1, (0, 22)), (2, (2, (mI E))), (3, (2, n1))]) rfl ?_
  refine r_mminI hX hP rfl (tbg sg3 121 rfl rfl) (tbg sg3 122 rfl rfl) (tbg sg1 14 rfl rfl) (tbg sg3 123 rfl rfl) (by decide) (by decide) (by decide) (Nat.le_of_ble_eq_true rfl) (by first | decide | omega) (by first | decide | omega) (by first | decide | omega) (by first | decide | omega) (fun c8 => ?_) (fun c8 => ?_)
  · skip
    refine r_acopyQ hX hP rfl (n := 15) al_166 al_167 ck_140_O (tbg sg3 124 rfl rfl) (tbg sg3 126 rfl rfl) (tbg sg3 125 rfl rfl) (tbg sg1 16 rfl rfl) (by first | decide | omega) (Nat.le_of_ble_eq_true rfl) s6 n1l (by decide) (by decide) ?_
    have cq10 : ∀ i : Int, 0 ≤ i → i < 15 → cpy G3 166 original 167 n1 15 167 n1 i = G3 166 original i := fun i h0 h1 => cpy_in h0 h1
    rw [cpy_hw]
    rw [cpy_hw] at cq10
    generalize cpy _ _ _ _ _ _ = G9 at cq10 ⊢
    refine r_ex hX hP 1 (pc' := 39) (st' := [(2, n1)]) (lo' := [(0, (2, original)), (1, (0, 22)), (2, (2, (mI E))), (3, (2, n1))]) rfl ?_
    have g11 : Gr [167] [(167, -1)] S G S2 (hw [(167, -1)] G3 G9) := (gr_hw g7 rfl)
    exact r_retR hX hP rfl rfl (by first | exact Or.inl ⟨_, rfl⟩ | exact Or.inr ⟨_, rfl⟩) (by first | decide | omega) (by first | decide | omega) ⟨g11, n1, rfl, n1l, (fun i h0 h1 => (cq10 i h0 h1).trans (gr_at g4 original_s (by decide) rfl))⟩
  · skip
    exfalso; omega
set_option maxRecDepth 100000 in
set_option maxHeartbeats 4000000 in
theorem c_cp2_Ltr_1 (E : En) (S : Sg) (G : Gh) (original : Int) (newLength : Int) (original_s : S original = 166) (newLength_a : 22 ≤ newLength) (newLength_b : newLength ≤ 22) : Calls E mJ7_copyOf_1904c [(2, original), (0, newLength)] S G 6 1 22 (fun r S' G' => Gr [167] [(167, -1)] S G S' G' ∧ ∃ z : Int, r = some (2, z) ∧ S' z = 167 ∧ (∀ i : Int, 0 ≤ i → i < 15 → G' 167 z i = G 166 original i)) := by
  refine calls_by [(0, (2, original)), (1, (0, newLength))] rfl rfl (Nat.le_of_ble_eq_true rfl) (fun X hX => ?_)
  have hP := hPJ7_copyOf_1904c
  obtain rfl : newLength = 22 := by omega
  refine r_ex hX hP 3 (pc' := 3) (st' := [(2, original), (0, 22), (2, original)]) (lo' := [(0, (2, original)), (1, (0, 22))]) rfl ?_
  refine r_getCls hX hP rfl (L := 166) al_166 original_s (tbg sg3 98 rfl rfl) (List.mem_filter.mpr ⟨sg11 _ (List.mem_of_getElem? (i := 50) rfl), rfl⟩) (tbg sg11 49 rfl rfl) (tbg sg3 99 rfl rfl) (tbg sg3 114 rfl rfl) (by first | decide | omega) (Nat.le_of_ble_eq_true rfl) ?_
  refine r_callS gd hX hP rfl cs_J7_300 (d' := 4) (mc' := 1) (ms' := 22) (as' := [(2, original), (0, 22), (2, (mI E))]) (st := []) (by first | decide | omega) (by first | decide | omega) (by first | decide | omega) rfl rfl (Nat.le_of_ble_eq_true rfl) (c_cp3_Ltr_1 E S G original 22 (mI E) original_s (by first | decide | omega) (by first | decide | omega) rfl) ?_
  rintro _ S1 G2 ⟨g3, z4, rfl, z4s, q5⟩
  have s6 : S1 original = 166 := gr_lab g3 original_s (by decide)
  have g7 : Gr [167] [(167, -1)] S G S1 G2 := gr_call (gr_refl [167] [(167, -1)] S G) g3 rfl rfl
  exact r_retR hX hP rfl rfl (by first | exact Or.inl ⟨_, rfl⟩ | exact Or.inr ⟨_, rfl⟩) (by first | decide | omega) (by first | decide | omega) ⟨g7, z4, rfl, z4s, q5⟩
set_option maxRecDepth 100000 in
set_option maxHeartbeats 4000000 in
theorem c_cp3_Ltr_2 (E : En) (S : Sg) (G : Gh) (original : Int) (newLength : Int) (newType : Int) (original_s : S original = 167) (newLength_a : 33 ≤ newLength) (newLength_b : newLength ≤ 33) (xt : newType = mI E) : Calls E mJ7_copyOf_6403c [(2, original), (0, newLength), (2, newType)] S G 4 1 33 (fun r S' G' => Gr [168] [(168, -1)] S G S' G' ∧ ∃ z : Int, r = some (2, z) ∧ S' z = 168 ∧ (∀ i : Int, 0 ≤ i → i < 22 → G' 168 z i = G 167 original i)) := by
  refine calls_by [(0, (2, original)), (1, (0, newLength)), (2, (2, newType))] rfl rfl (Nat.le_of_ble_eq_true rfl) (fun X hX => ?_)
  have hP := hPJ7_copyOf_6403c
  obtain rfl : newLength = 33 := by omega
  subst xt
  refine r_ex hX hP 1 (pc' := 1) (st' := [(2, (mI E))]) (lo' := [(0, (2, original)), (1, (0, 33)), (2, (2, (mI E)))]) rfl ?_
  refine r_ldcM hX hP rfl (tbg sg3 118 rfl rfl) ?_
  refine r_acmpN hX hP rfl (tgt := 13) rfl (Int.le_trans (by decide) (Int.natCast_nonneg _)) (Int.le_trans (by decide) (Int.natCast_nonneg _)) (fun q => absurd rfl q) (fun _ => ?_)
  refine r_ex hX hP 1 (pc' := 7) (st' := [(0, 33)]) (lo' := [(0, (2, original)), (1, (0, 33)), (2, (2, (mI E)))]) rfl ?_
  refine r_anewA hX hP rfl (L := 168) (n := 33) al_168 (tbg sg3 120 rfl rfl) (by decide) (by first | decide | omega) (by first | decide | omega) (fun n1 S2 G3 n1z n1n n1l g4 n1v => ?_)
  have z5 : S n1 = 0 := gr_zero (gr_refl [168] [(168, -1)] S G) n1z
  have s6 : S2 original = 167 := gr_lab g4 original_s (by decide)
  have g7 : Gr [168] [(168, -1)] S G S2 G3 := gr_call (gr_refl [168] [(168, -1)] S G) g4 rfl rfl
  refine r_ex hX hP 7 (pc' := 30) (st' := [(2, original), (0, 0), (2, n1), (0, 0), (2, original)]) (lo' := [(0, (2, original)), (1, (0, 33)), (2, (2, (mI E))), (3, (2, n1))]) rfl ?_
  refine r_alen hX hP rfl al_167 s6 ?_
  refine r_ex hX hP 1 (pc' := 32) (st' := [(0, 33), (0, 22), (0, 0), (2, n1), (0, 0), (2, original)]) (lo' := [(0, (2, original)), (1, (0, 33)), (2, (2, (mI E))), (3, (2, n1))]) rfl ?_
  refine r_mminI hX hP rfl (tbg sg3 121 rfl rfl) (tbg sg3 122 rfl rfl) (tbg sg1 14 rfl rfl) (tbg sg3 123 rfl rfl) (by decide) (by decide) (by decide) (Nat.le_of_ble_eq_true rfl) (by first | decide | omega) (by first | decide | omega) (by first | decide | omega) (by first | decide | omega) (fun c8 => ?_) (fun c8 => ?_)
  · skip
    refine r_acopyQ hX hP rfl (n := 22) al_167 al_168 ck_140_O (tbg sg3 124 rfl rfl) (tbg sg3 126 rfl rfl) (tbg sg3 125 rfl rfl) (tbg sg1 16 rfl rfl) (by first | decide | omega) (Nat.le_of_ble_eq_true rfl) s6 n1l (by decide) (by decide) ?_
    have cq10 : ∀ i : Int, 0 ≤ i → i < 22 → cpy G3 167 original 168 n1 22 168 n1 i = G3 167 original i := fun i h0 h1 => cpy_in h0 h1
    rw [cpy_hw]
    rw [cpy_hw] at cq10
    generalize cpy _ _ _ _ _ _ = G9 at cq10 ⊢
    refine r_ex hX hP 1 (pc' := 39) (st' := [(2, n1)]) (lo' := [(0, (2, original)), (1, (0, 33)), (2, (2, (mI E))), (3, (2, n1))]) rfl ?_
    have g11 : Gr [168] [(168, -1)] S G S2 (hw [(168, -1)] G3 G9) := (gr_hw g7 rfl)
    exact r_retR hX hP rfl rfl (by first | exact Or.inl ⟨_, rfl⟩ | exact Or.inr ⟨_, rfl⟩) (by first | decide | omega) (by first | decide | omega) ⟨g11, n1, rfl, n1l, (fun i h0 h1 => (cq10 i h0 h1).trans (gr_at g4 original_s (by decide) rfl))⟩
  · skip
    exfalso; omega
set_option maxRecDepth 100000 in
set_option maxHeartbeats 4000000 in
theorem c_cp2_Ltr_2 (E : En) (S : Sg) (G : Gh) (original : Int) (newLength : Int) (original_s : S original = 167) (newLength_a : 33 ≤ newLength) (newLength_b : newLength ≤ 33) : Calls E mJ7_copyOf_1904c [(2, original), (0, newLength)] S G 6 1 33 (fun r S' G' => Gr [168] [(168, -1)] S G S' G' ∧ ∃ z : Int, r = some (2, z) ∧ S' z = 168 ∧ (∀ i : Int, 0 ≤ i → i < 22 → G' 168 z i = G 167 original i)) := by
  refine calls_by [(0, (2, original)), (1, (0, newLength))] rfl rfl (Nat.le_of_ble_eq_true rfl) (fun X hX => ?_)
  have hP := hPJ7_copyOf_1904c
  obtain rfl : newLength = 33 := by omega
  refine r_ex hX hP 3 (pc' := 3) (st' := [(2, original), (0, 33), (2, original)]) (lo' := [(0, (2, original)), (1, (0, 33))]) rfl ?_
  refine r_getCls hX hP rfl (L := 167) al_167 original_s (tbg sg3 98 rfl rfl) (List.mem_filter.mpr ⟨sg11 _ (List.mem_of_getElem? (i := 50) rfl), rfl⟩) (tbg sg11 49 rfl rfl) (tbg sg3 99 rfl rfl) (tbg sg3 114 rfl rfl) (by first | decide | omega) (Nat.le_of_ble_eq_true rfl) ?_
  refine r_callS gd hX hP rfl cs_J7_300 (d' := 4) (mc' := 1) (ms' := 33) (as' := [(2, original), (0, 33), (2, (mI E))]) (st := []) (by first | decide | omega) (by first | decide | omega) (by first | decide | omega) rfl rfl (Nat.le_of_ble_eq_true rfl) (c_cp3_Ltr_2 E S G original 33 (mI E) original_s (by first | decide | omega) (by first | decide | omega) rfl) ?_
  rintro _ S1 G2 ⟨g3, z4, rfl, z4s, q5⟩
  have s6 : S1 original = 167 := gr_lab g3 original_s (by decide)
  have g7 : Gr [168] [(168, -1)] S G S1 G2 := gr_call (gr_refl [168] [(168, -1)] S G) g3 rfl rfl
  exact r_retR hX hP rfl rfl (by first | exact Or.inl ⟨_, rfl⟩ | exact Or.inr ⟨_, rfl⟩) (by first | decide | omega) (by first | decide | omega) ⟨g7, z4, rfl, z4s, q5⟩
set_option maxRecDepth 100000 in
set_option maxHeartbeats 4000000 in
theorem c_cp3_Ltr_3 (E : En) (S : Sg) (G : Gh) (original : Int) (newLength : Int) (newType : Int) (original_s : S original = 168) (newLength_a : 49 ≤ newLength) (newLength_b : newLength ≤ 49) (xt : newType = mI E) : Calls E mJ7_copyOf_6403c [(2, original), (0, newLength), (2, newType)] S G 4 1 49 (fun r S' G' => Gr [169] [(169, -1)] S G S' G' ∧ ∃ z : Int, r = some (2, z) ∧ S' z = 169 ∧ (∀ i : Int, 0 ≤ i → i < 33 → G' 169 z i = G 168 original i)) := by
  refine calls_by [(0, (2, original)), (1, (0, newLength)), (2, (2, newType))] rfl rfl (Nat.le_of_ble_eq_true rfl) (fun X hX => ?_)
  have hP := hPJ7_copyOf_6403c
  obtain rfl : newLength = 49 := by omega
  subst xt
  refine r_ex hX hP 1 (pc' := 1) (st' := [(2, (mI E))]) (lo' := [(0, (2, original)), (1, (0, 49)), (2, (2, (mI E)))]) rfl ?_
  refine r_ldcM hX hP rfl (tbg sg3 118 rfl rfl) ?_
  refine r_acmpN hX hP rfl (tgt := 13) rfl (Int.le_trans (by decide) (Int.natCast_nonneg _)) (Int.le_trans (by decide) (Int.natCast_nonneg _)) (fun q => absurd rfl q) (fun _ => ?_)
  refine r_ex hX hP 1 (pc' := 7) (st' := [(0, 49)]) (lo' := [(0, (2, original)), (1, (0, 49)), (2, (2, (mI E)))]) rfl ?_
  refine r_anewA hX hP rfl (L := 169) (n := 49) al_169 (tbg sg3 120 rfl rfl) (by decide) (by first | decide | omega) (by first | decide | omega) (fun n1 S2 G3 n1z n1n n1l g4 n1v => ?_)
  have z5 : S n1 = 0 := gr_zero (gr_refl [169] [(169, -1)] S G) n1z
  have s6 : S2 original = 168 := gr_lab g4 original_s (by decide)
  have g7 : Gr [169] [(169, -1)] S G S2 G3 := gr_call (gr_refl [169] [(169, -1)] S G) g4 rfl rfl
  refine r_ex hX hP 7 (pc' := 30) (st' := [(2, original), (0, 0), (2, n1), (0, 0), (2, original)]) (lo' := [(0, (2, original)), (1, (0, 49)), (2, (2, (mI E))), (3, (2, n1))]) rfl ?_
  refine r_alen hX hP rfl al_168 s6 ?_
  refine r_ex hX hP 1 (pc' := 32) (st' := [(0, 49), (0, 33), (0, 0), (2, n1), (0, 0), (2, original)]) (lo' := [(0, (2, original)), (1, (0, 49)), (2, (2, (mI E))), (3, (2, n1))]) rfl ?_
  refine r_mminI hX hP rfl (tbg sg3 121 rfl rfl) (tbg sg3 122 rfl rfl) (tbg sg1 14 rfl rfl) (tbg sg3 123 rfl rfl) (by decide) (by decide) (by decide) (Nat.le_of_ble_eq_true rfl) (by first | decide | omega) (by first | decide | omega) (by first | decide | omega) (by first | decide | omega) (fun c8 => ?_) (fun c8 => ?_)
  · skip
    refine r_acopyQ hX hP rfl (n := 33) al_168 al_169 ck_140_O (tbg sg3 124 rfl rfl) (tbg sg3 126 rfl rfl) (tbg sg3 125 rfl rfl) (tbg sg1 16 rfl rfl) (by first | decide | omega) (Nat.le_of_ble_eq_true rfl) s6 n1l (by decide) (by decide) ?_
    have cq10 : ∀ i : Int, 0 ≤ i → i < 33 → cpy G3 168 original 169 n1 33 169 n1 i = G3 168 original i := fun i h0 h1 => cpy_in h0 h1
    rw [cpy_hw]
    rw [cpy_hw] at cq10
    generalize cpy _ _ _ _ _ _ = G9 at cq10 ⊢
    refine r_ex hX hP 1 (pc' := 39) (st' := [(2, n1)]) (lo' := [(0, (2, original)), (1, (0, 49)), (2, (2, (mI E))), (3, (2, n1))]) rfl ?_
    have g11 : Gr [169] [(169, -1)] S G S2 (hw [(169, -1)] G3 G9) := (gr_hw g7 rfl)
    exact r_retR hX hP rfl rfl (by first | exact Or.inl ⟨_, rfl⟩ | exact Or.inr ⟨_, rfl⟩) (by first | decide | omega) (by first | decide | omega) ⟨g11, n1, rfl, n1l, (fun i h0 h1 => (cq10 i h0 h1).trans (gr_at g4 original_s (by decide) rfl))⟩
  · skip
    exfalso; omega
set_option maxRecDepth 100000 in
set_option maxHeartbeats 4000000 in
theorem c_cp2_Ltr_3 (E : En) (S : Sg) (G : Gh) (original : Int) (newLength : Int) (original_s : S original = 168) (newLength_a : 49 ≤ newLength) (newLength_b : newLength ≤ 49) : Calls E mJ7_copyOf_1904c [(2, original), (0, newLength)] S G 6 1 49 (fun r S' G' => Gr [169] [(169, -1)] S G S' G' ∧ ∃ z : Int, r = some (2, z) ∧ S' z = 169 ∧ (∀ i : Int, 0 ≤ i → i < 33 → G' 169 z i = G 168 original i)) := by
  refine calls_by [(0, (2, original)), (1, (0, newLength))] rfl rfl (Nat.le_of_ble_eq_true rfl) (fun X hX => ?_)
  have hP := hPJ7_copyOf_1904c
  obtain rfl : newLength = 49 := by omega
  refine r_ex hX hP 3 (pc' := 3) (st' := [(2, original), (0, 49), (2, original)]) (lo' := [(0, (2, original)), (1, (0, 49))]) rfl ?_
  refine r_getCls hX hP rfl (L := 168) al_168 original_s (tbg sg3 98 rfl rfl) (List.mem_filter.mpr ⟨sg11 _ (List.mem_of_getElem? (i := 50) rfl), rfl⟩) (tbg sg11 49 rfl rfl) (tbg sg3 99 rfl rfl) (tbg sg3 114 rfl rfl) (by first | decide | omega) (Nat.le_of_ble_eq_true rfl) ?_
  refine r_callS gd hX hP rfl cs_J7_300 (d' := 4) (mc' := 1) (ms' := 49) (as' := [(2, original), (0, 49), (2, (mI E))]) (st := []) (by first | decide | omega) (by first | decide | omega) (by first | decide | omega) rfl rfl (Nat.le_of_ble_eq_true rfl) (c_cp3_Ltr_3 E S G original 49 (mI E) original_s (by first | decide | omega) (by first | decide | omega) rfl) ?_
  rintro _ S1 G2 ⟨g3, z4, rfl, z4s, q5⟩
  have s6 : S1 original = 168 := gr_lab g3 original_s (by decide)
  have g7 : Gr [169] [(169, -1)] S G S1 G2 := gr_call (gr_refl [169] [(169, -1)] S G) g3 rfl rfl
  exact r_retR hX hP rfl rfl (by first | exact Or.inl ⟨_, rfl⟩ | exact Or.inr ⟨_, rfl⟩) (by first | decide | omega) (by first | decide | omega) ⟨g7, z4, rfl, z4s, q5⟩
set_option maxRecDepth 100000 in
set_option maxHeartbeats 4000000 in
theorem c_cp3_Lev_0 (E : En) (S : Sg) (G : Gh) (original : Int) (newLength : Int) (newType : Int) (original_s : S original = 170) (newLength_a : 15 ≤ newLength) (newLength_b : newLength ≤ 15) (xt : newType = mI E) : Calls E mJ7_copyOf_6403c [(2, original), (0, newLength), (2, newType)] S G 4 1 15 (fun r S' G' => Gr [171] [(171, -1)] S G S' G' ∧ ∃ z : Int, r = some (2, z) ∧ S' z = 171 ∧ (∀ i : Int, 0 ≤ i → i < 10 → G' 171 z i = G 170 original i)) := by
  refine calls_by [(0, (2, original)), (1, (0, newLength)), (2, (2, newType))] rfl rfl (Nat.le_of_ble_eq_true rfl) (fun X hX => ?_)
  have hP := hPJ7_copyOf_6403c
  obtain rfl : newLength = 15 := by omega
  subst xt
  refine r_ex hX hP 1 (pc' := 1) (st' := [(2, (mI E))]) (lo' := [(0, (2, original)), (1, (0, 15)), (2, (2, (mI E)))]) rfl ?_
  refine r_ldcM hX hP rfl (tbg sg3 118 rfl rfl) ?_
  refine r_acmpN hX hP rfl (tgt := 13) rfl (Int.le_trans (by decide) (Int.natCast_nonneg _)) (Int.le_trans (by decide) (Int.natCast_nonneg _)) (fun q => absurd rfl q) (fun _ => ?_)
  refine r_ex hX hP 1 (pc' := 7) (st' := [(0, 15)]) (lo' := [(0, (2, original)), (1, (0, 15)), (2, (2, (mI E)))]) rfl ?_
  refine r_anewA hX hP rfl (L := 171) (n := 15) al_171 (tbg sg3 120 rfl rfl) (by decide) (by first | decide | omega) (by first | decide | omega) (fun n1 S2 G3 n1z n1n n1l g4 n1v => ?_)
  have z5 : S n1 = 0 := gr_zero (gr_refl [171] [(171, -1)] S G) n1z
  have s6 : S2 original = 170 := gr_lab g4 original_s (by decide)
  have g7 : Gr [171] [(171, -1)] S G S2 G3 := gr_call (gr_refl [171] [(171, -1)] S G) g4 rfl rfl
  refine r_ex hX hP 7 (pc' := 30) (st' := [(2, original), (0, 0), (2, n1), (0, 0), (2, original)]) (lo' := [(0, (2, original)), (1, (0, 15)), (2, (2, (mI E))), (3, (2, n1))]) rfl ?_
  refine r_alen hX hP rfl al_170 s6 ?_
  refine r_ex hX hP 1 (pc' := 32) (st' := [(0, 15), (0, 10), (0, 0), (2, n1), (0, 0), (2, original)]) (lo' := [(0, (2, original)), (1, (0, 15)), (2, (2, (mI E))), (3, (2, n1))]) rfl ?_
  refine r_mminI hX hP rfl (tbg sg3 121 rfl rfl) (tbg sg3 122 rfl rfl) (tbg sg1 14 rfl rfl) (tbg sg3 123 rfl rfl) (by decide) (by decide) (by decide) (Nat.le_of_ble_eq_true rfl) (by first | decide | omega) (by first | decide | omega) (by first | decide | omega) (by first | decide | omega) (fun c8 => ?_) (fun c8 => ?_)
  · skip
    refine r_acopyQ hX hP rfl (n := 10) al_170 al_171 ck_137_O (tbg sg3 124 rfl rfl) (tbg sg3 126 rfl rfl) (tbg sg3 125 rfl rfl) (tbg sg1 16 rfl rfl) (by first | decide | omega) (Nat.le_of_ble_eq_true rfl) s6 n1l (by decide) (by decide) ?_
    have cq10 : ∀ i : Int, 0 ≤ i → i < 10 → cpy G3 170 original 171 n1 10 171 n1 i = G3 170 original i := fun i h0 h1 => cpy_in h0 h1
    rw [cpy_hw]
    rw [cpy_hw] at cq10
    generalize cpy _ _ _ _ _ _ = G9 at cq10 ⊢
    refine r_ex hX hP 1 (pc' := 39) (st' := [(2, n1)]) (lo' := [(0, (2, original)), (1, (0, 15)), (2, (2, (mI E))), (3, (2, n1))]) rfl ?_
    have g11 : Gr [171] [(171, -1)] S G S2 (hw [(171, -1)] G3 G9) := (gr_hw g7 rfl)
    exact r_retR hX hP rfl rfl (by first | exact Or.inl ⟨_, rfl⟩ | exact Or.inr ⟨_, rfl⟩) (by first | decide | omega) (by first | decide | omega) ⟨g11, n1, rfl, n1l, (fun i h0 h1 => (cq10 i h0 h1).trans (gr_at g4 original_s (by decide) rfl))⟩
  · skip
    exfalso; omega
set_option maxRecDepth 100000 in
set_option maxHeartbeats 4000000 in
theorem c_cp2_Lev_0 (E : En) (S : Sg) (G : Gh) (original : Int) (newLength : Int) (original_s : S original = 170) (newLength_a : 15 ≤ newLength) (newLength_b : newLength ≤ 15) : Calls E mJ7_copyOf_1904c [(2, original), (0, newLength)] S G 6 1 15 (fun r S' G' => Gr [171] [(171, -1)] S G S' G' ∧ ∃ z : Int, r = some (2, z) ∧ S' z = 171 ∧ (∀ i : Int, 0 ≤ i → i < 10 → G' 171 z i = G 170 original i)) := by
  refine calls_by [(0, (2, original)), (1, (0, newLength))] rfl rfl (Nat.le_of_ble_eq_true rfl) (fun X hX => ?_)
  have hP := hPJ7_copyOf_1904c
  obtain rfl : newLength = 15 := by omega
  refine r_ex hX hP 3 (pc' := 3) (st' := [(2, original), (0, 15), (2, original)]) (lo' := [(0, (2, original)), (1, (0, 15))]) rfl ?_
  refine r_getCls hX hP rfl (L := 170) al_170 original_s (tbg sg3 98 rfl rfl) (List.mem_filter.mpr ⟨sg11 _ (List.mem_of_getElem? (i := 50) rfl), rfl⟩) (tbg sg11 49 rfl rfl) (tbg sg3 99 rfl rfl) (tbg sg3 114 rfl rfl) (by first | decide | omega) (Nat.le_of_ble_eq_true rfl) ?_
  refine r_callS gd hX hP rfl cs_J7_300 (d' := 4) (mc' := 1) (ms' := 15) (as' := [(2, original), (0, 15), (2, (mI E))]) (st := []) (by first | decide | omega) (by first | decide | omega) (by first | decide | omega) rfl rfl (Nat.le_of_ble_eq_true rfl) (c_cp3_Lev_0 E S G original 15 (mI E) original_s (by first | decide | omega) (by first | decide | omega) rfl) ?_
  rintro _ S1 G2 ⟨g3, z4, rfl, z4s, q5⟩
  have s6 : S1 original = 170 := gr_lab g3 original_s (by decide)
  have g7 : Gr [171] [(171, -1)] S G S1 G2 := gr_call (gr_refl [171] [(171, -1)] S G) g3 rfl rfl
  exact r_retR hX hP rfl rfl (by first | exact Or.inl ⟨_, rfl⟩ | exact Or.inr ⟨_, rfl⟩) (by first | decide | omega) (by first | decide | omega) ⟨g7, z4, rfl, z4s, q5⟩
set_option maxRecDepth 100000 in
set_option maxHeartbeats 4000000 in
theorem c_cp3_Lev_1 (E : En) (S : Sg) (G : Gh) (original : Int) (newLength : Int) (newType : Int) (original_s : S original = 171) (newLength_a : 22 ≤ newLength) (newLength_b : newLength ≤ 22) (xt : newType = mI E) : Calls E mJ7_copyOf_6403c [(2, original), (0, newLength), (2, newType)] S G 4 1 22 (fun r S' G' => Gr [172] [(172, -1)] S G S' G' ∧ ∃ z : Int, r = some (2, z) ∧ S' z = 172 ∧ (∀ i : Int, 0 ≤ i → i < 15 → G' 172 z i = G 171 original i)) := by
  refine calls_by [(0, (2, original)), (1, (0, newLength)), (2, (2, newType))] rfl rfl (Nat.le_of_ble_eq_true rfl) (fun X hX => ?_)
  have hP := hPJ7_copyOf_6403c
  obtain rfl : newLength = 22 := by omega
  subst xt
  refine r_ex hX hP 1 (pc' := 1) (st' := [(2, (mI E))]) (lo' := [(0, (2, original)), (1, (0, 22)), (2, (2, (mI E)))]) rfl ?_
  refine r_ldcM hX hP rfl (tbg sg3 118 rfl rfl) ?_
  refine r_acmpN hX hP rfl (tgt := 13) rfl (Int.le_trans (by decide) (Int.natCast_nonneg _)) (Int.le_trans (by decide) (Int.natCast_nonneg _)) (fun q => absurd rfl q) (fun _ => ?_)
  refine r_ex hX hP 1 (pc' := 7) (st' := [(0, 22)]) (lo' := [(0, (2, original)), (1, (0, 22)), (2, (2, (mI E)))]) rfl ?_
  refine r_anewA hX hP rfl (L := 172) (n := 22) al_172 (tbg sg3 120 rfl rfl) (by decide) (by first | decide | omega) (by first | decide | omega) (fun n1 S2 G3 n1z n1n n1l g4 n1v => ?_)
  have z5 : S n1 = 0 := gr_zero (gr_refl [172] [(172, -1)] S G) n1z
  have s6 : S2 original = 171 := gr_lab g4 original_s (by decide)
  have g7 : Gr [172] [(172, -1)] S G S2 G3 := gr_call (gr_refl [172] [(172, -1)] S G) g4 rfl rfl
  refine r_ex hX hP 7 (pc' := 30) (st' := [(2, original), (0, 0), (2, n1), (0, 0), (2, original)]) (lo' := [(0, (2, original)), (1, (0, 22)), (2, (2, (mI E))), (3, (2, n1))]) rfl ?_
  refine r_alen hX hP rfl al_171 s6 ?_
  refine r_ex hX hP 1 (pc' := 32) (st' := [(0, 22), (0, 15), (0, 0), (2, n1), (0, 0), (2, original)]) (lo' := [(0, (2, original)), (1, (0, 22)), (2, (2, (mI E))), (3, (2, n1))]) rfl ?_
  refine r_mminI hX hP rfl (tbg sg3 121 rfl rfl) (tbg sg3 122 rfl rfl) (tbg sg1 14 rfl rfl) (tbg sg3 123 rfl rfl) (by decide) (by decide) (by decide) (Nat.le_of_ble_eq_true rfl) (by first | decide | omega) (by first | decide | omega) (by first | decide | omega) (by first | decide | omega) (fun c8 => ?_) (fun c8 => ?_)
  · skip
    refine r_acopyQ hX hP rfl (n := 15) al_171 al_172 ck_137_O (tbg sg3 124 rfl rfl) (tbg sg3 126 rfl rfl) (tbg sg3 125 rfl rfl) (tbg sg1 16 rfl rfl) (by first | decide | omega) (Nat.le_of_ble_eq_true rfl) s6 n1l (by decide) (by decide) ?_
    have cq10 : ∀ i : Int, 0 ≤ i → i < 15 → cpy G3 171 original 172 n1 15 172 n1 i = G3 171 original i := fun i h0 h1 => cpy_in h0 h1
    rw [cpy_hw]
    rw [cpy_hw] at cq10
    generalize cpy _ _ _ _ _ _ = G9 at cq10 ⊢
    refine r_ex hX hP 1 (pc' := 39) (st' := [(2, n1)]) (lo' := [(0, (2, original)), (1, (0, 22)), (2, (2, (mI E))), (3, (2, n1))]) rfl ?_
    have g11 : Gr [172] [(172, -1)] S G S2 (hw [(172, -1)] G3 G9) := (gr_hw g7 rfl)
    exact r_retR hX hP rfl rfl (by first | exact Or.inl ⟨_, rfl⟩ | exact Or.inr ⟨_, rfl⟩) (by first | decide | omega) (by first | decide | omega) ⟨g11, n1, rfl, n1l, (fun i h0 h1 => (cq10 i h0 h1).trans (gr_at g4 original_s (by decide) rfl))⟩
  · skip
    exfalso; omega
set_option maxRecDepth 100000 in
set_option maxHeartbeats 4000000 in
theorem c_cp2_Lev_1 (E : En) (S : Sg) (G : Gh) (original : Int) (newLength : Int) (original_s : S original = 171) (newLength_a : 22 ≤ newLength) (newLength_b : newLength ≤ 22) : Calls E mJ7_copyOf_1904c [(2, original), (0, newLength)] S G 6 1 22 (fun r S' G' => Gr [172] [(172, -1)] S G S' G' ∧ ∃ z : Int, r = some (2, z) ∧ S' z = 172 ∧ (∀ i : Int, 0 ≤ i → i < 15 → G' 172 z i = G 171 original i)) := by
  refine calls_by [(0, (2, original)), (1, (0, newLength))] rfl rfl (Nat.le_of_ble_eq_true rfl) (fun X hX => ?_)
  have hP := hPJ7_copyOf_1904c
  obtain rfl : newLength = 22 := by omega
  refine r_ex hX hP 3 (pc' := 3) (st' := [(2, original), (0, 22), (2, original)]) (lo' := [(0, (2, original)), (1, (0, 22))]) rfl ?_
  refine r_getCls hX hP rfl (L := 171) al_171 original_s (tbg sg3 98 rfl rfl) (List.mem_filter.mpr ⟨sg11 _ (List.mem_of_getElem? (i := 50) rfl), rfl⟩) (tbg sg11 49 rfl rfl) (tbg sg3 99 rfl rfl) (tbg sg3 114 rfl rfl) (by first | decide | omega) (Nat.le_of_ble_eq_true rfl) ?_
  refine r_callS gd hX hP rfl cs_J7_300 (d' := 4) (mc' := 1) (ms' := 22) (as' := [(2, original), (0, 22), (2, (mI E))]) (st := []) (by first | decide | omega) (by first | decide | omega) (by first | decide | omega) rfl rfl (Nat.le_of_ble_eq_true rfl) (c_cp3_Lev_1 E S G original 22 (mI E) original_s (by first | decide | omega) (by first | decide | omega) rfl) ?_
  rintro _ S1 G2 ⟨g3, z4, rfl, z4s, q5⟩
  have s6 : S1 original = 171 := gr_lab g3 original_s (by decide)
  have g7 : Gr [172] [(172, -1)] S G S1 G2 := gr_call (gr_refl [172] [(172, -1)] S G) g3 rfl rfl
  exact r_retR hX hP rfl rfl (by first | exact Or.inl ⟨_, rfl⟩ | exact Or.inr ⟨_, rfl⟩) (by first | decide | omega) (by first | decide | omega) ⟨g7, z4, rfl, z4s, q5⟩
set_option maxRecDepth 100000 in
set_option maxHeartbeats 4000000 in
theorem c_cp3_Lpi_0 (E : En) (S : Sg) (G : Gh) (original : Int) (newLength : Int) (newType : Int) (original_s : S original = 173) (newLength_a : 15 ≤ newLength) (newLength_b : newLength ≤ 15) (xt : newType = mI E) : Calls E mJ7_copyOf_6403c [(2, original), (0, newLength), (2, newType)] S G 4 1 15 (fun r S' G' => Gr [174] [(174, -1)] S G S' G' ∧ ∃ z : Int, r = some (2, z) ∧ S' z = 174 ∧ (∀ i : Int, 0 ≤ i → i < 10 → G' 174 z i = G 173 original i)) := by
  refine calls_by [(0, (2, original)), (1, (0, newLength)), (2, (2, newType))] rfl rfl (Nat.le_of_ble_eq_true rfl) (fun X hX => ?_)
  have hP := hPJ7_copyOf_6403c
  obtain rfl : newLength = 15 := by omega
  subst xt
  refine r_ex hX hP 1 (pc' := 1) (st' := [(2, (mI E))]) (lo' := [(0, (2, original)), (1, (0, 15)), (2, (2, (mI E)))]) rfl ?_
  refine r_ldcM hX hP rfl (tbg sg3 118 rfl rfl) ?_
  refine r_acmpN hX hP rfl (tgt := 13) rfl (Int.le_trans (by decide) (Int.natCast_nonneg _)) (Int.le_trans (by decide) (Int.natCast_nonneg _)) (fun q => absurd rfl q) (fun _ => ?_)
  refine r_ex hX hP 1 (pc' := 7) (st' := [(0, 15)]) (lo' := [(0, (2, original)), (1, (0, 15)), (2, (2, (mI E)))]) rfl ?_
  refine r_anewA hX hP rfl (L := 174) (n := 15) al_174 (tbg sg3 120 rfl rfl) (by decide) (by first | decide | omega) (by first | decide | omega) (fun n1 S2 G3 n1z n1n n1l g4 n1v => ?_)
  have z5 : S n1 = 0 := gr_zero (gr_refl [174] [(174, -1)] S G) n1z
  have s6 : S2 original = 173 := gr_lab g4 original_s (by decide)
  have g7 : Gr [174] [(174, -1)] S G S2 G3 := gr_call (gr_refl [174] [(174, -1)] S G) g4 rfl rfl
  refine r_ex hX hP 7 (pc' := 30) (st' := [(2, original), (0, 0), (2, n1), (0, 0), (2, original)]) (lo' := [(0, (2, original)), (1, (0, 15)), (2, (2, (mI E))), (3, (2, n1))]) rfl ?_
  refine r_alen hX hP rfl al_173 s6 ?_
  refine r_ex hX hP 1 (pc' := 32) (st' := [(0, 15), (0, 10), (0, 0), (2, n1), (0, 0), (2, original)]) (lo' := [(0, (2, original)), (1, (0, 15)), (2, (2, (mI E))), (3, (2, n1))]) rfl ?_
  refine r_mminI hX hP rfl (tbg sg3 121 rfl rfl) (tbg sg3 122 rfl rfl) (tbg sg1 14 rfl rfl) (tbg sg3 123 rfl rfl) (by decide) (by decide) (by decide) (Nat.le_of_ble_eq_true rfl) (by first | decide | omega) (by first | decide | omega) (by first | decide | omega) (by first | decide | omega) (fun c8 => ?_) (fun c8 => ?_)
  · skip
    refine r_acopyQ hX hP rfl (n := 10) al_173 al_174 ck_138_O (tbg sg3 124 rfl rfl) (tbg sg3 126 rfl rfl) (tbg sg3 125 rfl rfl) (tbg sg1 16 rfl rfl) (by first | decide | omega) (Nat.le_of_ble_eq_true rfl) s6 n1l (by decide) (by decide) ?_
    have cq10 : ∀ i : Int, 0 ≤ i → i < 10 → cpy G3 173 original 174 n1 10 174 n1 i = G3 173 original i := fun i h0 h1 => cpy_in h0 h1
    rw [cpy_hw]
    rw [cpy_hw] at cq10
    generalize cpy _ _ _ _ _ _ = G9 at cq10 ⊢
    refine r_ex hX hP 1 (pc' := 39) (st' := [(2, n1)]) (lo' := [(0, (2, original)), (1, (0, 15)), (2, (2, (mI E))), (3, (2, n1))]) rfl ?_
    have g11 : Gr [174] [(174, -1)] S G S2 (hw [(174, -1)] G3 G9) := (gr_hw g7 rfl)
    exact r_retR hX hP rfl rfl (by first | exact Or.inl ⟨_, rfl⟩ | exact Or.inr ⟨_, rfl⟩) (by first | decide | omega) (by first | decide | omega) ⟨g11, n1, rfl, n1l, (fun i h0 h1 => (cq10 i h0 h1).trans (gr_at g4 original_s (by decide) rfl))⟩
  · skip
    exfalso; omega
set_option maxRecDepth 100000 in
set_option maxHeartbeats 4000000 in
theorem c_cp2_Lpi_0 (E : En) (S : Sg) (G : Gh) (original : Int) (newLength : Int) (original_s : S original = 173) (newLength_a : 15 ≤ newLength) (newLength_b : newLength ≤ 15) : Calls E mJ7_copyOf_1904c [(2, original), (0, newLength)] S G 6 1 15 (fun r S' G' => Gr [174] [(174, -1)] S G S' G' ∧ ∃ z : Int, r = some (2, z) ∧ S' z = 174 ∧ (∀ i : Int, 0 ≤ i → i < 10 → G' 174 z i = G 173 original i)) := by
  refine calls_by [(0, (2, original)), (1, (0, newLength))] rfl rfl (Nat.le_of_ble_eq_true rfl) (fun X hX => ?_)
  have hP := hPJ7_copyOf_1904c
  obtain rfl : newLength = 15 := by omega
  refine r_ex hX hP 3 (pc' := 3) (st' := [(2, original), (0, 15), (2, original)]) (lo' := [(0, (2, original)), (1, (0, 15))]) rfl ?_
  refine r_getCls hX hP rfl (L := 173) al_173 original_s (tbg sg3 98 rfl rfl) (List.mem_filter.mpr ⟨sg11 _ (List.mem_of_getElem? (i := 50) rfl), rfl⟩) (tbg sg11 49 rfl rfl) (tbg sg3 99 rfl rfl) (tbg sg3 114 rfl rfl) (by first | decide | omega) (Nat.le_of_ble_eq_true rfl) ?_
  refine r_callS gd hX hP rfl cs_J7_300 (d' := 4) (mc' := 1) (ms' := 15) (as' := [(2, original), (0, 15), (2, (mI E))]) (st := []) (by first | decide | omega) (by first | decide | omega) (by first | decide | omega) rfl rfl (Nat.le_of_ble_eq_true rfl) (c_cp3_Lpi_0 E S G original 15 (mI E) original_s (by first | decide | omega) (by first | decide | omega) rfl) ?_
  rintro _ S1 G2 ⟨g3, z4, rfl, z4s, q5⟩
  have s6 : S1 original = 173 := gr_lab g3 original_s (by decide)
  have g7 : Gr [174] [(174, -1)] S G S1 G2 := gr_call (gr_refl [174] [(174, -1)] S G) g3 rfl rfl
  exact r_retR hX hP rfl rfl (by first | exact Or.inl ⟨_, rfl⟩ | exact Or.inr ⟨_, rfl⟩) (by first | decide | omega) (by first | decide | omega) ⟨g7, z4, rfl, z4s, q5⟩
set_option maxRecDepth 100000 in
set_option maxHeartbeats 4000000 in
theorem c_cp3_Lpi_1 (E : En) (S : Sg) (G : Gh) (original : Int) (newLength : Int) (newType : Int) (original_s : S original = 174) (newLength_a : 22 ≤ newLength) (newLength_b : newLength ≤ 22) (xt : newType = mI E) : Calls E mJ7_copyOf_6403c [(2, original), (0, newLength), (2, newType)] S G 4 1 22 (fun r S' G' => Gr [175] [(175, -1)] S G S' G' ∧ ∃ z : Int, r = some (2, z) ∧ S' z = 175 ∧ (∀ i : Int, 0 ≤ i → i < 15 → G' 175 z i = G 174 original i)) := by
  refine calls_by [(0, (2, original)), (1, (0, newLength)), (2, (2, newType))] rfl rfl (Nat.le_of_ble_eq_true rfl) (fun X hX => ?_)
  have hP := hPJ7_copyOf_6403c
  obtain rfl : newLength = 22 := by omega
  subst xt
  refine r_ex hX hP 1 (pc' := 1) (st' := [(2, (mI E))]) (lo' := [(0, (2, original)), (1, (0, 22)), (2, (2, (mI E)))]) rfl ?_
  refine r_ldcM hX hP rfl (tbg sg3 118 rfl rfl) ?_
  refine r_acmpN hX hP rfl (tgt := 13) rfl (Int.le_trans (by decide) (Int.natCast_nonneg _)) (Int.le_trans (by decide) (Int.natCast_nonneg _)) (fun q => absurd rfl q) (fun _ => ?_)
  refine r_ex hX hP 1 (pc' := 7) (st' := [(0, 22)]) (lo' := [(0, (2, original)), (1, (0, 22)), (2, (2, (mI E)))]) rfl ?_
  refine r_anewA hX hP rfl (L := 175) (n := 22) al_175 (tbg sg3 120 rfl rfl) (by decide) (by first | decide | omega) (by first | decide | omega) (fun n1 S2 G3 n1z n1n n1l g4 n1v => ?_)
  have z5 : S n1 = 0 := gr_zero (gr_refl [175] [(175, -1)] S G) n1z
  have s6 : S2 original = 174 := gr_lab g4 original_s (by decide)
  have g7 : Gr [175] [(175, -1)] S G S2 G3 := gr_call (gr_refl [175] [(175, -1)] S G) g4 rfl rfl
  refine r_ex hX hP 7 (pc' := 30) (st' := [(2, original), (0, 0), (2, n1), (0, 0), (2, original)]) (lo' := [(0, (2, original)), (1, (0, 22)), (2, (2, (mI E))), (3, (2, n1))]) rfl ?_
  refine r_alen hX hP rfl al_174 s6 ?_
  refine r_ex hX hP 1 (pc' := 32) (st' := [(0, 22), (0, 15), (0, 0), (2, n1), (0, 0), (2, original)]) (lo' := [(0, (2, original)), (1, (0, 22)), (2, (2, (mI E))), (3, (2, n1))]) rfl ?_
  refine r_mminI hX hP rfl (tbg sg3 121 rfl rfl) (tbg sg3 122 rfl rfl) (tbg sg1 14 rfl rfl) (tbg sg3 123 rfl rfl) (by decide) (by decide) (by decide) (Nat.le_of_ble_eq_true rfl) (by first | decide | omega) (by first | decide | omega) (by first | decide | omega) (by first | decide | omega) (fun c8 => ?_) (fun c8 => ?_)
  · skip
    refine r_acopyQ hX hP rfl (n := 15) al_174 al_175 ck_138_O (tbg sg3 124 rfl rfl) (tbg sg3 126 rfl rfl) (tbg sg3 125 rfl rfl) (tbg sg1 16 rfl rfl) (by first | decide | omega) (Nat.le_of_ble_eq_true rfl) s6 n1l (by decide) (by decide) ?_
    have cq10 : ∀ i : Int, 0 ≤ i → i < 15 → cpy G3 174 original 175 n1 15 175 n1 i = G3 174 original i := fun i h0 h1 => cpy_in h0 h1
    rw [cpy_hw]
    rw [cpy_hw] at cq10
    generalize cpy _ _ _ _ _ _ = G9 at cq10 ⊢
    refine r_ex hX hP 1 (pc' := 39) (st' := [(2, n1)]) (lo' := [(0, (2, original)), (1, (0, 22)), (2, (2, (mI E))), (3, (2, n1))]) rfl ?_
    have g11 : Gr [175] [(175, -1)] S G S2 (hw [(175, -1)] G3 G9) := (gr_hw g7 rfl)
    exact r_retR hX hP rfl rfl (by first | exact Or.inl ⟨_, rfl⟩ | exact Or.inr ⟨_, rfl⟩) (by first | decide | omega) (by first | decide | omega) ⟨g11, n1, rfl, n1l, (fun i h0 h1 => (cq10 i h0 h1).trans (gr_at g4 original_s (by decide) rfl))⟩
  · skip
    exfalso; omega
set_option maxRecDepth 100000 in
set_option maxHeartbeats 4000000 in
theorem c_cp2_Lpi_1 (E : En) (S : Sg) (G : Gh) (original : Int) (newLength : Int) (original_s : S original = 174) (newLength_a : 22 ≤ newLength) (newLength_b : newLength ≤ 22) : Calls E mJ7_copyOf_1904c [(2, original), (0, newLength)] S G 6 1 22 (fun r S' G' => Gr [175] [(175, -1)] S G S' G' ∧ ∃ z : Int, r = some (2, z) ∧ S' z = 175 ∧ (∀ i : Int, 0 ≤ i → i < 15 → G' 175 z i = G 174 original i)) := by
  refine calls_by [(0, (2, original)), (1, (0, newLength))] rfl rfl (Nat.le_of_ble_eq_true rfl) (fun X hX => ?_)
  have hP := hPJ7_copyOf_1904c
  obtain rfl : newLength = 22 := by omega
  refine r_ex hX hP 3 (pc' := 3) (st' := [(2, original), (0, 22), (2, original)]) (lo' := [(0, (2, original)), (1, (0, 22))]) rfl ?_
  refine r_getCls hX hP rfl (L := 174) al_174 original_s (tbg sg3 98 rfl rfl) (List.mem_filter.mpr ⟨sg11 _ (List.mem_of_getElem? (i := 50) rfl), rfl⟩) (tbg sg11 49 rfl rfl) (tbg sg3 99 rfl rfl) (tbg sg3 114 rfl rfl) (by first | decide | omega) (Nat.le_of_ble_eq_true rfl) ?_
  refine r_callS gd hX hP rfl cs_J7_300 (d' := 4) (mc' := 1) (ms' := 22) (as' := [(2, original), (0, 22), (2, (mI E))]) (st := []) (by first | decide | omega) (by first | decide | omega) (by first | decide | omega) rfl rfl (Nat.le_of_ble_eq_true rfl) (c_cp3_Lpi_1 E S G original 22 (mI E) original_s (by first | decide | omega) (by first | decide | omega) rfl) ?_
  rintro _ S1 G2 ⟨g3, z4, rfl, z4s, q5⟩
  have s6 : S1 original = 174 := gr_lab g3 original_s (by decide)
  have g7 : Gr [175] [(175, -1)] S G S1 G2 := gr_call (gr_refl [175] [(175, -1)] S G) g3 rfl rfl
  exact r_retR hX hP rfl rfl (by first | exact Or.inl ⟨_, rfl⟩ | exact Or.inr ⟨_, rfl⟩) (by first | decide | omega) (by first | decide | omega) ⟨g7, z4, rfl, z4s, q5⟩
set_option maxRecDepth 100000 in
set_option maxHeartbeats 4000000 in
theorem c_cp3_Lpi_2 (E : En) (S : Sg) (G : Gh) (original : Int) (newLength : Int) (newType : Int) (original_s : S original = 175) (newLength_a : 33 ≤ newLength) (newLength_b : newLength ≤ 33) (xt : newType = mI E) : Calls E mJ7_copyOf_6403c [(2, original), (0, newLength), (2, newType)] S G 4 1 33 (fun r S' G' => Gr [176] [(176, -1)] S G S' G' ∧ ∃ z : Int, r = some (2, z) ∧ S' z = 176 ∧ (∀ i : Int, 0 ≤ i → i < 22 → G' 176 z i = G 175 original i)) := by
  refine calls_by [(0, (2, original)), (1, (0, newLength)), (2, (2, newType))] rfl rfl (Nat.le_of_ble_eq_true rfl) (fun X hX => ?_)
  have hP := hPJ7_copyOf_6403c
  obtain rfl : newLength = 33 := by omega
  subst xt
  refine r_ex hX hP 1 (pc' := 1) (st' := [(2, (mI E))]) (lo' := [(0, (2, original)), (1, (0, 33)), (2, (2, (mI E)))]) rfl ?_
  refine r_ldcM hX hP rfl (tbg sg3 118 rfl rfl) ?_
  refine r_acmpN hX hP rfl (tgt := 13) rfl (Int.le_trans (by decide) (Int.natCast_nonneg _)) (Int.le_trans (by decide) (Int.natCast_nonneg _)) (fun q => absurd rfl q) (fun _ => ?_)
  refine r_ex hX hP 1 (pc' := 7) (st' := [(0, 33)]) (lo' := [(0, (2, original)), (1, (0, 33)), (2, (2, (mI E)))]) rfl ?_
  refine r_anewA hX hP rfl (L := 176) (n := 33) al_176 (tbg sg3 120 rfl rfl) (by decide) (by first | decide | omega) (by first | decide | omega) (fun n1 S2 G3 n1z n1n n1l g4 n1v => ?_)
  have z5 : S n1 = 0 := gr_zero (gr_refl [176] [(176, -1)] S G) n1z
  have s6 : S2 original = 175 := gr_lab g4 original_s (by decide)
  have g7 : Gr [176] [(176, -1)] S G S2 G3 := gr_call (gr_refl [176] [(176, -1)] S G) g4 rfl rfl
  refine r_ex hX hP 7 (pc' := 30) (st' := [(2, original), (0, 0), (2, n1), (0, 0), (2, original)]) (lo' := [(0, (2, original)), (1, (0, 33)), (2, (2, (mI E))), (3, (2, n1))]) rfl ?_
  refine r_alen hX hP rfl al_175 s6 ?_
  refine r_ex hX hP 1 (pc' := 32) (st' := [(0, 33), (0, 22), (0, 0), (2, n1), (0, 0), (2, original)]) (lo' := [(0, (2, original)), (1, (0, 33)), (2, (2, (mI E))), (3, (2, n1))]) rfl ?_
  refine r_mminI hX hP rfl (tbg sg3 121 rfl rfl) (tbg sg3 122 rfl rfl) (tbg sg1 14 rfl rfl) (tbg sg3 123 rfl rfl) (by decide) (by decide) (by decide) (Nat.le_of_ble_eq_true rfl) (by first | decide | omega) (by first | decide | omega) (by first | decide | omega) (by first | decide | omega) (fun c8 => ?_) (fun c8 => ?_)
  · skip
    refine r_acopyQ hX hP rfl (n := 22) al_175 al_176 ck_138_O (tbg sg3 124 rfl rfl) (tbg sg3 126 rfl rfl) (tbg sg3 125 rfl rfl) (tbg sg1 16 rfl rfl) (by first | decide | omega) (Nat.le_of_ble_eq_true rfl) s6 n1l (by decide) (by decide) ?_
    have cq10 : ∀ i : Int, 0 ≤ i → i < 22 → cpy G3 175 original 176 n1 22 176 n1 i = G3 175 original i := fun i h0 h1 => cpy_in h0 h1
    rw [cpy_hw]
    rw [cpy_hw] at cq10
    generalize cpy _ _ _ _ _ _ = G9 at cq10 ⊢
    refine r_ex hX hP 1 (pc' := 39) (st' := [(2, n1)]) (lo' := [(0, (2, original)), (1, (0, 33)), (2, (2, (mI E))), (3, (2, n1))]) rfl ?_
    have g11 : Gr [176] [(176, -1)] S G S2 (hw [(176, -1)] G3 G9) := (gr_hw g7 rfl)
    exact r_retR hX hP rfl rfl (by first | exact Or.inl ⟨_, rfl⟩ | exact Or.inr ⟨_, rfl⟩) (by first | decide | omega) (by first | decide | omega) ⟨g11, n1, rfl, n1l, (fun i h0 h1 => (cq10 i h0 h1).trans (gr_at g4 original_s (by decide) rfl))⟩
  · skip
    exfalso; omega
set_option maxRecDepth 100000 in
set_option maxHeartbeats 4000000 in
theorem c_cp2_Lpi_2 (E : En) (S : Sg) (G : Gh) (original : Int) (newLength : Int) (original_s : S original = 175) (newLength_a : 33 ≤ newLength) (newLength_b : newLength ≤ 33) : Calls E mJ7_copyOf_1904c [(2, original), (0, newLength)] S G 6 1 33 (fun r S' G' => Gr [176] [(176, -1)] S G S' G' ∧ ∃ z : Int, r = some (2, z) ∧ S' z = 176 ∧ (∀ i : Int, 0 ≤ i → i < 22 → G' 176 z i = G 175 original i)) := by
  refine calls_by [(0, (2, original)), (1, (0, newLength))] rfl rfl (Nat.le_of_ble_eq_true rfl) (fun X hX => ?_)
  have hP := hPJ7_copyOf_1904c
  obtain rfl : newLength = 33 := by omega
  refine r_ex hX hP 3 (pc' := 3) (st' := [(2, original), (0, 33), (2, original)]) (lo' := [(0, (2, original)), (1, (0, 33))]) rfl ?_
  refine r_getCls hX hP rfl (L := 175) al_175 original_s (tbg sg3 98 rfl rfl) (List.mem_filter.mpr ⟨sg11 _ (List.mem_of_getElem? (i := 50) rfl), rfl⟩) (tbg sg11 49 rfl rfl) (tbg sg3 99 rfl rfl) (tbg sg3 114 rfl rfl) (by first | decide | omega) (Nat.le_of_ble_eq_true rfl) ?_
  refine r_callS gd hX hP rfl cs_J7_300 (d' := 4) (mc' := 1) (ms' := 33) (as' := [(2, original), (0, 33), (2, (mI E))]) (st := []) (by first | decide | omega) (by first | decide | omega) (by first | decide | omega) rfl rfl (Nat.le_of_ble_eq_true rfl) (c_cp3_Lpi_2 E S G original 33 (mI E) original_s (by first | decide | omega) (by first | decide | omega) rfl) ?_
  rintro _ S1 G2 ⟨g3, z4, rfl, z4s, q5⟩
  have s6 : S1 original = 175 := gr_lab g3 original_s (by decide)
  have g7 : Gr [176] [(176, -1)] S G S1 G2 := gr_call (gr_refl [176] [(176, -1)] S G) g3 rfl rfl
  exact r_retR hX hP rfl rfl (by first | exact Or.inl ⟨_, rfl⟩ | exact Or.inr ⟨_, rfl⟩) (by first | decide | omega) (by first | decide | omega) ⟨g7, z4, rfl, z4s, q5⟩
set_option maxRecDepth 100000 in
set_option maxHeartbeats 4000000 in
theorem c_cp3_Lpi_3 (E : En) (S : Sg) (G : Gh) (original : Int) (newLength : Int) (newType : Int) (original_s : S original = 176) (newLength_a : 49 ≤ newLength) (newLength_b : newLength ≤ 49) (xt : newType = mI E) : Calls E mJ7_copyOf_6403c [(2, original), (0, newLength), (2, newType)] S G 4 1 49 (fun r S' G' => Gr [177] [(177, -1)] S G S' G' ∧ ∃ z : Int, r = some (2, z) ∧ S' z = 177 ∧ (∀ i : Int, 0 ≤ i → i < 33 → G' 177 z i = G 176 original i)) := by
  refine calls_by [(0, (2, original)), (1, (0, newLength)), (2, (2, newType))] rfl rfl (Nat.le_of_ble_eq_true rfl) (fun X hX => ?_)
  have hP := hPJ7_copyOf_6403c
  obtain rfl : newLength = 49 := by omega
  subst xt
  refine r_ex hX hP 1 (pc' := 1) (st' := [(2, (mI E))]) (lo' := [(0, (2, original)), (1, (0, 49)), (2, (2, (mI E)))]) rfl ?_
  refine r_ldcM hX hP rfl (tbg sg3 118 rfl rfl) ?_
  refine r_acmpN hX hP rfl (tgt := 13) rfl (Int.le_trans (by decide) (Int.natCast_nonneg _)) (Int.le_trans (by decide) (Int.natCast_nonneg _)) (fun q => absurd rfl q) (fun _ => ?_)
  refine r_ex hX hP 1 (pc' := 7) (st' := [(0, 49)]) (lo' := [(0, (2, original)), (1, (0, 49)), (2, (2, (mI E)))]) rfl ?_
  refine r_anewA hX hP rfl (L := 177) (n := 49) al_177 (tbg sg3 120 rfl rfl) (by decide) (by first | decide | omega) (by first | decide | omega) (fun n1 S2 G3 n1z n1n n1l g4 n1v => ?_)
  have z5 : S n1 = 0 := gr_zero (gr_refl [177] [(177, -1)] S G) n1z
  have s6 : S2 original = 176 := gr_lab g4 original_s (by decide)
  have g7 : Gr [177] [(177, -1)] S G S2 G3 := gr_call (gr_refl [177] [(177, -1)] S G) g4 rfl rfl
  refine r_ex hX hP 7 (pc' := 30) (st' := [(2, original), (0, 0), (2, n1), (0, 0), (2, original)]) (lo' := [(0, (2, original)), (1, (0, 49)), (2, (2, (mI E))), (3, (2, n1))]) rfl ?_
  refine r_alen hX hP rfl al_176 s6 ?_
  refine r_ex hX hP 1 (pc' := 32) (st' := [(0, 49), (0, 33), (0, 0), (2, n1), (0, 0), (2, original)]) (lo' := [(0, (2, original)), (1, (0, 49)), (2, (2, (mI E))), (3, (2, n1))]) rfl ?_
  refine r_mminI hX hP rfl (tbg sg3 121 rfl rfl) (tbg sg3 122 rfl rfl) (tbg sg1 14 rfl rfl) (tbg sg3 123 rfl rfl) (by decide) (by decide) (by decide) (Nat.le_of_ble_eq_true rfl) (by first | decide | omega) (by first | decide | omega) (by first | decide | omega) (by first | decide | omega) (fun c8 => ?_) (fun c8 => ?_)
  · skip
    refine r_acopyQ hX hP rfl (n := 33) al_176 al_177 ck_138_O (tbg sg3 124 rfl rfl) (tbg sg3 126 rfl rfl) (tbg sg3 125 rfl rfl) (tbg sg1 16 rfl rfl) (by first | decide | omega) (Nat.le_of_ble_eq_true rfl) s6 n1l (by decide) (by decide) ?_
    have cq10 : ∀ i : Int, 0 ≤ i → i < 33 → cpy G3 176 original 177 n1 33 177 n1 i = G3 176 original i := fun i h0 h1 => cpy_in h0 h1
    rw [cpy_hw]
    rw [cpy_hw] at cq10
    generalize cpy _ _ _ _ _ _ = G9 at cq10 ⊢
    refine r_ex hX hP 1 (pc' := 39) (st' := [(2, n1)]) (lo' := [(0, (2, original)), (1, (0, 49)), (2, (2, (mI E))), (3, (2, n1))]) rfl ?_
    have g11 : Gr [177] [(177, -1)] S G S2 (hw [(177, -1)] G3 G9) := (gr_hw g7 rfl)
    exact r_retR hX hP rfl rfl (by first | exact Or.inl ⟨_, rfl⟩ | exact Or.inr ⟨_, rfl⟩) (by first | decide | omega) (by first | decide | omega) ⟨g11, n1, rfl, n1l, (fun i h0 h1 => (cq10 i h0 h1).trans (gr_at g4 original_s (by decide) rfl))⟩
  · skip
    exfalso; omega
set_option maxRecDepth 100000 in
set_option maxHeartbeats 4000000 in
theorem c_cp2_Lpi_3 (E : En) (S : Sg) (G : Gh) (original : Int) (newLength : Int) (original_s : S original = 176) (newLength_a : 49 ≤ newLength) (newLength_b : newLength ≤ 49) : Calls E mJ7_copyOf_1904c [(2, original), (0, newLength)] S G 6 1 49 (fun r S' G' => Gr [177] [(177, -1)] S G S' G' ∧ ∃ z : Int, r = some (2, z) ∧ S' z = 177 ∧ (∀ i : Int, 0 ≤ i → i < 33 → G' 177 z i = G 176 original i)) := by
  refine calls_by [(0, (2, original)), (1, (0, newLength))] rfl rfl (Nat.le_of_ble_eq_true rfl) (fun X hX => ?_)
  have hP := hPJ7_copyOf_1904c
  obtain rfl : newLength = 49 := by omega
  refine r_ex hX hP 3 (pc' := 3) (st' := [(2, original), (0, 49), (2, original)]) (lo' := [(0, (2, original)), (1, (0, 49))]) rfl ?_
  refine r_getCls hX hP rfl (L := 176) al_176 original_s (tbg sg3 98 rfl rfl) (List.mem_filter.mpr ⟨sg11 _ (List.mem_of_getElem? (i := 50) rfl), rfl⟩) (tbg sg11 49 rfl rfl) (tbg sg3 99 rfl rfl) (tbg sg3 114 rfl rfl) (by first | decide | omega) (Nat.le_of_ble_eq_true rfl) ?_
  refine r_callS gd hX hP rfl cs_J7_300 (d' := 4) (mc' := 1) (ms' := 49) (as' := [(2, original), (0, 49), (2, (mI E))]) (st := []) (by first | decide | omega) (by first | decide | omega) (by first | decide | omega) rfl rfl (Nat.le_of_ble_eq_true rfl) (c_cp3_Lpi_3 E S G original 49 (mI E) original_s (by first | decide | omega) (by first | decide | omega) rfl) ?_
  rintro _ S1 G2 ⟨g3, z4, rfl, z4s, q5⟩
  have s6 : S1 original = 176 := gr_lab g3 original_s (by decide)
  have g7 : Gr [177] [(177, -1)] S G S1 G2 := gr_call (gr_refl [177] [(177, -1)] S G) g3 rfl rfl
  exact r_retR hX hP rfl rfl (by first | exact Or.inl ⟨_, rfl⟩ | exact Or.inr ⟨_, rfl⟩) (by first | decide | omega) (by first | decide | omega) ⟨g7, z4, rfl, z4s, q5⟩
set_option maxRecDepth 100000 in
set_option maxHeartbeats 4000000 in
theorem c_cp3_Lpi_4 (E : En) (S : Sg) (G : Gh) (original : Int) (newLength : Int) (newType : Int) (original_s : S original = 177) (newLength_a : 73 ≤ newLength) (newLength_b : newLength ≤ 73) (xt : newType = mI E) : Calls E mJ7_copyOf_6403c [(2, original), (0, newLength), (2, newType)] S G 4 1 73 (fun r S' G' => Gr [178] [(178, -1)] S G S' G' ∧ ∃ z : Int, r = some (2, z) ∧ S' z = 178 ∧ (∀ i : Int, 0 ≤ i → i < 49 → G' 178 z i = G 177 original i)) := by
  refine calls_by [(0, (2, original)), (1, (0, newLength)), (2, (2, newType))] rfl rfl (Nat.le_of_ble_eq_true rfl) (fun X hX => ?_)
  have hP := hPJ7_copyOf_6403c
  obtain rfl : newLength = 73 := by omega
  subst xt
  refine r_ex hX hP 1 (pc' := 1) (st' := [(2, (mI E))]) (lo' := [(0, (2, original)), (1, (0, 73)), (2, (2, (mI E)))]) rfl ?_
  refine r_ldcM hX hP rfl (tbg sg3 118 rfl rfl) ?_
  refine r_acmpN hX hP rfl (tgt := 13) rfl (Int.le_trans (by decide) (Int.natCast_nonneg _)) (Int.le_trans (by decide) (Int.natCast_nonneg _)) (fun q => absurd rfl q) (fun _ => ?_)
  refine r_ex hX hP 1 (pc' := 7) (st' := [(0, 73)]) (lo' := [(0, (2, original)), (1, (0, 73)), (2, (2, (mI E)))]) rfl ?_
  refine r_anewA hX hP rfl (L := 178) (n := 73) al_178 (tbg sg3 120 rfl rfl) (by decide) (by first | decide | omega) (by first | decide | omega) (fun n1 S2 G3 n1z n1n n1l g4 n1v => ?_)
  have z5 : S n1 = 0 := gr_zero (gr_refl [178] [(178, -1)] S G) n1z
  have s6 : S2 original = 177 := gr_lab g4 original_s (by decide)
  have g7 : Gr [178] [(178, -1)] S G S2 G3 := gr_call (gr_refl [178] [(178, -1)] S G) g4 rfl rfl
  refine r_ex hX hP 7 (pc' := 30) (st' := [(2, original), (0, 0), (2, n1), (0, 0), (2, original)]) (lo' := [(0, (2, original)), (1, (0, 73)), (2, (2, (mI E))), (3, (2, n1))]) rfl ?_
  refine r_alen hX hP rfl al_177 s6 ?_
  refine r_ex hX hP 1 (pc' := 32) (st' := [(0, 73), (0, 49), (0, 0), (2, n1), (0, 0), (2, original)]) (lo' := [(0, (2, original)), (1, (0, 73)), (2, (2, (mI E))), (3, (2, n1))]) rfl ?_
  refine r_mminI hX hP rfl (tbg sg3 121 rfl rfl) (tbg sg3 122 rfl rfl) (tbg sg1 14 rfl rfl) (tbg sg3 123 rfl rfl) (by decide) (by decide) (by decide) (Nat.le_of_ble_eq_true rfl) (by first | decide | omega) (by first | decide | omega) (by first | decide | omega) (by first | decide | omega) (fun c8 => ?_) (fun c8 => ?_)
  · skip
    refine r_acopyQ hX hP rfl (n := 49) al_177 al_178 ck_138_O (tbg sg3 124 rfl rfl) (tbg sg3 126 rfl rfl) (tbg sg3 125 rfl rfl) (tbg sg1 16 rfl rfl) (by first | decide | omega) (Nat.le_of_ble_eq_true rfl) s6 n1l (by decide) (by decide) ?_
    have cq10 : ∀ i : Int, 0 ≤ i → i < 49 → cpy G3 177 original 178 n1 49 178 n1 i = G3 177 original i := fun i h0 h1 => cpy_in h0 h1
    rw [cpy_hw]
    rw [cpy_hw] at cq10
    generalize cpy _ _ _ _ _ _ = G9 at cq10 ⊢
    refine r_ex hX hP 1 (pc' := 39) (st' := [(2, n1)]) (lo' := [(0, (2, original)), (1, (0, 73)), (2, (2, (mI E))), (3, (2, n1))]) rfl ?_
    have g11 : Gr [178] [(178, -1)] S G S2 (hw [(178, -1)] G3 G9) := (gr_hw g7 rfl)
    exact r_retR hX hP rfl rfl (by first | exact Or.inl ⟨_, rfl⟩ | exact Or.inr ⟨_, rfl⟩) (by first | decide | omega) (by first | decide | omega) ⟨g11, n1, rfl, n1l, (fun i h0 h1 => (cq10 i h0 h1).trans (gr_at g4 original_s (by decide) rfl))⟩
  · skip
    exfalso; omega
set_option maxRecDepth 100000 in
set_option maxHeartbeats 4000000 in
theorem c_cp2_Lpi_4 (E : En) (S : Sg) (G : Gh) (original : Int) (newLength : Int) (original_s : S original = 177) (newLength_a : 73 ≤ newLength) (newLength_b : newLength ≤ 73) : Calls E mJ7_copyOf_1904c [(2, original), (0, newLength)] S G 6 1 73 (fun r S' G' => Gr [178] [(178, -1)] S G S' G' ∧ ∃ z : Int, r = some (2, z) ∧ S' z = 178 ∧ (∀ i : Int, 0 ≤ i → i < 49 → G' 178 z i = G 177 original i)) := by
  refine calls_by [(0, (2, original)), (1, (0, newLength))] rfl rfl (Nat.le_of_ble_eq_true rfl) (fun X hX => ?_)
  have hP := hPJ7_copyOf_1904c
  obtain rfl : newLength = 73 := by omega
  refine r_ex hX hP 3 (pc' := 3) (st' := [(2, original), (0, 73), (2, original)]) (lo' := [(0, (2, original)), (1, (0, 73))]) rfl ?_
  refine r_getCls hX hP rfl (L := 177) al_177 original_s (tbg sg3 98 rfl rfl) (List.mem_filter.mpr ⟨sg11 _ (List.mem_of_getElem? (i := 50) rfl), rfl⟩) (tbg sg11 49 rfl rfl) (tbg sg3 99 rfl rfl) (tbg sg3 114 rfl rfl) (by first | decide | omega) (Nat.le_of_ble_eq_true rfl) ?_
  refine r_callS gd hX hP rfl cs_J7_300 (d' := 4) (mc' := 1) (ms' := 73) (as' := [(2, original), (0, 73), (2, (mI E))]) (st := []) (by first | decide | omega) (by first | decide | omega) (by first | decide | omega) rfl rfl (Nat.le_of_ble_eq_true rfl) (c_cp3_Lpi_4 E S G original 73 (mI E) original_s (by first | decide | omega) (by first | decide | omega) rfl) ?_
  rintro _ S1 G2 ⟨g3, z4, rfl, z4s, q5⟩
  have s6 : S1 original = 177 := gr_lab g3 original_s (by decide)
  have g7 : Gr [178] [(178, -1)] S G S1 G2 := gr_call (gr_refl [178] [(178, -1)] S G) g3 rfl rfl
  exact r_retR hX hP rfl rfl (by first | exact Or.inl ⟨_, rfl⟩ | exact Or.inr ⟨_, rfl⟩) (by first | decide | omega) (by first | decide | omega) ⟨g7, z4, rfl, z4s, q5⟩
set_option maxRecDepth 100000 in
set_option maxHeartbeats 4000000 in
theorem c_cp3_Lna_0 (E : En) (S : Sg) (G : Gh) (original : Int) (newLength : Int) (newType : Int) (original_s : S original = 180) (newLength_a : 15 ≤ newLength) (newLength_b : newLength ≤ 15) (xt : newType = mI E) : Calls E mJ7_copyOf_6403c [(2, original), (0, newLength), (2, newType)] S G 4 1 15 (fun r S' G' => Gr [181] [(181, -1)] S G S' G' ∧ ∃ z : Int, r = some (2, z) ∧ S' z = 181 ∧ (∀ i : Int, 0 ≤ i → i < 10 → G' 181 z i = G 180 original i)) := by
  refine calls_by [(0, (2, original)), (1, (0, newLength)), (2, (2, newType))] rfl rfl (Nat.le_of_ble_eq_true rfl) (fun X hX => ?_)
  have hP := hPJ7_copyOf_6403c
  obtain rfl : newLength = 15 := by omega
  subst xt
  refine r_ex hX hP 1 (pc' := 1) (st' := [(2, (mI E))]) (lo' := [(0, (2, original)), (1, (0, 15)), (2, (2, (mI E)))]) rfl ?_
  refine r_ldcM hX hP rfl (tbg sg3 118 rfl rfl) ?_
  refine r_acmpN hX hP rfl (tgt := 13) rfl (Int.le_trans (by decide) (Int.natCast_nonneg _)) (Int.le_trans (by decide) (Int.natCast_nonneg _)) (fun q => absurd rfl q) (fun _ => ?_)
  refine r_ex hX hP 1 (pc' := 7) (st' := [(0, 15)]) (lo' := [(0, (2, original)), (1, (0, 15)), (2, (2, (mI E)))]) rfl ?_
  refine r_anewA hX hP rfl (L := 181) (n := 15) al_181 (tbg sg3 120 rfl rfl) (by decide) (by first | decide | omega) (by first | decide | omega) (fun n1 S2 G3 n1z n1n n1l g4 n1v => ?_)
  have z5 : S n1 = 0 := gr_zero (gr_refl [181] [(181, -1)] S G) n1z
  have s6 : S2 original = 180 := gr_lab g4 original_s (by decide)
  have g7 : Gr [181] [(181, -1)] S G S2 G3 := gr_call (gr_refl [181] [(181, -1)] S G) g4 rfl rfl
  refine r_ex hX hP 7 (pc' := 30) (st' := [(2, original), (0, 0), (2, n1), (0, 0), (2, original)]) (lo' := [(0, (2, original)), (1, (0, 15)), (2, (2, (mI E))), (3, (2, n1))]) rfl ?_
  refine r_alen hX hP rfl al_180 s6 ?_
  refine r_ex hX hP 1 (pc' := 32) (st' := [(0, 15), (0, 10), (0, 0), (2, n1), (0, 0), (2, original)]) (lo' := [(0, (2, original)), (1, (0, 15)), (2, (2, (mI E))), (3, (2, n1))]) rfl ?_
  refine r_mminI hX hP rfl (tbg sg3 121 rfl rfl) (tbg sg3 122 rfl rfl) (tbg sg1 14 rfl rfl) (tbg sg3 123 rfl rfl) (by decide) (by decide) (by decide) (Nat.le_of_ble_eq_true rfl) (by first | decide | omega) (by first | decide | omega) (by first | decide | omega) (by first | decide | omega) (fun c8 => ?_) (fun c8 => ?_)
  · skip
    refine r_acopyQ hX hP rfl (n := 10) al_180 al_181 ck_141_O (tbg sg3 124 rfl rfl) (tbg sg3 126 rfl rfl) (tbg sg3 125 rfl rfl) (tbg sg1 16 rfl rfl) (by first | decide | omega) (Nat.le_of_ble_eq_true rfl) s6 n1l (by decide) (by decide) ?_
    have cq10 : ∀ i : Int, 0 ≤ i → i < 10 → cpy G3 180 original 181 n1 10 181 n1 i = G3 180 original i := fun i h0 h1 => cpy_in h0 h1
    rw [cpy_hw]
    rw [cpy_hw] at cq10
    generalize cpy _ _ _ _ _ _ = G9 at cq10 ⊢
    refine r_ex hX hP 1 (pc' := 39) (st' := [(2, n1)]) (lo' := [(0, (2, original)), (1, (0, 15)), (2, (2, (mI E))), (3, (2, n1))]) rfl ?_
    have g11 : Gr [181] [(181, -1)] S G S2 (hw [(181, -1)] G3 G9) := (gr_hw g7 rfl)
    exact r_retR hX hP rfl rfl (by first | exact Or.inl ⟨_, rfl⟩ | exact Or.inr ⟨_, rfl⟩) (by first | decide | omega) (by first | decide | omega) ⟨g11, n1, rfl, n1l, (fun i h0 h1 => (cq10 i h0 h1).trans (gr_at g4 original_s (by decide) rfl))⟩
  · skip
    exfalso; omega
set_option maxRecDepth 100000 in
set_option maxHeartbeats 4000000 in
theorem c_cp2_Lna_0 (E : En) (S : Sg) (G : Gh) (original : Int) (newLength : Int) (original_s : S original = 180) (newLength_a : 15 ≤ newLength) (newLength_b : newLength ≤ 15) : Calls E mJ7_copyOf_1904c [(2, original), (0, newLength)] S G 6 1 15 (fun r S' G' => Gr [181] [(181, -1)] S G S' G' ∧ ∃ z : Int, r = some (2, z) ∧ S' z = 181 ∧ (∀ i : Int, 0 ≤ i → i < 10 → G' 181 z i = G 180 original i)) := by
  refine calls_by [(0, (2, original)), (1, (0, newLength))] rfl rfl (Nat.le_of_ble_eq_true rfl) (fun X hX => ?_)
  have hP := hPJ7_copyOf_1904c
  obtain rfl : newLength = 15 := by omega
  refine r_ex hX hP 3 (pc' := 3) (st' := [(2, original), (0, 15), (2, original)]) (lo' := [(0, (2, original)), (1, (0, 15))]) rfl ?_
  refine r_getCls hX hP rfl (L := 180) al_180 original_s (tbg sg3 98 rfl rfl) (List.mem_filter.mpr ⟨sg11 _ (List.mem_of_getElem? (i := 50) rfl), rfl⟩) (tbg sg11 49 rfl rfl) (tbg sg3 99 rfl rfl) (tbg sg3 114 rfl rfl) (by first | decide | omega) (Nat.le_of_ble_eq_true rfl) ?_
  refine r_callS gd hX hP rfl cs_J7_300 (d' := 4) (mc' := 1) (ms' := 15) (as' := [(2, original), (0, 15), (2, (mI E))]) (st := []) (by first | decide | omega) (by first | decide | omega) (by first | decide | omega) rfl rfl (Nat.le_of_ble_eq_true rfl) (c_cp3_Lna_0 E S G original 15 (mI E) original_s (by first | decide | omega) (by first | decide | omega) rfl) ?_
  rintro _ S1 G2 ⟨g3, z4, rfl, z4s, q5⟩
  have s6 : S1 original = 180 := gr_lab g3 original_s (by decide)
  have g7 : Gr [181] [(181, -1)] S G S1 G2 := gr_call (gr_refl [181] [(181, -1)] S G) g3 rfl rfl
  exact r_retR hX hP rfl rfl (by first | exact Or.inl ⟨_, rfl⟩ | exact Or.inr ⟨_, rfl⟩) (by first | decide | omega) (by first | decide | omega) ⟨g7, z4, rfl, z4s, q5⟩
set_option maxRecDepth 100000 in
set_option maxHeartbeats 4000000 in
theorem c_cp3_Lna_1 (E : En) (S : Sg) (G : Gh) (original : Int) (newLength : Int) (newType : Int) (original_s : S original = 181) (newLength_a : 22 ≤ newLength) (newLength_b : newLength ≤ 22) (xt : newType = mI E) : Calls E mJ7_copyOf_6403c [(2, original), (0, newLength), (2, newType)] S G 4 1 22 (fun r S' G' => Gr [182] [(182, -1)] S G S' G' ∧ ∃ z : Int, r = some (2, z) ∧ S' z = 182 ∧ (∀ i : Int, 0 ≤ i → i < 15 → G' 182 z i = G 181 original i)) := by
  refine calls_by [(0, (2, original)), (1, (0, newLength)), (2, (2, newType))] rfl rfl (Nat.le_of_ble_eq_true rfl) (fun X hX => ?_)
  have hP := hPJ7_copyOf_6403c
  obtain rfl : newLength = 22 := by omega
  subst xt
  refine r_ex hX hP 1 (pc' := 1) (st' := [(2, (mI E))]) (lo' := [(0, (2, original)), (1, (0, 22)), (2, (2, (mI E)))]) rfl ?_
  refine r_ldcM hX hP rfl (tbg sg3 118 rfl rfl) ?_
  refine r_acmpN hX hP rfl (tgt := 13) rfl (Int.le_trans (by decide) (Int.natCast_nonneg _)) (Int.le_trans (by decide) (Int.natCast_nonneg _)) (fun q => absurd rfl q) (fun _ => ?_)
  refine r_ex hX hP 1 (pc' := 7) (st' := [(0, 22)]) (lo' := [(0, (2, original)), (1, (0, 22)), (2, (2, (mI E)))]) rfl ?_
  refine r_anewA hX hP rfl (L := 182) (n := 22) al_182 (tbg sg3 120 rfl rfl) (by decide) (by first | decide | omega) (by first | decide | omega) (fun n1 S2 G3 n1z n1n n1l g4 n1v => ?_)
  have z5 : S n1 = 0 := gr_zero (gr_refl [182] [(182, -1)] S G) n1z
  have s6 : S2 original = 181 := gr_lab g4 original_s (by decide)
  have g7 : Gr [182] [(182, -1)] S G S2 G3 := gr_call (gr_refl [182] [(182, -1)] S G) g4 rfl rfl
  refine r_ex hX hP 7 (pc' := 30) (st' := [(2, original), (0, 0), (2, n1), (0, 0), (2, original)]) (lo' := [(0, (2, original)), (1, (0, 22)), (2, (2, (mI E))), (3, (2, n1))]) rfl ?_
  refine r_alen hX hP rfl al_181 s6 ?_
  refine r_ex hX hP 1 (pc' := 32) (st' := [(0, 22), (0, 15), (0, 0), (2, n1), (0, 0), (2, original)]) (lo' := [(0, (2, original)), (1, (0, 22)), (2, (2, (mI E))), (3, (2, n1))]) rfl ?_
  refine r_mminI hX hP rfl (tbg sg3 121 rfl rfl) (tbg sg3 122 rfl rfl) (tbg sg1 14 rfl rfl) (tbg sg3 123 rfl rfl) (by decide) (by decide) (by decide) (Nat.le_of_ble_eq_true rfl) (by first | decide | omega) (by first | decide | omega) (by first | decide | omega) (by first | decide | omega) (fun c8 => ?_) (fun c8 => ?_)
  · skip
    refine r_acopyQ hX hP rfl (n := 15) al_181 al_182 ck_141_O (tbg sg3 124 rfl rfl) (tbg sg3 126 rfl rfl) (tbg sg3 125 rfl rfl) (tbg sg1 16 rfl rfl) (by first | decide | omega) (Nat.le_of_ble_eq_true rfl) s6 n1l (by decide) (by decide) ?_
    have cq10 : ∀ i : Int, 0 ≤ i → i < 15 → cpy G3 181 original 182 n1 15 182 n1 i = G3 181 original i := fun i h0 h1 => cpy_in h0 h1
    rw [cpy_hw]
    rw [cpy_hw] at cq10
    generalize cpy _ _ _ _ _ _ = G9 at cq10 ⊢
    refine r_ex hX hP 1 (pc' := 39) (st' := [(2, n1)]) (lo' := [(0, (2, original)), (1, (0, 22)), (2, (2, (mI E))), (3, (2, n1))]) rfl ?_
    have g11 : Gr [182] [(182, -1)] S G S2 (hw [(182, -1)] G3 G9) := (gr_hw g7 rfl)
    exact r_retR hX hP rfl rfl (by first | exact Or.inl ⟨_, rfl⟩ | exact Or.inr ⟨_, rfl⟩) (by first | decide | omega) (by first | decide | omega) ⟨g11, n1, rfl, n1l, (fun i h0 h1 => (cq10 i h0 h1).trans (gr_at g4 original_s (by decide) rfl))⟩
  · skip
    exfalso; omega
set_option maxRecDepth 100000 in
set_option maxHeartbeats 4000000 in
theorem c_cp2_Lna_1 (E : En) (S : Sg) (G : Gh) (original : Int) (newLength : Int) (original_s : S original = 181) (newLength_a : 22 ≤ newLength) (newLength_b : newLength ≤ 22) : Calls E mJ7_copyOf_1904c [(2, original), (0, newLength)] S G 6 1 22 (fun r S' G' => Gr [182] [(182, -1)] S G S' G' ∧ ∃ z : Int, r = some (2, z) ∧ S' z = 182 ∧ (∀ i : Int, 0 ≤ i → i < 15 → G' 182 z i = G 181 original i)) := by
  refine calls_by [(0, (2, original)), (1, (0, newLength))] rfl rfl (Nat.le_of_ble_eq_true rfl) (fun X hX => ?_)
  have hP := hPJ7_copyOf_1904c
  obtain rfl : newLength = 22 := by omega
  refine r_ex hX hP 3 (pc' := 3) (st' := [(2, original), (0, 22), (2, original)]) (lo' := [(0, (2, original)), (1, (0, 22))]) rfl ?_
  refine r_getCls hX hP rfl (L := 181) al_181 original_s (tbg sg3 98 rfl rfl) (List.mem_filter.mpr ⟨sg11 _ (List.mem_of_getElem? (i := 50) rfl), rfl⟩) (tbg sg11 49 rfl rfl) (tbg sg3 99 rfl rfl) (tbg sg3 114 rfl rfl) (by first | decide | omega) (Nat.le_of_ble_eq_true rfl) ?_
  refine r_callS gd hX hP rfl cs_J7_300 (d' := 4) (mc' := 1) (ms' := 22) (as' := [(2, original), (0, 22), (2, (mI E))]) (st := []) (by first | decide | omega) (by first | decide | omega) (by first | decide | omega) rfl rfl (Nat.le_of_ble_eq_true rfl) (c_cp3_Lna_1 E S G original 22 (mI E) original_s (by first | decide | omega) (by first | decide | omega) rfl) ?_
  rintro _ S1 G2 ⟨g3, z4, rfl, z4s, q5⟩
  have s6 : S1 original = 181 := gr_lab g3 original_s (by decide)
  have g7 : Gr [182] [(182, -1)] S G S1 G2 := gr_call (gr_refl [182] [(182, -1)] S G) g3 rfl rfl
  exact r_retR hX hP rfl rfl (by first | exact Or.inl ⟨_, rfl⟩ | exact Or.inr ⟨_, rfl⟩) (by first | decide | omega) (by first | decide | omega) ⟨g7, z4, rfl, z4s, q5⟩
set_option maxRecDepth 100000 in
set_option maxHeartbeats 4000000 in
theorem c_cp3_Lna_2 (E : En) (S : Sg) (G : Gh) (original : Int) (newLength : Int) (newType : Int) (original_s : S original = 182) (newLength_a : 33 ≤ newLength) (newLength_b : newLength ≤ 33) (xt : newType = mI E) : Calls E mJ7_copyOf_6403c [(2, original), (0, newLength), (2, newType)] S G 4 1 33 (fun r S' G' => Gr [183] [(183, -1)] S G S' G' ∧ ∃ z : Int, r = some (2, z) ∧ S' z = 183 ∧ (∀ i : Int, 0 ≤ i → i < 22 → G' 183 z i = G 182 original i)) := by
  refine calls_by [(0, (2, original)), (1, (0, newLength)), (2, (2, newType))] rfl rfl (Nat.le_of_ble_eq_true rfl) (fun X hX => ?_)
  have hP := hPJ7_copyOf_6403c
  obtain rfl : newLength = 33 := by omega
  subst xt
  refine r_ex hX hP 1 (pc' := 1) (st' := [(2, (mI E))]) (lo' := [(0, (2, original)), (1, (0, 33)), (2, (2, (mI E)))]) rfl ?_
  refine r_ldcM hX hP rfl (tbg sg3 118 rfl rfl) ?_
  refine r_acmpN hX hP rfl (tgt := 13) rfl (Int.le_trans (by decide) (Int.natCast_nonneg _)) (Int.le_trans (by decide) (Int.natCast_nonneg _)) (fun q => absurd rfl q) (fun _ => ?_)
  refine r_ex hX hP 1 (pc' := 7) (st' := [(0, 33)]) (lo' := [(0, (2, original)), (1, (0, 33)), (2, (2, (mI E)))]) rfl ?_
  refine r_anewA hX hP rfl (L := 183) (n := 33) al_183 (tbg sg3 120 rfl rfl) (by decide) (by first | decide | omega) (by first | decide | omega) (fun n1 S2 G3 n1z n1n n1l g4 n1v => ?_)
  have z5 : S n1 = 0 := gr_zero (gr_refl [183] [(183, -1)] S G) n1z
  have s6 : S2 original = 182 := gr_lab g4 original_s (by decide)
  have g7 : Gr [183] [(183, -1)] S G S2 G3 := gr_call (gr_refl [183] [(183, -1)] S G) g4 rfl rfl
  refine r_ex hX hP 7 (pc' := 30) (st' := [(2, original), (0, 0), (2, n1), (0, 0), (2, original)]) (lo' := [(0, (2, original)), (1, (0, 33)), (2, (2, (mI E))), (3, (2, n1))]) rfl ?_
  refine r_alen hX hP rfl al_182 s6 ?_
  refine r_ex hX hP 1 (pc' := 32) (st' := [(0, 33), (0, 22), (0, 0), (2, n1), (0, 0), (2, original)]) (lo' := [(0, (2, original)), (1, (0, 33)), (2, (2, (mI E))), (3, (2, n1))]) rfl ?_
  refine r_mminI hX hP rfl (tbg sg3 121 rfl rfl) (tbg sg3 122 rfl rfl) (tbg sg1 14 rfl rfl) (tbg sg3 123 rfl rfl) (by decide) (by decide) (by decide) (Nat.le_of_ble_eq_true rfl) (by first | decide | omega) (by first | decide | omega) (by first | decide | omega) (by first | decide | omega) (fun c8 => ?_) (fun c8 => ?_)
  · skip
    refine r_acopyQ hX hP rfl (n := 22) al_182 al_183 ck_141_O (tbg sg3 124 rfl rfl) (tbg sg3 126 rfl rfl) (tbg sg3 125 rfl rfl) (tbg sg1 16 rfl rfl) (by first | decide | omega) (Nat.le_of_ble_eq_true rfl) s6 n1l (by decide) (by decide) ?_
    have cq10 : ∀ i : Int, 0 ≤ i → i < 22 → cpy G3 182 original 183 n1 22 183 n1 i = G3 182 original i := fun i h0 h1 => cpy_in h0 h1
    rw [cpy_hw]
    rw [cpy_hw] at cq10
    generalize cpy _ _ _ _ _ _ = G9 at cq10 ⊢
    refine r_ex hX hP 1 (pc' := 39) (st' := [(2, n1)]) (lo' := [(0, (2, original)), (1, (0, 33)), (2, (2, (mI E))), (3, (2, n1))]) rfl ?_
    have g11 : Gr [183] [(183, -1)] S G S2 (hw [(183, -1)] G3 G9) := (gr_hw g7 rfl)
    exact r_retR hX hP rfl rfl (by first | exact Or.inl ⟨_, rfl⟩ | exact Or.inr ⟨_, rfl⟩) (by first | decide | omega) (by first | decide | omega) ⟨g11, n1, rfl, n1l, (fun i h0 h1 => (cq10 i h0 h1).trans (gr_at g4 original_s (by decide) rfl))⟩
  · skip
    exfalso; omega
set_option maxRecDepth 100000 in
set_option maxHeartbeats 4000000 in
theorem c_cp2_Lna_2 (E : En) (S : Sg) (G : Gh) (original : Int) (newLength : Int) (original_s : S original = 182) (newLength_a : 33 ≤ newLength) (newLength_b : newLength ≤ 33) : Calls E mJ7_copyOf_1904c [(2, original), (0, newLength)] S G 6 1 33 (fun r S' G' => Gr [183] [(183, -1)] S G S' G' ∧ ∃ z : Int, r = some (2, z) ∧ S' z = 183 ∧ (∀ i : Int, 0 ≤ i → i < 22 → G' 183 z i = G 182 original i)) := by
  refine calls_by [(0, (2, original)), (1, (0, newLength))] rfl rfl (Nat.le_of_ble_eq_true rfl) (fun X hX => ?_)
  have hP := hPJ7_copyOf_1904c
  obtain rfl : newLength = 33 := by omega
  refine r_ex hX hP 3 (pc' := 3) (st' := [(2, original), (0, 33), (2, original)]) (lo' := [(0, (2, original)), (1, (0, 33))]) rfl ?_
  refine r_getCls hX hP rfl (L := 182) al_182 original_s (tbg sg3 98 rfl rfl) (List.mem_filter.mpr ⟨sg11 _ (List.mem_of_getElem? (i := 50) rfl), rfl⟩) (tbg sg11 49 rfl rfl) (tbg sg3 99 rfl rfl) (tbg sg3 114 rfl rfl) (by first | decide | omega) (Nat.le_of_ble_eq_true rfl) ?_
  refine r_callS gd hX hP rfl cs_J7_300 (d' := 4) (mc' := 1) (ms' := 33) (as' := [(2, original), (0, 33), (2, (mI E))]) (st := []) (by first | decide | omega) (by first | decide | omega) (by first | decide | omega) rfl rfl (Nat.le_of_ble_eq_true rfl) (c_cp3_Lna_2 E S G original 33 (mI E) original_s (by first | decide | omega) (by first | decide | omega) rfl) ?_
  rintro _ S1 G2 ⟨g3, z4, rfl, z4s, q5⟩
  have s6 : S1 original = 182 := gr_lab g3 original_s (by decide)
  have g7 : Gr [183] [(183, -1)] S G S1 G2 := gr_call (gr_refl [183] [(183, -1)] S G) g3 rfl rfl
  exact r_retR hX hP rfl rfl (by first | exact Or.inl ⟨_, rfl⟩ | exact Or.inr ⟨_, rfl⟩) (by first | decide | omega) (by first | decide | omega) ⟨g7, z4, rfl, z4s, q5⟩
set_option maxRecDepth 100000 in
set_option maxHeartbeats 4000000 in
theorem c_cp3_Lna_3 (E : En) (S : Sg) (G : Gh) (original : Int) (newLength : Int) (newType : Int) (original_s : S original = 183) (newLength_a : 49 ≤ newLength) (newLength_b : newLength ≤ 49) (xt : newType = mI E) : Calls E mJ7_copyOf_6403c [(2, original), (0, newLength), (2, newType)] S G 4 1 49 (fun r S' G' => Gr [184] [(184, -1)] S G S' G' ∧ ∃ z : Int, r = some (2, z) ∧ S' z = 184 ∧ (∀ i : Int, 0 ≤ i → i < 33 → G' 184 z i = G 183 original i)) := by
  refine calls_by [(0, (2, original)), (1, (0, newLength)), (2, (2, newType))] rfl rfl (Nat.le_of_ble_eq_true rfl) (fun X hX => ?_)
  have hP := hPJ7_copyOf_6403c
  obtain rfl : newLength = 49 := by omega
  subst xt
  refine r_ex hX hP 1 (pc' := 1) (st' := [(2, (mI E))]) (lo' := [(0, (2, original)), (1, (0, 49)), (2, (2, (mI E)))]) rfl ?_
  refine r_ldcM hX hP rfl (tbg sg3 118 rfl rfl) ?_
  refine r_acmpN hX hP rfl (tgt := 13) rfl (Int.le_trans (by decide) (Int.natCast_nonneg _)) (Int.le_trans (by decide) (Int.natCast_nonneg _)) (fun q => absurd rfl q) (fun _ => ?_)
  refine r_ex hX hP 1 (pc' := 7) (st' := [(0, 49)]) (lo' := [(0, (2, original)), (1, (0, 49)), (2, (2, (mI E)))]) rfl ?_
  refine r_anewA hX hP rfl (L := 184) (n := 49) al_184 (tbg sg3 120 rfl rfl) (by decide) (by first | decide | omega) (by first | decide | omega) (fun n1 S2 G3 n1z n1n n1l g4 n1v => ?_)
  have z5 : S n1 = 0 := gr_zero (gr_refl [184] [(184, -1)] S G) n1z
  have s6 : S2 original = 183 := gr_lab g4 original_s (by decide)
  have g7 : Gr [184] [(184, -1)] S G S2 G3 := gr_call (gr_refl [184] [(184, -1)] S G) g4 rfl rfl
  refine r_ex hX hP 7 (pc' := 30) (st' := [(2, original), (0, 0), (2, n1), (0, 0), (2, original)]) (lo' := [(0, (2, original)), (1, (0, 49)), (2, (2, (mI E))), (3, (2, n1))]) rfl ?_
  refine r_alen hX hP rfl al_183 s6 ?_
  refine r_ex hX hP 1 (pc' := 32) (st' := [(0, 49), (0, 33), (0, 0), (2, n1), (0, 0), (2, original)]) (lo' := [(0, (2, original)), (1, (0, 49)), (2, (2, (mI E))), (3, (2, n1))]) rfl ?_
  refine r_mminI hX hP rfl (tbg sg3 121 rfl rfl) (tbg sg3 122 rfl rfl) (tbg sg1 14 rfl rfl) (tbg sg3 123 rfl rfl) (by decide) (by decide) (by decide) (Nat.le_of_ble_eq_true rfl) (by first | decide | omega) (by first | decide | omega) (by first | decide | omega) (by first | decide | omega) (fun c8 => ?_) (fun c8 => ?_)
  · skip
    refine r_acopyQ hX hP rfl (n := 33) al_183 al_184 ck_141_O (tbg sg3 124 rfl rfl) (tbg sg3 126 rfl rfl) (tbg sg3 125 rfl rfl) (tbg sg1 16 rfl rfl) (by first | decide | omega) (Nat.le_of_ble_eq_true rfl) s6 n1l (by decide) (by decide) ?_
    have cq10 : ∀ i : Int, 0 ≤ i → i < 33 → cpy G3 183 original 184 n1 33 184 n1 i = G3 183 original i := fun i h0 h1 => cpy_in h0 h1
    rw [cpy_hw]
    rw [cpy_hw] at cq10
    generalize cpy _ _ _ _ _ _ = G9 at cq10 ⊢
    refine r_ex hX hP 1 (pc' := 39) (st' := [(2, n1)]) (lo' := [(0, (2, original)), (1, (0, 49)), (2, (2, (mI E))), (3, (2, n1))]) rfl ?_
    have g11 : Gr [184] [(184, -1)] S G S2 (hw [(184, -1)] G3 G9) := (gr_hw g7 rfl)
    exact r_retR hX hP rfl rfl (by first | exact Or.inl ⟨_, rfl⟩ | exact Or.inr ⟨_, rfl⟩) (by first | decide | omega) (by first | decide | omega) ⟨g11, n1, rfl, n1l, (fun i h0 h1 => (cq10 i h0 h1).trans (gr_at g4 original_s (by decide) rfl))⟩
  · skip
    exfalso; omega
set_option maxRecDepth 100000 in
set_option maxHeartbeats 4000000 in
theorem c_cp2_Lna_3 (E : En) (S : Sg) (G : Gh) (original : Int) (newLength : Int) (original_s : S original = 183) (newLength_a : 49 ≤ newLength) (newLength_b : newLength ≤ 49) : Calls E mJ7_copyOf_1904c [(2, original), (0, newLength)] S G 6 1 49 (fun r S' G' => Gr [184] [(184, -1)] S G S' G' ∧ ∃ z : Int, r = some (2, z) ∧ S' z = 184 ∧ (∀ i : Int, 0 ≤ i → i < 33 → G' 184 z i = G 183 original i)) := by
  refine calls_by [(0, (2, original)), (1, (0, newLength))] rfl rfl (Nat.le_of_ble_eq_true rfl) (fun X hX => ?_)
  have hP := hPJ7_copyOf_1904c
  obtain rfl : newLength = 49 := by omega
  refine r_ex hX hP 3 (pc' := 3) (st' := [(2, original), (0, 49), (2, original)]) (lo' := [(0, (2, original)), (1, (0, 49))]) rfl ?_
  refine r_getCls hX hP rfl (L := 183) al_183 original_s (tbg sg3 98 rfl rfl) (List.mem_filter.mpr ⟨sg11 _ (List.mem_of_getElem? (i := 50) rfl), rfl⟩) (tbg sg11 49 rfl rfl) (tbg sg3 99 rfl rfl) (tbg sg3 114 rfl rfl) (by first | decide | omega) (Nat.le_of_ble_eq_true rfl) ?_
  refine r_callS gd hX hP rfl cs_J7_300 (d' := 4) (mc' := 1) (ms' := 49) (as' := [(2, original), (0, 49), (2, (mI E))]) (st := []) (by first | decide | omega) (by first | decide | omega) (by first | decide | omega) rfl rfl (Nat.le_of_ble_eq_true rfl) (c_cp3_Lna_3 E S G original 49 (mI E) original_s (by first | decide | omega) (by first | decide | omega) rfl) ?_
  rintro _ S1 G2 ⟨g3, z4, rfl, z4s, q5⟩
  have s6 : S1 original = 183 := gr_lab g3 original_s (by decide)
  have g7 : Gr [184] [(184, -1)] S G S1 G2 := gr_call (gr_refl [184] [(184, -1)] S G) g3 rfl rfl
  exact r_retR hX hP rfl rfl (by first | exact Or.inl ⟨_, rfl⟩ | exact Or.inr ⟨_, rfl⟩) (by first | decide | omega) (by first | decide | omega) ⟨g7, z4, rfl, z4s, q5⟩
set_option maxRecDepth 100000 in
set_option maxHeartbeats 4000000 in
theorem c_cp3_Lna_4 (E : En) (S : Sg) (G : Gh) (original : Int) (newLength : Int) (newType : Int) (original_s : S original = 184) (newLength_a : 73 ≤ newLength) (newLength_b : newLength ≤ 73) (xt : newType = mI E) : Calls E mJ7_copyOf_6403c [(2, original), (0, newLength), (2, newType)] S G 4 1 73 (fun r S' G' => Gr [185] [(185, -1)] S G S' G' ∧ ∃ z : Int, r = some (2, z) ∧ S' z = 185 ∧ (∀ i : Int, 0 ≤ i → i < 49 → G' 185 z i = G 184 original i)) := by
  refine calls_by [(0, (2, original)), (1, (0, newLength)), (2, (2, newType))] rfl rfl (Nat.le_of_ble_eq_true rfl) (fun X hX => ?_)
  have hP := hPJ7_copyOf_6403c
  obtain rfl : newLength = 73 := by omega
  subst xt
  refine r_ex hX hP 1 (pc' := 1) (st' := [(2, (mI E))]) (lo' := [(0, (2, original)), (1, (0, 73)), (2, (2, (mI E)))]) rfl ?_
  refine r_ldcM hX hP rfl (tbg sg3 118 rfl rfl) ?_
  refine r_acmpN hX hP rfl (tgt := 13) rfl (Int.le_trans (by decide) (Int.natCast_nonneg _)) (Int.le_trans (by decide) (Int.natCast_nonneg _)) (fun q => absurd rfl q) (fun _ => ?_)
  refine r_ex hX hP 1 (pc' := 7) (st' := [(0, 73)]) (lo' := [(0, (2, original)), (1, (0, 73)), (2, (2, (mI E)))]) rfl ?_
  refine r_anewA hX hP rfl (L := 185) (n := 73) al_185 (tbg sg3 120 rfl rfl) (by decide) (by first | decide | omega) (by first | decide | omega) (fun n1 S2 G3 n1z n1n n1l g4 n1v => ?_)
  have z5 : S n1 = 0 := gr_zero (gr_refl [185] [(185, -1)] S G) n1z
  have s6 : S2 original = 184 := gr_lab g4 original_s (by decide)
  have g7 : Gr [185] [(185, -1)] S G S2 G3 := gr_call (gr_refl [185] [(185, -1)] S G) g4 rfl rfl
  refine r_ex hX hP 7 (pc' := 30) (st' := [(2, original), (0, 0), (2, n1), (0, 0), (2, original)]) (lo' := [(0, (2, original)), (1, (0, 73)), (2, (2, (mI E))), (3, (2, n1))]) rfl ?_
  refine r_alen hX hP rfl al_184 s6 ?_
  refine r_ex hX hP 1 (pc' := 32) (st' := [(0, 73), (0, 49), (0, 0), (2, n1), (0, 0), (2, original)]) (lo' := [(0, (2, original)), (1, (0, 73)), (2, (2, (mI E))), (3, (2, n1))]) rfl ?_
  refine r_mminI hX hP rfl (tbg sg3 121 rfl rfl) (tbg sg3 122 rfl rfl) (tbg sg1 14 rfl rfl) (tbg sg3 123 rfl rfl) (by decide) (by decide) (by decide) (Nat.le_of_ble_eq_true rfl) (by first | decide | omega) (by first | decide | omega) (by first | decide | omega) (by first | decide | omega) (fun c8 => ?_) (fun c8 => ?_)
  · skip
    refine r_acopyQ hX hP rfl (n := 49) al_184 al_185 ck_141_O (tbg sg3 124 rfl rfl) (tbg sg3 126 rfl rfl) (tbg sg3 125 rfl rfl) (tbg sg1 16 rfl rfl) (by first | decide | omega) (Nat.le_of_ble_eq_true rfl) s6 n1l (by decide) (by decide) ?_
    have cq10 : ∀ i : Int, 0 ≤ i → i < 49 → cpy G3 184 original 185 n1 49 185 n1 i = G3 184 original i := fun i h0 h1 => cpy_in h0 h1
    rw [cpy_hw]
    rw [cpy_hw] at cq10
    generalize cpy _ _ _ _ _ _ = G9 at cq10 ⊢
    refine r_ex hX hP 1 (pc' := 39) (st' := [(2, n1)]) (lo' := [(0, (2, original)), (1, (0, 73)), (2, (2, (mI E))), (3, (2, n1))]) rfl ?_
    have g11 : Gr [185] [(185, -1)] S G S2 (hw [(185, -1)] G3 G9) := (gr_hw g7 rfl)
    exact r_retR hX hP rfl rfl (by first | exact Or.inl ⟨_, rfl⟩ | exact Or.inr ⟨_, rfl⟩) (by first | decide | omega) (by first | decide | omega) ⟨g11, n1, rfl, n1l, (fun i h0 h1 => (cq10 i h0 h1).trans (gr_at g4 original_s (by decide) rfl))⟩
  · skip
    exfalso; omega
set_option maxRecDepth 100000 in
set_option maxHeartbeats 4000000 in
theorem c_cp2_Lna_4 (E : En) (S : Sg) (G : Gh) (original : Int) (newLength : Int) (original_s : S original = 184) (newLength_a : 73 ≤ newLength) (newLength_b : newLength ≤ 73) : Calls E mJ7_copyOf_1904c [(2, original), (0, newLength)] S G 6 1 73 (fun r S' G' => Gr [185] [(185, -1)] S G S' G' ∧ ∃ z : Int, r = some (2, z) ∧ S' z = 185 ∧ (∀ i : Int, 0 ≤ i → i < 49 → G' 185 z i = G 184 original i)) := by
  refine calls_by [(0, (2, original)), (1, (0, newLength))] rfl rfl (Nat.le_of_ble_eq_true rfl) (fun X hX => ?_)
  have hP := hPJ7_copyOf_1904c
  obtain rfl : newLength = 73 := by omega
  refine r_ex hX hP 3 (pc' := 3) (st' := [(2, original), (0, 73), (2, original)]) (lo' := [(0, (2, original)), (1, (0, 73))]) rfl ?_
  refine r_getCls hX hP rfl (L := 184) al_184 original_s (tbg sg3 98 rfl rfl) (List.mem_filter.mpr ⟨sg11 _ (List.mem_of_getElem? (i := 50) rfl), rfl⟩) (tbg sg11 49 rfl rfl) (tbg sg3 99 rfl rfl) (tbg sg3 114 rfl rfl) (by first | decide | omega) (Nat.le_of_ble_eq_true rfl) ?_
  refine r_callS gd hX hP rfl cs_J7_300 (d' := 4) (mc' := 1) (ms' := 73) (as' := [(2, original), (0, 73), (2, (mI E))]) (st := []) (by first | decide | omega) (by first | decide | omega) (by first | decide | omega) rfl rfl (Nat.le_of_ble_eq_true rfl) (c_cp3_Lna_4 E S G original 73 (mI E) original_s (by first | decide | omega) (by first | decide | omega) rfl) ?_
  rintro _ S1 G2 ⟨g3, z4, rfl, z4s, q5⟩
  have s6 : S1 original = 184 := gr_lab g3 original_s (by decide)
  have g7 : Gr [185] [(185, -1)] S G S1 G2 := gr_call (gr_refl [185] [(185, -1)] S G) g3 rfl rfl
  exact r_retR hX hP rfl rfl (by first | exact Or.inl ⟨_, rfl⟩ | exact Or.inr ⟨_, rfl⟩) (by first | decide | omega) (by first | decide | omega) ⟨g7, z4, rfl, z4s, q5⟩
set_option maxRecDepth 100000 in
set_option maxHeartbeats 4000000 in
theorem c_gri_Lis_E (E : En) (S : Sg) (G : Gh) (this : Int) (minCapacity : Int) (hS : S this = 154) (minCapacity_a : 1 ≤ minCapacity) (minCapacity_b : minCapacity ≤ 1) (ed_e : Ad E 0 = G 154 this 1) : Calls E mJx4a65c_grow_92f84 [(2, this), (0, minCapacity)] S G 8 1 10 (fun r S' G' => Gr [160] [(154, 1), (160, -1)] S G S' G' ∧ ∃ z : Int, r = some (2, z) ∧ S' z = 160 ∧ G' 154 this 1 = z) := by
  refine calls_by [(0, (2, this)), (1, (0, minCapacity))] rfl rfl (Nat.le_of_ble_eq_true rfl) (fun X hX => ?_)
  have hP := hPJx4a65c_grow_92f84
  obtain rfl : minCapacity = 1 := by omega
  refine r_ex hX hP 1 (pc' := 1) (st' := [(2, this)]) (lo' := [(0, (2, this)), (1, (0, 1))]) rfl ?_
  refine r_getK5 hX hP rfl fl_Jx4a65c_9_154 hS (x := (Ad E 0)) ed_e ?_
  refine r_alenE hX hP rfl ?_
  refine r_ex hX hP 2 (pc' := 7) (st' := [(0, 0)]) (lo' := [(0, (2, this)), (1, (0, 1)), (2, (0, 0))]) rfl ?_
  refine r_if_gt hX hP rfl (tgt := 20) rfl (by first | decide | omega) (by first | decide | omega) (fun c1 => ?_) (fun c1 => ?_)
  · skip
    exfalso; omega
  · skip
    refine r_ex hX hP 1 (pc' := 11) (st' := [(2, this)]) (lo' := [(0, (2, this)), (1, (0, 1)), (2, (0, 0))]) rfl ?_
    refine r_getK5 hX hP rfl fl_Jx4a65c_9_154 hS (x := (Ad E 0)) ed_e ?_
    refine r_getsE hX hP rfl (tbg sg1 137 rfl rfl) ?_
    refine r_ad0 hX (fun p2 => ?_)
    refine r_acmpE hX hP rfl (tgt := 45) rfl (by first | decide | omega) (by first | decide | omega) (fun _ => ?_) (fun q => absurd rfl q)
    refine r_ex hX hP 3 (pc' := 49) (st' := [(0, 1), (0, 10), (2, this)]) (lo' := [(0, (2, this)), (1, (0, 1)), (2, (0, 0))]) rfl ?_
    refine r_mmaxI hX hP rfl (tbg sg3 127 rfl rfl) (tbg sg3 89 rfl rfl) (tbg sg1 14 rfl rfl) (tbg sg3 90 rfl rfl) (by decide) (by decide) (by decide) (Nat.le_of_ble_eq_true rfl) (by first | decide | omega) (by first | decide | omega) (by first | decide | omega) (by first | decide | omega) (fun c3 => ?_) (fun c3 => ?_)
    · skip
      refine r_anewA hX hP rfl (L := 160) (n := 10) al_160 (tbg sg3 128 rfl rfl) (by decide) (by first | decide | omega) (by first | decide | omega) (fun n4 S5 G6 n4z n4n n4l g7 n4v => ?_)
      have z8 : S n4 = 0 := gr_zero (gr_refl [160] [(154, 1), (160, -1)] S G) n4z
      have s9 : S5 this = 154 := gr_lab g7 hS (by decide)
      have e10 : (Ad E 0) = G6 154 this 1 := gr_val g7 ed_e hS (by decide) rfl
      have g11 : Gr [160] [(154, 1), (160, -1)] S G S5 G6 := gr_call (gr_refl [160] [(154, 1), (160, -1)] S G) g7 rfl rfl
      refine r_ex hX hP 1 (pc' := 56) (st' := [(2, n4), (2, this), (2, n4)]) (lo' := [(0, (2, this)), (1, (0, 1)), (2, (0, 0))]) rfl ?_
      refine r_put5 hX hP rfl fp_Jx4a65c_9_154 s9 (by decide) (by rw [n4l]; decide) (by rw [n4l]; decide) (fun h12 => ?_)
      have g13 : Gr [160] [(154, 1), (160, -1)] S G S5 (up G6 154 this 1 n4) := (gr_up g11 rfl)
      exact r_retR hX hP rfl rfl (by first | exact Or.inl ⟨_, rfl⟩ | exact Or.inr ⟨_, rfl⟩) (by first | decide | omega) (by first | decide | omega) ⟨g13, n4, rfl, n4l, (h12).symm⟩
    · skip
      exfalso; omega
set_option maxRecDepth 100000 in
set_option maxHeartbeats 4000000 in
theorem c_gr0_Lis_E (E : En) (S : Sg) (G : Gh) (this : Int) (hS : S this = 154) (ed_e : Ad E 0 = G 154 this 1) (sz_e : 0 = G 154 this 2) : Calls E mJx4a65c_grow_d5877 [(2, this)] S G 10 1 10 (fun r S' G' => Gr [160] [(154, 1), (160, -1)] S G S' G' ∧ ∃ z : Int, r = some (2, z) ∧ S' z = 160 ∧ G' 154 this 1 = z) := by
  refine calls_by [(0, (2, this))] rfl rfl (Nat.le_of_ble_eq_true rfl) (fun X hX => ?_)
  have hP := hPJx4a65c_grow_d5877
  refine r_ex hX hP 2 (pc' := 2) (st' := [(2, this), (2, this)]) (lo' := [(0, (2, this))]) rfl ?_
  refine r_getKI hX hP rfl fl_Jx4a65c_48_154 hS (x := 0) sz_e ?_
  refine r_ex hX hP 2 (pc' := 7) (st' := [(0, (0 + 1)), (2, this)]) (lo' := [(0, (2, this))]) rfl ?_
  refine r_callV gd hX hP rfl cv_Jx4a65c_69_154 hS (d' := 8) (mc' := 1) (ms' := 10) (as' := [(0, (0 + 1))]) (st := []) (by first | decide | omega) (by first | decide | omega) (by first | decide | omega) rfl rfl (Nat.le_of_ble_eq_true rfl) (c_gri_Lis_E E S G this (0 + 1) hS (by first | decide | omega) (by first | decide | omega) ed_e) ?_
  rintro _ S1 G2 ⟨g3, z4, rfl, z4s, q5⟩
  have s6 : S1 this = 154 := gr_lab g3 hS (by decide)
  have e7 : 0 = G2 154 this 2 := gr_val g3 sz_e hS (by decide) rfl
  have g8 : Gr [160] [(154, 1), (160, -1)] S G S1 G2 := gr_call (gr_refl [160] [(154, 1), (160, -1)] S G) g3 rfl rfl
  have e9 : z4 = G2 154 this 1 := q5.symm
  exact r_retR hX hP rfl rfl (by first | exact Or.inl ⟨_, rfl⟩ | exact Or.inr ⟨_, rfl⟩) (by first | decide | omega) (by first | decide | omega) ⟨g8, z4, rfl, z4s, q5⟩
set_option maxRecDepth 100000 in
set_option maxHeartbeats 4000000 in
theorem c_gri_Lis_0 (E : En) (S : Sg) (G : Gh) (this : Int) (minCapacity : Int) (hS : S this = 154) (minCapacity_a : 11 ≤ minCapacity) (minCapacity_b : minCapacity ≤ 11) (ed : Int) (ed_e : ed = G 154 this 1) (ed_s : S ed = 160) : Calls E mJx4a65c_grow_92f84 [(2, this), (0, minCapacity)] S G 8 1 15 (fun r S' G' => Gr [161] [(154, 1), (161, -1)] S G S' G' ∧ ∃ z : Int, r = some (2, z) ∧ S' z = 161 ∧ G' 154 this 1 = z ∧ (∀ i : Int, 0 ≤ i → i < 10 → G' 161 z i = G 160 ed i)) := by
  refine calls_by [(0, (2, this)), (1, (0, minCapacity))] rfl rfl (Nat.le_of_ble_eq_true rfl) (fun X hX => ?_)
  have hP := hPJx4a65c_grow_92f84
  obtain rfl : minCapacity = 11 := by omega
  refine r_ex hX hP 1 (pc' := 1) (st' := [(2, this)]) (lo' := [(0, (2, this)), (1, (0, 11))]) rfl ?_
  refine r_getK5 hX hP rfl fl_Jx4a65c_9_154 hS (x := ed) ed_e ?_
  refine r_alen hX hP rfl al_160 ed_s ?_
  refine r_ex hX hP 2 (pc' := 7) (st' := [(0, 10)]) (lo' := [(0, (2, this)), (1, (0, 11)), (2, (0, 10))]) rfl ?_
  refine r_if_gt hX hP rfl (tgt := 20) rfl (by first | decide | omega) (by first | decide | omega) (fun c1 => ?_) (fun c1 => ?_)
  · skip
    refine r_ex hX hP 6 (pc' := 26) (st' := [(0, 1), (0, 10), (0, (11 - 10)), (0, 10)]) (lo' := [(0, (2, this)), (1, (0, 11)), (2, (0, 10))]) rfl ?_
    refine r_ishr hX hP rfl (fun b2 b2a b2b b2e => ?_)
    obtain rfl : b2 = 5 := sh1 b2e b2a b2b (by decide)
    refine r_callS gd hX hP rfl cs_Jx4a65c_73 (d' := 3) (mc' := 0) (ms' := 0) (as' := [(0, 10), (0, (11 - 10)), (0, 5)]) (st := []) (by first | decide | omega) (by first | decide | omega) (by first | decide | omega) rfl rfl (Nat.le_of_ble_eq_true rfl) (c_J8_newLength_cabcc E S G 10 (11 - 10) 5 (by first | decide | omega) (by first | decide | omega) (by first | decide | omega) (by first | decide | omega) (by first | decide | omega) (by first | decide | omega)) ?_
    rintro _ _ _ ⟨rfl, rfl, z3, rfl, z3a, z3b, f4, f5, f6⟩
    refine r_ex hX hP 3 (pc' := 33) (st' := [(2, this), (2, this)]) (lo' := [(0, (2, this)), (1, (0, 11)), (2, (0, 10)), (3, (0, z3))]) rfl ?_
    refine r_getK5 hX hP rfl fl_Jx4a65c_9_154 hS (x := ed) ed_e ?_
    refine r_ex hX hP 1 (pc' := 37) (st' := [(0, z3), (2, ed), (2, this)]) (lo' := [(0, (2, this)), (1, (0, 11)), (2, (0, 10)), (3, (0, z3))]) rfl ?_
    have g7 : Gr [161] [(154, 1), (161, -1)] S G S G := (gr_refl [161] [(154, 1), (161, -1)] S G)
    refine r_callS gd hX hP rfl cs_Jx4a65c_66 (d' := 6) (mc' := 1) (ms' := 15) (as' := [(2, ed), (0, z3)]) (st := [(2, this)]) (by first | decide | omega) (by first | decide | omega) (by first | decide | omega) rfl rfl (Nat.le_of_ble_eq_true rfl) (c_cp2_Lis_0 E S G ed z3 ed_s (by first | decide | omega) (by first | decide | omega)) ?_
    rintro _ S8 G9 ⟨g10, z11, rfl, z11s, q12⟩
    have s13 : S8 this = 154 := gr_lab g10 hS (by decide)
    have s14 : S8 ed = 160 := gr_lab g10 ed_s (by decide)
    have e15 : ed = G9 154 this 1 := gr_val g10 ed_e hS (by decide) rfl
    have g16 : Gr [161] [(154, 1), (161, -1)] S G S8 G9 := gr_call g7 g10 rfl rfl
    refine r_ex hX hP 1 (pc' := 41) (st' := [(2, z11), (2, this), (2, z11)]) (lo' := [(0, (2, this)), (1, (0, 11)), (2, (0, 10)), (3, (0, z3))]) rfl ?_
    refine r_put5 hX hP rfl fp_Jx4a65c_9_154 s13 (by decide) (by rw [z11s]; decide) (by rw [z11s]; decide) (fun h17 => ?_)
    have g18 : Gr [161] [(154, 1), (161, -1)] S G S8 (up G9 154 this 1 z11) := (gr_up g16 rfl)
    exact r_retR hX hP rfl rfl (by first | exact Or.inl ⟨_, rfl⟩ | exact Or.inr ⟨_, rfl⟩) (by first | decide | omega) (by first | decide | omega) ⟨g18, z11, rfl, z11s, (h17).symm, q12⟩
  · skip
    exfalso; omega
set_option maxRecDepth 100000 in
set_option maxHeartbeats 4000000 in
theorem c_gr0_Lis_0 (E : En) (S : Sg) (G : Gh) (this : Int) (hS : S this = 154) (ed : Int) (ed_e : ed = G 154 this 1) (ed_s : S ed = 160) (sz_e : 10 = G 154 this 2) : Calls E mJx4a65c_grow_d5877 [(2, this)] S G 10 1 15 (fun r S' G' => Gr [161] [(154, 1), (161, -1)] S G S' G' ∧ ∃ z : Int, r = some (2, z) ∧ S' z = 161 ∧ G' 154 this 1 = z ∧ (∀ i : Int, 0 ≤ i → i < 10 → G' 161 z i = G 160 ed i)) := by
  refine calls_by [(0, (2, this))] rfl rfl (Nat.le_of_ble_eq_true rfl) (fun X hX => ?_)
  have hP := hPJx4a65c_grow_d5877
  refine r_ex hX hP 2 (pc' := 2) (st' := [(2, this), (2, this)]) (lo' := [(0, (2, this))]) rfl ?_
  refine r_getKI hX hP rfl fl_Jx4a65c_48_154 hS (x := 10) sz_e ?_
  refine r_ex hX hP 2 (pc' := 7) (st' := [(0, (10 + 1)), (2, this)]) (lo' := [(0, (2, this))]) rfl ?_
  refine r_callV gd hX hP rfl cv_Jx4a65c_69_154 hS (d' := 8) (mc' := 1) (ms' := 15) (as' := [(0, (10 + 1))]) (st := []) (by first | decide | omega) (by first | decide | omega) (by first | decide | omega) rfl rfl (Nat.le_of_ble_eq_true rfl) (c_gri_Lis_0 E S G this (10 + 1) hS (by first | decide | omega) (by first | decide | omega) ed ed_e ed_s) ?_
  rintro _ S1 G2 ⟨g3, z4, rfl, z4s, q5, q6⟩
  have s7 : S1 this = 154 := gr_lab g3 hS (by decide)
  have s8 : S1 ed = 160 := gr_lab g3 ed_s (by decide)
  have e9 : 10 = G2 154 this 2 := gr_val g3 sz_e hS (by decide) rfl
  have g10 : Gr [161] [(154, 1), (161, -1)] S G S1 G2 := gr_call (gr_refl [161] [(154, 1), (161, -1)] S G) g3 rfl rfl
  have e11 : z4 = G2 154 this 1 := q5.symm
  exact r_retR hX hP rfl rfl (by first | exact Or.inl ⟨_, rfl⟩ | exact Or.inr ⟨_, rfl⟩) (by first | decide | omega) (by first | decide | omega) ⟨g10, z4, rfl, z4s, q5, q6⟩
set_option maxRecDepth 100000 in
set_option maxHeartbeats 4000000 in
theorem c_gri_Lis_1 (E : En) (S : Sg) (G : Gh) (this : Int) (minCapacity : Int) (hS : S this = 154) (minCapacity_a : 16 ≤ minCapacity) (minCapacity_b : minCapacity ≤ 16) (ed : Int) (ed_e : ed = G 154 this 1) (ed_s : S ed = 161) : Calls E mJx4a65c_grow_92f84 [(2, this), (0, minCapacity)] S G 8 1 22 (fun r S' G' => Gr [162] [(154, 1), (162, -1)] S G S' G' ∧ ∃ z : Int, r = some (2, z) ∧ S' z = 162 ∧ G' 154 this 1 = z ∧ (∀ i : Int, 0 ≤ i → i < 15 → G' 162 z i = G 161 ed i)) := by
  refine calls_by [(0, (2, this)), (1, (0, minCapacity))] rfl rfl (Nat.le_of_ble_eq_true rfl) (fun X hX => ?_)
  have hP := hPJx4a65c_grow_92f84
  obtain rfl : minCapacity = 16 := by omega
  refine r_ex hX hP 1 (pc' := 1) (st' := [(2, this)]) (lo' := [(0, (2, this)), (1, (0, 16))]) rfl ?_
  refine r_getK5 hX hP rfl fl_Jx4a65c_9_154 hS (x := ed) ed_e ?_
  refine r_alen hX hP rfl al_161 ed_s ?_
  refine r_ex hX hP 2 (pc' := 7) (st' := [(0, 15)]) (lo' := [(0, (2, this)), (1, (0, 16)), (2, (0, 15))]) rfl ?_
  refine r_if_gt hX hP rfl (tgt := 20) rfl (by first | decide | omega) (by first | decide | omega) (fun c1 => ?_) (fun c1 => ?_)
  · skip
    refine r_ex hX hP 6 (pc' := 26) (st' := [(0, 1), (0, 15), (0, (16 - 15)), (0, 15)]) (lo' := [(0, (2, this)), (1, (0, 16)), (2, (0, 15))]) rfl ?_
    refine r_ishr hX hP rfl (fun b2 b2a b2b b2e => ?_)
    obtain rfl : b2 = 7 := sh1 b2e b2a b2b (by decide)
    refine r_callS gd hX hP rfl cs_Jx4a65c_73 (d' := 3) (mc' := 0) (ms' := 0) (as' := [(0, 15), (0, (16 - 15)), (0, 7)]) (st := []) (by first | decide | omega) (by first | decide | omega) (by first | decide | omega) rfl rfl (Nat.le_of_ble_eq_true rfl) (c_J8_newLength_cabcc E S G 15 (16 - 15) 7 (by first | decide | omega) (by first | decide | omega) (by first | decide | omega) (by first | decide | omega) (by first | decide | omega) (by first | decide | omega)) ?_
    rintro _ _ _ ⟨rfl, rfl, z3, rfl, z3a, z3b, f4, f5, f6⟩
    refine r_ex hX hP 3 (pc' := 33) (st' := [(2, this), (2, this)]) (lo' := [(0, (2, this)), (1, (0, 16)), (2, (0, 15)), (3, (0, z3))]) rfl ?_
    refine r_getK5 hX hP rfl fl_Jx4a65c_9_154 hS (x := ed) ed_e ?_
    refine r_ex hX hP 1 (pc' := 37) (st' := [(0, z3), (2, ed), (2, this)]) (lo' := [(0, (2, this)), (1, (0, 16)), (2, (0, 15)), (3, (0, z3))]) rfl ?_
    have g7 : Gr [162] [(154, 1), (162, -1)] S G S G := (gr_refl [162] [(154, 1), (162, -1)] S G)
    refine r_callS gd hX hP rfl cs_Jx4a65c_66 (d' := 6) (mc' := 1) (ms' := 22) (as' := [(2, ed), (0, z3)]) (st := [(2, this)]) (by first | decide | omega) (by first | decide | omega) (by first | decide | omega) rfl rfl (Nat.le_of_ble_eq_true rfl) (c_cp2_Lis_1 E S G ed z3 ed_s (by first | decide | omega) (by first | decide | omega)) ?_
    rintro _ S8 G9 ⟨g10, z11, rfl, z11s, q12⟩
    have s13 : S8 this = 154 := gr_lab g10 hS (by decide)
    have s14 : S8 ed = 161 := gr_lab g10 ed_s (by decide)
    have e15 : ed = G9 154 this 1 := gr_val g10 ed_e hS (by decide) rfl
    have g16 : Gr [162] [(154, 1), (162, -1)] S G S8 G9 := gr_call g7 g10 rfl rfl
    refine r_ex hX hP 1 (pc' := 41) (st' := [(2, z11), (2, this), (2, z11)]) (lo' := [(0, (2, this)), (1, (0, 16)), (2, (0, 15)), (3, (0, z3))]) rfl ?_
    refine r_put5 hX hP rfl fp_Jx4a65c_9_154 s13 (by decide) (by rw [z11s]; decide) (by rw [z11s]; decide) (fun h17 => ?_)
    have g18 : Gr [162] [(154, 1), (162, -1)] S G S8 (up G9 154 this 1 z11) := (gr_up g16 rfl)
    exact r_retR hX hP rfl rfl (by first | exact Or.inl ⟨_, rfl⟩ | exact Or.inr ⟨_, rfl⟩) (by first | decide | omega) (by first | decide | omega) ⟨g18, z11, rfl, z11s, (h17).symm, q12⟩
  · skip
    exfalso; omega
set_option maxRecDepth 100000 in
set_option maxHeartbeats 4000000 in
theorem c_gr0_Lis_1 (E : En) (S : Sg) (G : Gh) (this : Int) (hS : S this = 154) (ed : Int) (ed_e : ed = G 154 this 1) (ed_s : S ed = 161) (sz_e : 15 = G 154 this 2) : Calls E mJx4a65c_grow_d5877 [(2, this)] S G 10 1 22 (fun r S' G' => Gr [162] [(154, 1), (162, -1)] S G S' G' ∧ ∃ z : Int, r = some (2, z) ∧ S' z = 162 ∧ G' 154 this 1 = z ∧ (∀ i : Int, 0 ≤ i → i < 15 → G' 162 z i = G 161 ed i)) := by
  refine calls_by [(0, (2, this))] rfl rfl (Nat.le_of_ble_eq_true rfl) (fun X hX => ?_)
  have hP := hPJx4a65c_grow_d5877
  refine r_ex hX hP 2 (pc' := 2) (st' := [(2, this), (2, this)]) (lo' := [(0, (2, this))]) rfl ?_
  refine r_getKI hX hP rfl fl_Jx4a65c_48_154 hS (x := 15) sz_e ?_
  refine r_ex hX hP 2 (pc' := 7) (st' := [(0, (15 + 1)), (2, this)]) (lo' := [(0, (2, this))]) rfl ?_
  refine r_callV gd hX hP rfl cv_Jx4a65c_69_154 hS (d' := 8) (mc' := 1) (ms' := 22) (as' := [(0, (15 + 1))]) (st := []) (by first | decide | omega) (by first | decide | omega) (by first | decide | omega) rfl rfl (Nat.le_of_ble_eq_true rfl) (c_gri_Lis_1 E S G this (15 + 1) hS (by first | decide | omega) (by first | decide | omega) ed ed_e ed_s) ?_
  rintro _ S1 G2 ⟨g3, z4, rfl, z4s, q5, q6⟩
  have s7 : S1 this = 154 := gr_lab g3 hS (by decide)
  have s8 : S1 ed = 161 := gr_lab g3 ed_s (by decide)
  have e9 : 15 = G2 154 this 2 := gr_val g3 sz_e hS (by decide) rfl
  have g10 : Gr [162] [(154, 1), (162, -1)] S G S1 G2 := gr_call (gr_refl [162] [(154, 1), (162, -1)] S G) g3 rfl rfl
  have e11 : z4 = G2 154 this 1 := q5.symm
  exact r_retR hX hP rfl rfl (by first | exact Or.inl ⟨_, rfl⟩ | exact Or.inr ⟨_, rfl⟩) (by first | decide | omega) (by first | decide | omega) ⟨g10, z4, rfl, z4s, q5, q6⟩
set_option maxRecDepth 100000 in
set_option maxHeartbeats 4000000 in
theorem c_gri_Lis_2 (E : En) (S : Sg) (G : Gh) (this : Int) (minCapacity : Int) (hS : S this = 154) (minCapacity_a : 23 ≤ minCapacity) (minCapacity_b : minCapacity ≤ 23) (ed : Int) (ed_e : ed = G 154 this 1) (ed_s : S ed = 162) : Calls E mJx4a65c_grow_92f84 [(2, this), (0, minCapacity)] S G 8 1 33 (fun r S' G' => Gr [163] [(154, 1), (163, -1)] S G S' G' ∧ ∃ z : Int, r = some (2, z) ∧ S' z = 163 ∧ G' 154 this 1 = z ∧ (∀ i : Int, 0 ≤ i → i < 22 → G' 163 z i = G 162 ed i)) := by
  refine calls_by [(0, (2, this)), (1, (0, minCapacity))] rfl rfl (Nat.le_of_ble_eq_true rfl) (fun X hX => ?_)
  have hP := hPJx4a65c_grow_92f84
  obtain rfl : minCapacity = 23 := by omega
  refine r_ex hX hP 1 (pc' := 1) (st' := [(2, this)]) (lo' := [(0, (2, this)), (1, (0, 23))]) rfl ?_
  refine r_getK5 hX hP rfl fl_Jx4a65c_9_154 hS (x := ed) ed_e ?_
  refine r_alen hX hP rfl al_162 ed_s ?_
  refine r_ex hX hP 2 (pc' := 7) (st' := [(0, 22)]) (lo' := [(0, (2, this)), (1, (0, 23)), (2, (0, 22))]) rfl ?_
  refine r_if_gt hX hP rfl (tgt := 20) rfl (by first | decide | omega) (by first | decide | omega) (fun c1 => ?_) (fun c1 => ?_)
  · skip
    refine r_ex hX hP 6 (pc' := 26) (st' := [(0, 1), (0, 22), (0, (23 - 22)), (0, 22)]) (lo' := [(0, (2, this)), (1, (0, 23)), (2, (0, 22))]) rfl ?_
    refine r_ishr hX hP rfl (fun b2 b2a b2b b2e => ?_)
    obtain rfl : b2 = 11 := sh1 b2e b2a b2b (by decide)
    refine r_callS gd hX hP rfl cs_Jx4a65c_73 (d' := 3) (mc' := 0) (ms' := 0) (as' := [(0, 22), (0, (23 - 22)), (0, 11)]) (st := []) (by first | decide | omega) (by first | decide | omega) (by first | decide | omega) rfl rfl (Nat.le_of_ble_eq_true rfl) (c_J8_newLength_cabcc E S G 22 (23 - 22) 11 (by first | decide | omega) (by first | decide | omega) (by first | decide | omega) (by first | decide | omega) (by first | decide | omega) (by first | decide | omega)) ?_
    rintro _ _ _ ⟨rfl, rfl, z3, rfl, z3a, z3b, f4, f5, f6⟩
    refine r_ex hX hP 3 (pc' := 33) (st' := [(2, this), (2, this)]) (lo' := [(0, (2, this)), (1, (0, 23)), (2, (0, 22)), (3, (0, z3))]) rfl ?_
    refine r_getK5 hX hP rfl fl_Jx4a65c_9_154 hS (x := ed) ed_e ?_
    refine r_ex hX hP 1 (pc' := 37) (st' := [(0, z3), (2, ed), (2, this)]) (lo' := [(0, (2, this)), (1, (0, 23)), (2, (0, 22)), (3, (0, z3))]) rfl ?_
    have g7 : Gr [163] [(154, 1), (163, -1)] S G S G := (gr_refl [163] [(154, 1), (163, -1)] S G)
    refine r_callS gd hX hP rfl cs_Jx4a65c_66 (d' := 6) (mc' := 1) (ms' := 33) (as' := [(2, ed), (0, z3)]) (st := [(2, this)]) (by first | decide | omega) (by first | decide | omega) (by first | decide | omega) rfl rfl (Nat.le_of_ble_eq_true rfl) (c_cp2_Lis_2 E S G ed z3 ed_s (by first | decide | omega) (by first | decide | omega)) ?_
    rintro _ S8 G9 ⟨g10, z11, rfl, z11s, q12⟩
    have s13 : S8 this = 154 := gr_lab g10 hS (by decide)
    have s14 : S8 ed = 162 := gr_lab g10 ed_s (by decide)
    have e15 : ed = G9 154 this 1 := gr_val g10 ed_e hS (by decide) rfl
    have g16 : Gr [163] [(154, 1), (163, -1)] S G S8 G9 := gr_call g7 g10 rfl rfl
    refine r_ex hX hP 1 (pc' := 41) (st' := [(2, z11), (2, this), (2, z11)]) (lo' := [(0, (2, this)), (1, (0, 23)), (2, (0, 22)), (3, (0, z3))]) rfl ?_
    refine r_put5 hX hP rfl fp_Jx4a65c_9_154 s13 (by decide) (by rw [z11s]; decide) (by rw [z11s]; decide) (fun h17 => ?_)
    have g18 : Gr [163] [(154, 1), (163, -1)] S G S8 (up G9 154 this 1 z11) := (gr_up g16 rfl)
    exact r_retR hX hP rfl rfl (by first | exact Or.inl ⟨_, rfl⟩ | exact Or.inr ⟨_, rfl⟩) (by first | decide | omega) (by first | decide | omega) ⟨g18, z11, rfl, z11s, (h17).symm, q12⟩
  · skip
    exfalso; omega
set_option maxRecDepth 100000 in
set_option maxHeartbeats 4000000 in
theorem c_gr0_Lis_2 (E : En) (S : Sg) (G : Gh) (this : Int) (hS : S this = 154) (ed : Int) (ed_e : ed = G 154 this 1) (ed_s : S ed = 162) (sz_e : 22 = G 154 this 2) : Calls E mJx4a65c_grow_d5877 [(2, this)] S G 10 1 33 (fun r S' G' => Gr [163] [(154, 1), (163, -1)] S G S' G' ∧ ∃ z : Int, r = some (2, z) ∧ S' z = 163 ∧ G' 154 this 1 = z ∧ (∀ i : Int, 0 ≤ i → i < 22 → G' 163 z i = G 162 ed i)) := by
  refine calls_by [(0, (2, this))] rfl rfl (Nat.le_of_ble_eq_true rfl) (fun X hX => ?_)
  have hP := hPJx4a65c_grow_d5877
  refine r_ex hX hP 2 (pc' := 2) (st' := [(2, this), (2, this)]) (lo' := [(0, (2, this))]) rfl ?_
  refine r_getKI hX hP rfl fl_Jx4a65c_48_154 hS (x := 22) sz_e ?_
  refine r_ex hX hP 2 (pc' := 7) (st' := [(0, (22 + 1)), (2, this)]) (lo' := [(0, (2, this))]) rfl ?_
  refine r_callV gd hX hP rfl cv_Jx4a65c_69_154 hS (d' := 8) (mc' := 1) (ms' := 33) (as' := [(0, (22 + 1))]) (st := []) (by first | decide | omega) (by first | decide | omega) (by first | decide | omega) rfl rfl (Nat.le_of_ble_eq_true rfl) (c_gri_Lis_2 E S G this (22 + 1) hS (by first | decide | omega) (by first | decide | omega) ed ed_e ed_s) ?_
  rintro _ S1 G2 ⟨g3, z4, rfl, z4s, q5, q6⟩
  have s7 : S1 this = 154 := gr_lab g3 hS (by decide)
  have s8 : S1 ed = 162 := gr_lab g3 ed_s (by decide)
  have e9 : 22 = G2 154 this 2 := gr_val g3 sz_e hS (by decide) rfl
  have g10 : Gr [163] [(154, 1), (163, -1)] S G S1 G2 := gr_call (gr_refl [163] [(154, 1), (163, -1)] S G) g3 rfl rfl
  have e11 : z4 = G2 154 this 1 := q5.symm
  exact r_retR hX hP rfl rfl (by first | exact Or.inl ⟨_, rfl⟩ | exact Or.inr ⟨_, rfl⟩) (by first | decide | omega) (by first | decide | omega) ⟨g10, z4, rfl, z4s, q5, q6⟩
set_option maxRecDepth 100000 in
set_option maxHeartbeats 4000000 in
theorem c_gri_Lis_3 (E : En) (S : Sg) (G : Gh) (this : Int) (minCapacity : Int) (hS : S this = 154) (minCapacity_a : 34 ≤ minCapacity) (minCapacity_b : minCapacity ≤ 34) (ed : Int) (ed_e : ed = G 154 this 1) (ed_s : S ed = 163) : Calls E mJx4a65c_grow_92f84 [(2, this), (0, minCapacity)] S G 8 1 49 (fun r S' G' => Gr [164] [(154, 1), (164, -1)] S G S' G' ∧ ∃ z : Int, r = some (2, z) ∧ S' z = 164 ∧ G' 154 this 1 = z ∧ (∀ i : Int, 0 ≤ i → i < 33 → G' 164 z i = G 163 ed i)) := by
  refine calls_by [(0, (2, this)), (1, (0, minCapacity))] rfl rfl (Nat.le_of_ble_eq_true rfl) (fun X hX => ?_)
  have hP := hPJx4a65c_grow_92f84
  obtain rfl : minCapacity = 34 := by omega
  refine r_ex hX hP 1 (pc' := 1) (st' := [(2, this)]) (lo' := [(0, (2, this)), (1, (0, 34))]) rfl ?_
  refine r_getK5 hX hP rfl fl_Jx4a65c_9_154 hS (x := ed) ed_e ?_
  refine r_alen hX hP rfl al_163 ed_s ?_
  refine r_ex hX hP 2 (pc' := 7) (st' := [(0, 33)]) (lo' := [(0, (2, this)), (1, (0, 34)), (2, (0, 33))]) rfl ?_
  refine r_if_gt hX hP rfl (tgt := 20) rfl (by first | decide | omega) (by first | decide | omega) (fun c1 => ?_) (fun c1 => ?_)
  · skip
    refine r_ex hX hP 6 (pc' := 26) (st' := [(0, 1), (0, 33), (0, (34 - 33)), (0, 33)]) (lo' := [(0, (2, this)), (1, (0, 34)), (2, (0, 33))]) rfl ?_
    refine r_ishr hX hP rfl (fun b2 b2a b2b b2e => ?_)
    obtain rfl : b2 = 16 := sh1 b2e b2a b2b (by decide)
    refine r_callS gd hX hP rfl cs_Jx4a65c_73 (d' := 3) (mc' := 0) (ms' := 0) (as' := [(0, 33), (0, (34 - 33)), (0, 16)]) (st := []) (by first | decide | omega) (by first | decide | omega) (by first | decide | omega) rfl rfl (Nat.le_of_ble_eq_true rfl) (c_J8_newLength_cabcc E S G 33 (34 - 33) 16 (by first | decide | omega) (by first | decide | omega) (by first | decide | omega) (by first | decide | omega) (by first | decide | omega) (by first | decide | omega)) ?_
    rintro _ _ _ ⟨rfl, rfl, z3, rfl, z3a, z3b, f4, f5, f6⟩
    refine r_ex hX hP 3 (pc' := 33) (st' := [(2, this), (2, this)]) (lo' := [(0, (2, this)), (1, (0, 34)), (2, (0, 33)), (3, (0, z3))]) rfl ?_
    refine r_getK5 hX hP rfl fl_Jx4a65c_9_154 hS (x := ed) ed_e ?_
    refine r_ex hX hP 1 (pc' := 37) (st' := [(0, z3), (2, ed), (2, this)]) (lo' := [(0, (2, this)), (1, (0, 34)), (2, (0, 33)), (3, (0, z3))]) rfl ?_
    have g7 : Gr [164] [(154, 1), (164, -1)] S G S G := (gr_refl [164] [(154, 1), (164, -1)] S G)
    refine r_callS gd hX hP rfl cs_Jx4a65c_66 (d' := 6) (mc' := 1) (ms' := 49) (as' := [(2, ed), (0, z3)]) (st := [(2, this)]) (by first | decide | omega) (by first | decide | omega) (by first | decide | omega) rfl rfl (Nat.le_of_ble_eq_true rfl) (c_cp2_Lis_3 E S G ed z3 ed_s (by first | decide | omega) (by first | decide | omega)) ?_
    rintro _ S8 G9 ⟨g10, z11, rfl, z11s, q12⟩
    have s13 : S8 this = 154 := gr_lab g10 hS (by decide)
    have s14 : S8 ed = 163 := gr_lab g10 ed_s (by decide)
    have e15 : ed = G9 154 this 1 := gr_val g10 ed_e hS (by decide) rfl
    have g16 : Gr [164] [(154, 1), (164, -1)] S G S8 G9 := gr_call g7 g10 rfl rfl
    refine r_ex hX hP 1 (pc' := 41) (st' := [(2, z11), (2, this), (2, z11)]) (lo' := [(0, (2, this)), (1, (0, 34)), (2, (0, 33)), (3, (0, z3))]) rfl ?_
    refine r_put5 hX hP rfl fp_Jx4a65c_9_154 s13 (by decide) (by rw [z11s]; decide) (by rw [z11s]; decide) (fun h17 => ?_)
    have g18 : Gr [164] [(154, 1), (164, -1)] S G S8 (up G9 154 this 1 z11) := (gr_up g16 rfl)
    exact r_retR hX hP rfl rfl (by first | exact Or.inl ⟨_, rfl⟩ | exact Or.inr ⟨_, rfl⟩) (by first | decide | omega) (by first | decide | omega) ⟨g18, z11, rfl, z11s, (h17).symm, q12⟩
  · skip
    exfalso; omega
set_option maxRecDepth 100000 in
set_option maxHeartbeats 4000000 in
theorem c_gr0_Lis_3 (E : En) (S : Sg) (G : Gh) (this : Int) (hS : S this = 154) (ed : Int) (ed_e : ed = G 154 this 1) (ed_s : S ed = 163) (sz_e : 33 = G 154 this 2) : Calls E mJx4a65c_grow_d5877 [(2, this)] S G 10 1 49 (fun r S' G' => Gr [164] [(154, 1), (164, -1)] S G S' G' ∧ ∃ z : Int, r = some (2, z) ∧ S' z = 164 ∧ G' 154 this 1 = z ∧ (∀ i : Int, 0 ≤ i → i < 33 → G' 164 z i = G 163 ed i)) := by
  refine calls_by [(0, (2, this))] rfl rfl (Nat.le_of_ble_eq_true rfl) (fun X hX => ?_)
  have hP := hPJx4a65c_grow_d5877
  refine r_ex hX hP 2 (pc' := 2) (st' := [(2, this), (2, this)]) (lo' := [(0, (2, this))]) rfl ?_
  refine r_getKI hX hP rfl fl_Jx4a65c_48_154 hS (x := 33) sz_e ?_
  refine r_ex hX hP 2 (pc' := 7) (st' := [(0, (33 + 1)), (2, this)]) (lo' := [(0, (2, this))]) rfl ?_
  refine r_callV gd hX hP rfl cv_Jx4a65c_69_154 hS (d' := 8) (mc' := 1) (ms' := 49) (as' := [(0, (33 + 1))]) (st := []) (by first | decide | omega) (by first | decide | omega) (by first | decide | omega) rfl rfl (Nat.le_of_ble_eq_true rfl) (c_gri_Lis_3 E S G this (33 + 1) hS (by first | decide | omega) (by first | decide | omega) ed ed_e ed_s) ?_
  rintro _ S1 G2 ⟨g3, z4, rfl, z4s, q5, q6⟩
  have s7 : S1 this = 154 := gr_lab g3 hS (by decide)
  have s8 : S1 ed = 163 := gr_lab g3 ed_s (by decide)
  have e9 : 33 = G2 154 this 2 := gr_val g3 sz_e hS (by decide) rfl
  have g10 : Gr [164] [(154, 1), (164, -1)] S G S1 G2 := gr_call (gr_refl [164] [(154, 1), (164, -1)] S G) g3 rfl rfl
  have e11 : z4 = G2 154 this 1 := q5.symm
  exact r_retR hX hP rfl rfl (by first | exact Or.inl ⟨_, rfl⟩ | exact Or.inr ⟨_, rfl⟩) (by first | decide | omega) (by first | decide | omega) ⟨g10, z4, rfl, z4s, q5, q6⟩
set_option maxRecDepth 100000 in
set_option maxHeartbeats 4000000 in
theorem c_gri_Ltr_E (E : En) (S : Sg) (G : Gh) (this : Int) (minCapacity : Int) (hS : S this = 155) (minCapacity_a : 1 ≤ minCapacity) (minCapacity_b : minCapacity ≤ 1) (ed_e : Ad E 0 = G 155 this 1) : Calls E mJx4a65c_grow_92f84 [(2, this), (0, minCapacity)] S G 8 1 10 (fun r S' G' => Gr [165] [(155, 1), (165, -1)] S G S' G' ∧ ∃ z : Int, r = some (2, z) ∧ S' z = 165 ∧ G' 155 this 1 = z) := by
  refine calls_by [(0, (2, this)), (1, (0, minCapacity))] rfl rfl (Nat.le_of_ble_eq_true rfl) (fun X hX => ?_)
  have hP := hPJx4a65c_grow_92f84
  obtain rfl : minCapacity = 1 := by omega
  refine r_ex hX hP 1 (pc' := 1) (st' := [(2, this)]) (lo' := [(0, (2, this)), (1, (0, 1))]) rfl ?_
  refine r_getK5 hX hP rfl fl_Jx4a65c_9_155 hS (x := (Ad E 0)) ed_e ?_
  refine r_alenE hX hP rfl ?_
  refine r_ex hX hP 2 (pc' := 7) (st' := [(0, 0)]) (lo' := [(0, (2, this)), (1, (0, 1)), (2, (0, 0))]) rfl ?_
  refine r_if_gt hX hP rfl (tgt := 20) rfl (by first | decide | omega) (by first | decide | omega) (fun c1 => ?_) (fun c1 => ?_)
  · skip
    exfalso; omega
  · skip
    refine r_ex hX hP 1 (pc' := 11) (st' := [(2, this)]) (lo' := [(0, (2, this)), (1, (0, 1)), (2, (0, 0))]) rfl ?_
    refine r_getK5 hX hP rfl fl_Jx4a65c_9_155 hS (x := (Ad E 0)) ed_e ?_
    refine r_getsE hX hP rfl (tbg sg1 137 rfl rfl) ?_
    refine r_ad0 hX (fun p2 => ?_)
    refine r_acmpE hX hP rfl (tgt := 45) rfl (by first | decide | omega) (by first | decide | omega) (fun _ => ?_) (fun q => absurd rfl q)
    refine r_ex hX hP 3 (pc' := 49) (st' := [(0, 1), (0, 10), (2, this)]) (lo' := [(0, (2, this)), (1, (0, 1)), (2, (0, 0))]) rfl ?_
    refine r_mmaxI hX hP rfl (tbg sg3 127 rfl rfl) (tbg sg3 89 rfl rfl) (tbg sg1 14 rfl rfl) (tbg sg3 90 rfl rfl) (by decide) (by decide) (by decide) (Nat.le_of_ble_eq_true rfl) (by first | decide | omega) (by first | decide | omega) (by first | decide | omega) (by first | decide | omega) (fun c3 => ?_) (fun c3 => ?_)
    · skip
      refine r_anewA hX hP rfl (L := 165) (n := 10) al_165 (tbg sg3 128 rfl rfl) (by decide) (by first | decide | omega) (by first | decide | omega) (fun n4 S5 G6 n4z n4n n4l g7 n4v => ?_)
      have z8 : S n4 = 0 := gr_zero (gr_refl [165] [(155, 1), (165, -1)] S G) n4z
      have s9 : S5 this = 155 := gr_lab g7 hS (by decide)
      have e10 : (Ad E 0) = G6 155 this 1 := gr_val g7 ed_e hS (by decide) rfl
      have g11 : Gr [165] [(155, 1), (165, -1)] S G S5 G6 := gr_call (gr_refl [165] [(155, 1), (165, -1)] S G) g7 rfl rfl
      refine r_ex hX hP 1 (pc' := 56) (st' := [(2, n4), (2, this), (2, n4)]) (lo' := [(0, (2, this)), (1, (0, 1)), (2, (0, 0))]) rfl ?_
      refine r_put5 hX hP rfl fp_Jx4a65c_9_155 s9 (by decide) (by rw [n4l]; decide) (by rw [n4l]; decide) (fun h12 => ?_)
      have g13 : Gr [165] [(155, 1), (165, -1)] S G S5 (up G6 155 this 1 n4) := (gr_up g11 rfl)
      exact r_retR hX hP rfl rfl (by first | exact Or.inl ⟨_, rfl⟩ | exact Or.inr ⟨_, rfl⟩) (by first | decide | omega) (by first | decide | omega) ⟨g13, n4, rfl, n4l, (h12).symm⟩
    · skip
      exfalso; omega
set_option maxRecDepth 100000 in
set_option maxHeartbeats 4000000 in
theorem c_gr0_Ltr_E (E : En) (S : Sg) (G : Gh) (this : Int) (hS : S this = 155) (ed_e : Ad E 0 = G 155 this 1) (sz_e : 0 = G 155 this 2) : Calls E mJx4a65c_grow_d5877 [(2, this)] S G 10 1 10 (fun r S' G' => Gr [165] [(155, 1), (165, -1)] S G S' G' ∧ ∃ z : Int, r = some (2, z) ∧ S' z = 165 ∧ G' 155 this 1 = z) := by
  refine calls_by [(0, (2, this))] rfl rfl (Nat.le_of_ble_eq_true rfl) (fun X hX => ?_)
  have hP := hPJx4a65c_grow_d5877
  refine r_ex hX hP 2 (pc' := 2) (st' := [(2, this), (2, this)]) (lo' := [(0, (2, this))]) rfl ?_
  refine r_getKI hX hP rfl fl_Jx4a65c_48_155 hS (x := 0) sz_e ?_
  refine r_ex hX hP 2 (pc' := 7) (st' := [(0, (0 + 1)), (2, this)]) (lo' := [(0, (2, this))]) rfl ?_
  refine r_callV gd hX hP rfl cv_Jx4a65c_69_155 hS (d' := 8) (mc' := 1) (ms' := 10) (as' := [(0, (0 + 1))]) (st := []) (by first | decide | omega) (by first | decide | omega) (by first | decide | omega) rfl rfl (Nat.le_of_ble_eq_true rfl) (c_gri_Ltr_E E S G this (0 + 1) hS (by first | decide | omega) (by first | decide | omega) ed_e) ?_
  rintro _ S1 G2 ⟨g3, z4, rfl, z4s, q5⟩
  have s6 : S1 this = 155 := gr_lab g3 hS (by decide)
  have e7 : 0 = G2 155 this 2 := gr_val g3 sz_e hS (by decide) rfl
  have g8 : Gr [165] [(155, 1), (165, -1)] S G S1 G2 := gr_call (gr_refl [165] [(155, 1), (165, -1)] S G) g3 rfl rfl
  have e9 : z4 = G2 155 this 1 := q5.symm
  exact r_retR hX hP rfl rfl (by first | exact Or.inl ⟨_, rfl⟩ | exact Or.inr ⟨_, rfl⟩) (by first | decide | omega) (by first | decide | omega) ⟨g8, z4, rfl, z4s, q5⟩
set_option maxRecDepth 100000 in
set_option maxHeartbeats 4000000 in
theorem c_gri_Ltr_0 (E : En) (S : Sg) (G : Gh) (this : Int) (minCapacity : Int) (hS : S this = 155) (minCapacity_a : 11 ≤ minCapacity) (minCapacity_b : minCapacity ≤ 11) (ed : Int) (ed_e : ed = G 155 this 1) (ed_s : S ed = 165) : Calls E mJx4a65c_grow_92f84 [(2, this), (0, minCapacity)] S G 8 1 15 (fun r S' G' => Gr [166] [(155, 1), (166, -1)] S G S' G' ∧ ∃ z : Int, r = some (2, z) ∧ S' z = 166 ∧ G' 155 this 1 = z ∧ (∀ i : Int, 0 ≤ i → i < 10 → G' 166 z i = G 165 ed i)) := by
  refine calls_by [(0, (2, this)), (1, (0, minCapacity))] rfl rfl (Nat.le_of_ble_eq_true rfl) (fun X hX => ?_)
  have hP := hPJx4a65c_grow_92f84
  obtain rfl : minCapacity = 11 := by omega
  refine r_ex hX hP 1 (pc' := 1) (st' := [(2, this)]) (lo' := [(0, (2, this)), (1, (0, 11))]) rfl ?_
  refine r_getK5 hX hP rfl fl_Jx4a65c_9_155 hS (x := ed) ed_e ?_
  refine r_alen hX hP rfl al_165 ed_s ?_
  refine r_ex hX hP 2 (pc' := 7) (st' := [(0, 10)]) (lo' := [(0, (2, this)), (1, (0, 11)), (2, (0, 10))]) rfl ?_
  refine r_if_gt hX hP rfl (tgt := 20) rfl (by first | decide | omega) (by first | decide | omega) (fun c1 => ?_) (fun c1 => ?_)
  · skip
    refine r_ex hX hP 6 (pc' := 26) (st' := [(0, 1), (0, 10), (0, (11 - 10)), (0, 10)]) (lo' := [(0, (2, this)), (1, (0, 11)), (2, (0, 10))]) rfl ?_
    refine r_ishr hX hP rfl (fun b2 b2a b2b b2e => ?_)
    obtain rfl : b2 = 5 := sh1 b2e b2a b2b (by decide)
    refine r_callS gd hX hP rfl cs_Jx4a65c_73 (d' := 3) (mc' := 0) (ms' := 0) (as' := [(0, 10), (0, (11 - 10)), (0, 5)]) (st := []) (by first | decide | omega) (by first | decide | omega) (by first | decide | omega) rfl rfl (Nat.le_of_ble_eq_true rfl) (c_J8_newLength_cabcc E S G 10 (11 - 10) 5 (by first | decide | omega) (by first | decide | omega) (by first | decide | omega) (by first | decide | omega) (by first | decide | omega) (by first | decide | omega)) ?_
    rintro _ _ _ ⟨rfl, rfl, z3, rfl, z3a, z3b, f4, f5, f6⟩
    refine r_ex hX hP 3 (pc' := 33) (st' := [(2, this), (2, this)]) (lo' := [(0, (2, this)), (1, (0, 11)), (2, (0, 10)), (3, (0, z3))]) rfl ?_
    refine r_getK5 hX hP rfl fl_Jx4a65c_9_155 hS (x := ed) ed_e ?_
    refine r_ex hX hP 1 (pc' := 37) (st' := [(0, z3), (2, ed), (2, this)]) (lo' := [(0, (2, this)), (1, (0, 11)), (2, (0, 10)), (3, (0, z3))]) rfl ?_
    have g7 : Gr [166] [(155, 1), (166, -1)] S G S G := (gr_refl [166] [(155, 1), (166, -1)] S G)
    refine r_callS gd hX hP rfl cs_Jx4a65c_66 (d' := 6) (mc' := 1) (ms' := 15) (as' := [(2, ed), (0, z3)]) (st := [(2, this)]) (by first | decide | omega) (by first | decide | omega) (by first | decide | omega) rfl rfl (Nat.le_of_ble_eq_true rfl) (c_cp2_Ltr_0 E S G ed z3 ed_s (by first | decide | omega) (by first | decide | omega)) ?_
    rintro _ S8 G9 ⟨g10, z11, rfl, z11s, q12⟩
    have s13 : S8 this = 155 := gr_lab g10 hS (by decide)
    have s14 : S8 ed = 165 := gr_lab g10 ed_s (by decide)
    have e15 : ed = G9 155 this 1 := gr_val g10 ed_e hS (by decide) rfl
    have g16 : Gr [166] [(155, 1), (166, -1)] S G S8 G9 := gr_call g7 g10 rfl rfl
    refine r_ex hX hP 1 (pc' := 41) (st' := [(2, z11), (2, this), (2, z11)]) (lo' := [(0, (2, this)), (1, (0, 11)), (2, (0, 10)), (3, (0, z3))]) rfl ?_
    refine r_put5 hX hP rfl fp_Jx4a65c_9_155 s13 (by decide) (by rw [z11s]; decide) (by rw [z11s]; decide) (fun h17 => ?_)
    have g18 : Gr [166] [(155, 1), (166, -1)] S G S8 (up G9 155 this 1 z11) := (gr_up g16 rfl)
    exact r_retR hX hP rfl rfl (by first | exact Or.inl ⟨_, rfl⟩ | exact Or.inr ⟨_, rfl⟩) (by first | decide | omega) (by first | decide | omega) ⟨g18, z11, rfl, z11s, (h17).symm, q12⟩
  · skip
    exfalso; omega
set_option maxRecDepth 100000 in
set_option maxHeartbeats 4000000 in
theorem c_gr0_Ltr_0 (E : En) (S : Sg) (G : Gh) (this : Int) (hS : S this = 155) (ed : Int) (ed_e : ed = G 155 this 1) (ed_s : S ed = 165) (sz_e : 10 = G 155 this 2) : Calls E mJx4a65c_grow_d5877 [(2, this)] S G 10 1 15 (fun r S' G' => Gr [166] [(155, 1), (166, -1)] S G S' G' ∧ ∃ z : Int, r = some (2, z) ∧ S' z = 166 ∧ G' 155 this 1 = z ∧ (∀ i : Int, 0 ≤ i → i < 10 → G' 166 z i = G 165 ed i)) := by
  refine calls_by [(0, (2, this))] rfl rfl (Nat.le_of_ble_eq_true rfl) (fun X hX => ?_)
  have hP := hPJx4a65c_grow_d5877
  refine r_ex hX hP 2 (pc' := 2) (st' := [(2, this), (2, this)]) (lo' := [(0, (2, this))]) rfl ?_
  refine r_getKI hX hP rfl fl_Jx4a65c_48_155 hS (x := 10) sz_e ?_
  refine r_ex hX hP 2 (pc' := 7) (st' := [(0, (10 + 1)), (2, this)]) (lo' := [(0, (2, this))]) rfl ?_
  refine r_callV gd hX hP rfl cv_Jx4a65c_69_155 hS (d' := 8) (mc' := 1) (ms' := 15) (as' := [(0, (10 + 1))]) (st := []) (by first | decide | omega) (by first | decide | omega) (by first | decide | omega) rfl rfl (Nat.le_of_ble_eq_true rfl) (c_gri_Ltr_0 E S G this (10 + 1) hS (by first | decide | omega) (by first | decide | omega) ed ed_e ed_s) ?_
  rintro _ S1 G2 ⟨g3, z4, rfl, z4s, q5, q6⟩
  have s7 : S1 this = 155 := gr_lab g3 hS (by decide)
  have s8 : S1 ed = 165 := gr_lab g3 ed_s (by decide)
  have e9 : 10 = G2 155 this 2 := gr_val g3 sz_e hS (by decide) rfl
  have g10 : Gr [166] [(155, 1), (166, -1)] S G S1 G2 := gr_call (gr_refl [166] [(155, 1), (166, -1)] S G) g3 rfl rfl
  have e11 : z4 = G2 155 this 1 := q5.symm
  exact r_retR hX hP rfl rfl (by first | exact Or.inl ⟨_, rfl⟩ | exact Or.inr ⟨_, rfl⟩) (by first | decide | omega) (by first | decide | omega) ⟨g10, z4, rfl, z4s, q5, q6⟩
set_option maxRecDepth 100000 in
set_option maxHeartbeats 4000000 in
theorem c_gri_Ltr_1 (E : En) (S : Sg) (G : Gh) (this : Int) (minCapacity : Int) (hS : S this = 155) (minCapacity_a : 16 ≤ minCapacity) (minCapacity_b : minCapacity ≤ 16) (ed : Int) (ed_e : ed = G 155 this 1) (ed_s : S ed = 166) : Calls E mJx4a65c_grow_92f84 [(2, this), (0, minCapacity)] S G 8 1 22 (fun r S' G' => Gr [167] [(155, 1), (167, -1)] S G S' G' ∧ ∃ z : Int, r = some (2, z) ∧ S' z = 167 ∧ G' 155 this 1 = z ∧ (∀ i : Int, 0 ≤ i → i < 15 → G' 167 z i = G 166 ed i)) := by
  refine calls_by [(0, (2, this)), (1, (0, minCapacity))] rfl rfl (Nat.le_of_ble_eq_true rfl) (fun X hX => ?_)
  have hP := hPJx4a65c_grow_92f84
  obtain rfl : minCapacity = 16 := by omega
  refine r_ex hX hP 1 (pc' := 1) (st' := [(2, this)]) (lo' := [(0, (2, this)), (1, (0, 16))]) rfl ?_
  refine r_getK5 hX hP rfl fl_Jx4a65c_9_155 hS (x := ed) ed_e ?_
  refine r_alen hX hP rfl al_166 ed_s ?_
  refine r_ex hX hP 2 (pc' := 7) (st' := [(0, 15)]) (lo' := [(0, (2, this)), (1, (0, 16)), (2, (0, 15))]) rfl ?_
  refine r_if_gt hX hP rfl (tgt := 20) rfl (by first | decide | omega) (by first | decide | omega) (fun c1 => ?_) (fun c1 => ?_)
  · skip
    refine r_ex hX hP 6 (pc' := 26) (st' := [(0, 1), (0, 15), (0, (16 - 15)), (0, 15)]) (lo' := [(0, (2, this)), (1, (0, 16)), (2, (0, 15))]) rfl ?_
    refine r_ishr hX hP rfl (fun b2 b2a b2b b2e => ?_)
    obtain rfl : b2 = 7 := sh1 b2e b2a b2b (by decide)
    refine r_callS gd hX hP rfl cs_Jx4a65c_73 (d' := 3) (mc' := 0) (ms' := 0) (as' := [(0, 15), (0, (16 - 15)), (0, 7)]) (st := []) (by first | decide | omega) (by first | decide | omega) (by first | decide | omega) rfl rfl (Nat.le_of_ble_eq_true rfl) (c_J8_newLength_cabcc E S G 15 (16 - 15) 7 (by first | decide | omega) (by first | decide | omega) (by first | decide | omega) (by first | decide | omega) (by first | decide | omega) (by first | decide | omega)) ?_
    rintro _ _ _ ⟨rfl, rfl, z3, rfl, z3a, z3b, f4, f5, f6⟩
    refine r_ex hX hP 3 (pc' := 33) (st' := [(2, this), (2, this)]) (lo' := [(0, (2, this)), (1, (0, 16)), (2, (0, 15)), (3, (0, z3))]) rfl ?_
    refine r_getK5 hX hP rfl fl_Jx4a65c_9_155 hS (x := ed) ed_e ?_
    refine r_ex hX hP 1 (pc' := 37) (st' := [(0, z3), (2, ed), (2, this)]) (lo' := [(0, (2, this)), (1, (0, 16)), (2, (0, 15)), (3, (0, z3))]) rfl ?_
    have g7 : Gr [167] [(155, 1), (167, -1)] S G S G := (gr_refl [167] [(155, 1), (167, -1)] S G)
    refine r_callS gd hX hP rfl cs_Jx4a65c_66 (d' := 6) (mc' := 1) (ms' := 22) (as' := [(2, ed), (0, z3)]) (st := [(2, this)]) (by first | decide | omega) (by first | decide | omega) (by first | decide | omega) rfl rfl (Nat.le_of_ble_eq_true rfl) (c_cp2_Ltr_1 E S G ed z3 ed_s (by first | decide | omega) (by first | decide | omega)) ?_
    rintro _ S8 G9 ⟨g10, z11, rfl, z11s, q12⟩
    have s13 : S8 this = 155 := gr_lab g10 hS (by decide)
    have s14 : S8 ed = 166 := gr_lab g10 ed_s (by decide)
    have e15 : ed = G9 155 this 1 := gr_val g10 ed_e hS (by decide) rfl
    have g16 : Gr [167] [(155, 1), (167, -1)] S G S8 G9 := gr_call g7 g10 rfl rfl
    refine r_ex hX hP 1 (pc' := 41) (st' := [(2, z11), (2, this), (2, z11)]) (lo' := [(0, (2, this)), (1, (0, 16)), (2, (0, 15)), (3, (0, z3))]) rfl ?_
    refine r_put5 hX hP rfl fp_Jx4a65c_9_155 s13 (by decide) (by rw [z11s]; decide) (by rw [z11s]; decide) (fun h17 => ?_)
    have g18 : Gr [167] [(155, 1), (167, -1)] S G S8 (up G9 155 this 1 z11) := (gr_up g16 rfl)
    exact r_retR hX hP rfl rfl (by first | exact Or.inl ⟨_, rfl⟩ | exact Or.inr ⟨_, rfl⟩) (by first | decide | omega) (by first | decide | omega) ⟨g18, z11, rfl, z11s, (h17).symm, q12⟩
  · skip
    exfalso; omega
set_option maxRecDepth 100000 in
set_option maxHeartbeats 4000000 in
theorem c_gr0_Ltr_1 (E : En) (S : Sg) (G : Gh) (this : Int) (hS : S this = 155) (ed : Int) (ed_e : ed = G 155 this 1) (ed_s : S ed = 166) (sz_e : 15 = G 155 this 2) : Calls E mJx4a65c_grow_d5877 [(2, this)] S G 10 1 22 (fun r S' G' => Gr [167] [(155, 1), (167, -1)] S G S' G' ∧ ∃ z : Int, r = some (2, z) ∧ S' z = 167 ∧ G' 155 this 1 = z ∧ (∀ i : Int, 0 ≤ i → i < 15 → G' 167 z i = G 166 ed i)) := by
  refine calls_by [(0, (2, this))] rfl rfl (Nat.le_of_ble_eq_true rfl) (fun X hX => ?_)
  have hP := hPJx4a65c_grow_d5877
  refine r_ex hX hP 2 (pc' := 2) (st' := [(2, this), (2, this)]) (lo' := [(0, (2, this))]) rfl ?_
  refine r_getKI hX hP rfl fl_Jx4a65c_48_155 hS (x := 15) sz_e ?_
  refine r_ex hX hP 2 (pc' := 7) (st' := [(0, (15 + 1)), (2, this)]) (lo' := [(0, (2, this))]) rfl ?_
  refine r_callV gd hX hP rfl cv_Jx4a65c_69_155 hS (d' := 8) (mc' := 1) (ms' := 22) (as' := [(0, (15 + 1))]) (st := []) (by first | decide | omega) (by first | decide | omega) (by first | decide | omega) rfl rfl (Nat.le_of_ble_eq_true rfl) (c_gri_Ltr_1 E S G this (15 + 1) hS (by first | decide | omega) (by first | decide | omega) ed ed_e ed_s) ?_
  rintro _ S1 G2 ⟨g3, z4, rfl, z4s, q5, q6⟩
  have s7 : S1 this = 155 := gr_lab g3 hS (by decide)
  have s8 : S1 ed = 166 := gr_lab g3 ed_s (by decide)
  have e9 : 15 = G2 155 this 2 := gr_val g3 sz_e hS (by decide) rfl
  have g10 : Gr [167] [(155, 1), (167, -1)] S G S1 G2 := gr_call (gr_refl [167] [(155, 1), (167, -1)] S G) g3 rfl rfl
  have e11 : z4 = G2 155 this 1 := q5.symm
  exact r_retR hX hP rfl rfl (by first | exact Or.inl ⟨_, rfl⟩ | exact Or.inr ⟨_, rfl⟩) (by first | decide | omega) (by first | decide | omega) ⟨g10, z4, rfl, z4s, q5, q6⟩
set_option maxRecDepth 100000 in
set_option maxHeartbeats 4000000 in
theorem c_gri_Ltr_2 (E : En) (S : Sg) (G : Gh) (this : Int) (minCapacity : Int) (hS : S this = 155) (minCapacity_a : 23 ≤ minCapacity) (minCapacity_b : minCapacity ≤ 23) (ed : Int) (ed_e : ed = G 155 this 1) (ed_s : S ed = 167) : Calls E mJx4a65c_grow_92f84 [(2, this), (0, minCapacity)] S G 8 1 33 (fun r S' G' => Gr [168] [(155, 1), (168, -1)] S G S' G' ∧ ∃ z : Int, r = some (2, z) ∧ S' z = 168 ∧ G' 155 this 1 = z ∧ (∀ i : Int, 0 ≤ i → i < 22 → G' 168 z i = G 167 ed i)) := by
  refine calls_by [(0, (2, this)), (1, (0, minCapacity))] rfl rfl (Nat.le_of_ble_eq_true rfl) (fun X hX => ?_)
  have hP := hPJx4a65c_grow_92f84
  obtain rfl : minCapacity = 23 := by omega
  refine r_ex hX hP 1 (pc' := 1) (st' := [(2, this)]) (lo' := [(0, (2, this)), (1, (0, 23))]) rfl ?_
  refine r_getK5 hX hP rfl fl_Jx4a65c_9_155 hS (x := ed) ed_e ?_
  refine r_alen hX hP rfl al_167 ed_s ?_
  refine r_ex hX hP 2 (pc' := 7) (st' := [(0, 22)]) (lo' := [(0, (2, this)), (1, (0, 23)), (2, (0, 22))]) rfl ?_
  refine r_if_gt hX hP rfl (tgt := 20) rfl (by first | decide | omega) (by first | decide | omega) (fun c1 => ?_) (fun c1 => ?_)
  · skip
    refine r_ex hX hP 6 (pc' := 26) (st' := [(0, 1), (0, 22), (0, (23 - 22)), (0, 22)]) (lo' := [(0, (2, this)), (1, (0, 23)), (2, (0, 22))]) rfl ?_
    refine r_ishr hX hP rfl (fun b2 b2a b2b b2e => ?_)
    obtain rfl : b2 = 11 := sh1 b2e b2a b2b (by decide)
    refine r_callS gd hX hP rfl cs_Jx4a65c_73 (d' := 3) (mc' := 0) (ms' := 0) (as' := [(0, 22), (0, (23 - 22)), (0, 11)]) (st := []) (by first | decide | omega) (by first | decide | omega) (by first | decide | omega) rfl rfl (Nat.le_of_ble_eq_true rfl) (c_J8_newLength_cabcc E S G 22 (23 - 22) 11 (by first | decide | omega) (by first | decide | omega) (by first | decide | omega) (by first | decide | omega) (by first | decide | omega) (by first | decide | omega)) ?_
    rintro _ _ _ ⟨rfl, rfl, z3, rfl, z3a, z3b, f4, f5, f6⟩
    refine r_ex hX hP 3 (pc' := 33) (st' := [(2, this), (2, this)]) (lo' := [(0, (2, this)), (1, (0, 23)), (2, (0, 22)), (3, (0, z3))]) rfl ?_
    refine r_getK5 hX hP rfl fl_Jx4a65c_9_155 hS (x := ed) ed_e ?_
    refine r_ex hX hP 1 (pc' := 37) (st' := [(0, z3), (2, ed), (2, this)]) (lo' := [(0, (2, this)), (1, (0, 23)), (2, (0, 22)), (3, (0, z3))]) rfl ?_
    have g7 : Gr [168] [(155, 1), (168, -1)] S G S G := (gr_refl [168] [(155, 1), (168, -1)] S G)
    refine r_callS gd hX hP rfl cs_Jx4a65c_66 (d' := 6) (mc' := 1) (ms' := 33) (as' := [(2, ed), (0, z3)]) (st := [(2, this)]) (by first | decide | omega) (by first | decide | omega) (by first | decide | omega) rfl rfl (Nat.le_of_ble_eq_true rfl) (c_cp2_Ltr_2 E S G ed z3 ed_s (by first | decide | omega) (by first | decide | omega)) ?_
    rintro _ S8 G9 ⟨g10, z11, rfl, z11s, q12⟩
    have s13 : S8 this = 155 := gr_lab g10 hS (by decide)
    have s14 : S8 ed = 167 := gr_lab g10 ed_s (by decide)
    have e15 : ed = G9 155 this 1 := gr_val g10 ed_e hS (by decide) rfl
    have g16 : Gr [168] [(155, 1), (168, -1)] S G S8 G9 := gr_call g7 g10 rfl rfl
    refine r_ex hX hP 1 (pc' := 41) (st' := [(2, z11), (2, this), (2, z11)]) (lo' := [(0, (2, this)), (1, (0, 23)), (2, (0, 22)), (3, (0, z3))]) rfl ?_
    refine r_put5 hX hP rfl fp_Jx4a65c_9_155 s13 (by decide) (by rw [z11s]; decide) (by rw [z11s]; decide) (fun h17 => ?_)
    have g18 : Gr [168] [(155, 1), (168, -1)] S G S8 (up G9 155 this 1 z11) := (gr_up g16 rfl)
    exact r_retR hX hP rfl rfl (by first | exact Or.inl ⟨_, rfl⟩ | exact Or.inr ⟨_, rfl⟩) (by first | decide | omega) (by first | decide | omega) ⟨g18, z11, rfl, z11s, (h17).symm, q12⟩
  · skip
    exfalso; omega
set_option maxRecDepth 100000 in
set_option maxHeartbeats 4000000 in
theorem c_gr0_Ltr_2 (E : En) (S : Sg) (G : Gh) (this : Int) (hS : S this = 155) (ed : Int) (ed_e : ed = G 155 this 1) (ed_s : S ed = 167) (sz_e : 22 = G 155 this 2) : Calls E mJx4a65c_grow_d5877 [(2, this)] S G 10 1 33 (fun r S' G' => Gr [168] [(155, 1), (168, -1)] S G S' G' ∧ ∃ z : Int, r = some (2, z) ∧ S' z = 168 ∧ G' 155 this 1 = z ∧ (∀ i : Int, 0 ≤ i → i < 22 → G' 168 z i = G 167 ed i)) := by
  refine calls_by [(0, (2, this))] rfl rfl (Nat.le_of_ble_eq_true rfl) (fun X hX => ?_)
  have hP := hPJx4a65c_grow_d5877
  refine r_ex hX hP 2 (pc' := 2) (st' := [(2, this), (2, this)]) (lo' := [(0, (2, this))]) rfl ?_
  refine r_getKI hX hP rfl fl_Jx4a65c_48_155 hS (x := 22) sz_e ?_
  refine r_ex hX hP 2 (pc' := 7) (st' := [(0, (22 + 1)), (2, this)]) (lo' := [(0, (2, this))]) rfl ?_
  refine r_callV gd hX hP rfl cv_Jx4a65c_69_155 hS (d' := 8) (mc' := 1) (ms' := 33) (as' := [(0, (22 + 1))]) (st := []) (by first | decide | omega) (by first | decide | omega) (by first | decide | omega) rfl rfl (Nat.le_of_ble_eq_true rfl) (c_gri_Ltr_2 E S G this (22 + 1) hS (by first | decide | omega) (by first | decide | omega) ed ed_e ed_s) ?_
  rintro _ S1 G2 ⟨g3, z4, rfl, z4s, q5, q6⟩
  have s7 : S1 this = 155 := gr_lab g3 hS (by decide)
  have s8 : S1 ed = 167 := gr_lab g3 ed_s (by decide)
  have e9 : 22 = G2 155 this 2 := gr_val g3 sz_e hS (by decide) rfl
  have g10 : Gr [168] [(155, 1), (168, -1)] S G S1 G2 := gr_call (gr_refl [168] [(155, 1), (168, -1)] S G) g3 rfl rfl
  have e11 : z4 = G2 155 this 1 := q5.symm
  exact r_retR hX hP rfl rfl (by first | exact Or.inl ⟨_, rfl⟩ | exact Or.inr ⟨_, rfl⟩) (by first | decide | omega) (by first | decide | omega) ⟨g10, z4, rfl, z4s, q5, q6⟩
set_option maxRecDepth 100000 in
set_option maxHeartbeats 4000000 in
theorem c_gri_Ltr_3 (E : En) (S : Sg) (G : Gh) (this : Int) (minCapacity : Int) (hS : S this = 155) (minCapacity_a : 34 ≤ minCapacity) (minCapacity_b : minCapacity ≤ 34) (ed : Int) (ed_e : ed = G 155 this 1) (ed_s : S ed = 168) : Calls E mJx4a65c_grow_92f84 [(2, this), (0, minCapacity)] S G 8 1 49 (fun r S' G' => Gr [169] [(155, 1), (169, -1)] S G S' G' ∧ ∃ z : Int, r = some (2, z) ∧ S' z = 169 ∧ G' 155 this 1 = z ∧ (∀ i : Int, 0 ≤ i → i < 33 → G' 169 z i = G 168 ed i)) := by
  refine calls_by [(0, (2, this)), (1, (0, minCapacity))] rfl rfl (Nat.le_of_ble_eq_true rfl) (fun X hX => ?_)
  have hP := hPJx4a65c_grow_92f84
  obtain rfl : minCapacity = 34 := by omega
  refine r_ex hX hP 1 (pc' := 1) (st' := [(2, this)]) (lo' := [(0, (2, this)), (1, (0, 34))]) rfl ?_
  refine r_getK5 hX hP rfl fl_Jx4a65c_9_155 hS (x := ed) ed_e ?_
  refine r_alen hX hP rfl al_168 ed_s ?_
  refine r_ex hX hP 2 (pc' := 7) (st' := [(0, 33)]) (lo' := [(0, (2, this)), (1, (0, 34)), (2, (0, 33))]) rfl ?_
  refine r_if_gt hX hP rfl (tgt := 20) rfl (by first | decide | omega) (by first | decide | omega) (fun c1 => ?_) (fun c1 => ?_)
  · skip
    refine r_ex hX hP 6 (pc' := 26) (st' := [(0, 1), (0, 33), (0, (34 - 33)), (0, 33)]) (lo' := [(0, (2, this)), (1, (0, 34)), (2, (0, 33))]) rfl ?_
    refine r_ishr hX hP rfl (fun b2 b2a b2b b2e => ?_)
    obtain rfl : b2 = 16 := sh1 b2e b2a b2b (by decide)
    refine r_callS gd hX hP rfl cs_Jx4a65c_73 (d' := 3) (mc' := 0) (ms' := 0) (as' := [(0, 33), (0, (34 - 33)), (0, 16)]) (st := []) (by first | decide | omega) (by first | decide | omega) (by first | decide | omega) rfl rfl (Nat.le_of_ble_eq_true rfl) (c_J8_newLength_cabcc E S G 33 (34 - 33) 16 (by first | decide | omega) (by first | decide | omega) (by first | decide | omega) (by first | decide | omega) (by first | decide | omega) (by first | decide | omega)) ?_
    rintro _ _ _ ⟨rfl, rfl, z3, rfl, z3a, z3b, f4, f5, f6⟩
    refine r_ex hX hP 3 (pc' := 33) (st' := [(2, this), (2, this)]) (lo' := [(0, (2, this)), (1, (0, 34)), (2, (0, 33)), (3, (0, z3))]) rfl ?_
    refine r_getK5 hX hP rfl fl_Jx4a65c_9_155 hS (x := ed) ed_e ?_
    refine r_ex hX hP 1 (pc' := 37) (st' := [(0, z3), (2, ed), (2, this)]) (lo' := [(0, (2, this)), (1, (0, 34)), (2, (0, 33)), (3, (0, z3))]) rfl ?_
    have g7 : Gr [169] [(155, 1), (169, -1)] S G S G := (gr_refl [169] [(155, 1), (169, -1)] S G)
    refine r_callS gd hX hP rfl cs_Jx4a65c_66 (d' := 6) (mc' := 1) (ms' := 49) (as' := [(2, ed), (0, z3)]) (st := [(2, this)]) (by first | decide | omega) (by first | decide | omega) (by first | decide | omega) rfl rfl (Nat.le_of_ble_eq_true rfl) (c_cp2_Ltr_3 E S G ed z3 ed_s (by first | decide | omega) (by first | decide | omega)) ?_
    rintro _ S8 G9 ⟨g10, z11, rfl, z11s, q12⟩
    have s13 : S8 this = 155 := gr_lab g10 hS (by decide)
    have s14 : S8 ed = 168 := gr_lab g10 ed_s (by decide)
    have e15 : ed = G9 155 this 1 := gr_val g10 ed_e hS (by decide) rfl
    have g16 : Gr [169] [(155, 1), (169, -1)] S G S8 G9 := gr_call g7 g10 rfl rfl
    refine r_ex hX hP 1 (pc' := 41) (st' := [(2, z11), (2, this), (2, z11)]) (lo' := [(0, (2, this)), (1, (0, 34)), (2, (0, 33)), (3, (0, z3))]) rfl ?_
    refine r_put5 hX hP rfl fp_Jx4a65c_9_155 s13 (by decide) (by rw [z11s]; decide) (by rw [z11s]; decide) (fun h17 => ?_)
    have g18 : Gr [169] [(155, 1), (169, -1)] S G S8 (up G9 155 this 1 z11) := (gr_up g16 rfl)
    exact r_retR hX hP rfl rfl (by first | exact Or.inl ⟨_, rfl⟩ | exact Or.inr ⟨_, rfl⟩) (by first | decide | omega) (by first | decide | omega) ⟨g18, z11, rfl, z11s, (h17).symm, q12⟩
  · skip
    exfalso; omega
set_option maxRecDepth 100000 in
set_option maxHeartbeats 4000000 in
theorem c_gr0_Ltr_3 (E : En) (S : Sg) (G : Gh) (this : Int) (hS : S this = 155) (ed : Int) (ed_e : ed = G 155 this 1) (ed_s : S ed = 168) (sz_e : 33 = G 155 this 2) : Calls E mJx4a65c_grow_d5877 [(2, this)] S G 10 1 49 (fun r S' G' => Gr [169] [(155, 1), (169, -1)] S G S' G' ∧ ∃ z : Int, r = some (2, z) ∧ S' z = 169 ∧ G' 155 this 1 = z ∧ (∀ i : Int, 0 ≤ i → i < 33 → G' 169 z i = G 168 ed i)) := by
  refine calls_by [(0, (2, this))] rfl rfl (Nat.le_of_ble_eq_true rfl) (fun X hX => ?_)
  have hP := hPJx4a65c_grow_d5877
  refine r_ex hX hP 2 (pc' := 2) (st' := [(2, this), (2, this)]) (lo' := [(0, (2, this))]) rfl ?_
  refine r_getKI hX hP rfl fl_Jx4a65c_48_155 hS (x := 33) sz_e ?_
  refine r_ex hX hP 2 (pc' := 7) (st' := [(0, (33 + 1)), (2, this)]) (lo' := [(0, (2, this))]) rfl ?_
  refine r_callV gd hX hP rfl cv_Jx4a65c_69_155 hS (d' := 8) (mc' := 1) (ms' := 49) (as' := [(0, (33 + 1))]) (st := []) (by first | decide | omega) (by first | decide | omega) (by first | decide | omega) rfl rfl (Nat.le_of_ble_eq_true rfl) (c_gri_Ltr_3 E S G this (33 + 1) hS (by first | decide | omega) (by first | decide | omega) ed ed_e ed_s) ?_
  rintro _ S1 G2 ⟨g3, z4, rfl, z4s, q5, q6⟩
  have s7 : S1 this = 155 := gr_lab g3 hS (by decide)
  have s8 : S1 ed = 168 := gr_lab g3 ed_s (by decide)
  have e9 : 33 = G2 155 this 2 := gr_val g3 sz_e hS (by decide) rfl
  have g10 : Gr [169] [(155, 1), (169, -1)] S G S1 G2 := gr_call (gr_refl [169] [(155, 1), (169, -1)] S G) g3 rfl rfl
  have e11 : z4 = G2 155 this 1 := q5.symm
  exact r_retR hX hP rfl rfl (by first | exact Or.inl ⟨_, rfl⟩ | exact Or.inr ⟨_, rfl⟩) (by first | decide | omega) (by first | decide | omega) ⟨g10, z4, rfl, z4s, q5, q6⟩
set_option maxRecDepth 100000 in
set_option maxHeartbeats 4000000 in
theorem c_gri_Lev_E (E : En) (S : Sg) (G : Gh) (this : Int) (minCapacity : Int) (hS : S this = 156) (minCapacity_a : 1 ≤ minCapacity) (minCapacity_b : minCapacity ≤ 1) (ed_e : Ad E 0 = G 156 this 1) : Calls E mJx4a65c_grow_92f84 [(2, this), (0, minCapacity)] S G 8 1 10 (fun r S' G' => Gr [170] [(156, 1), (170, -1)] S G S' G' ∧ ∃ z : Int, r = some (2, z) ∧ S' z = 170 ∧ G' 156 this 1 = z) := by
  refine calls_by [(0, (2, this)), (1, (0, minCapacity))] rfl rfl (Nat.le_of_ble_eq_true rfl) (fun X hX => ?_)
  have hP := hPJx4a65c_grow_92f84
  obtain rfl : minCapacity = 1 := by omega
  refine r_ex hX hP 1 (pc' := 1) (st' := [(2, this)]) (lo' := [(0, (2, this)), (1, (0, 1))]) rfl ?_
  refine r_getK5 hX hP rfl fl_Jx4a65c_9_156 hS (x := (Ad E 0)) ed_e ?_
  refine r_alenE hX hP rfl ?_
  refine r_ex hX hP 2 (pc' := 7) (st' := [(0, 0)]) (lo' := [(0, (2, this)), (1, (0, 1)), (2, (0, 0))]) rfl ?_
  refine r_if_gt hX hP rfl (tgt := 20) rfl (by first | decide | omega) (by first | decide | omega) (fun c1 => ?_) (fun c1 => ?_)
  · skip
    exfalso; omega
  · skip
    refine r_ex hX hP 1 (pc' := 11) (st' := [(2, this)]) (lo' := [(0, (2, this)), (1, (0, 1)), (2, (0, 0))]) rfl ?_
    refine r_getK5 hX hP rfl fl_Jx4a65c_9_156 hS (x := (Ad E 0)) ed_e ?_
    refine r_getsE hX hP rfl (tbg sg1 137 rfl rfl) ?_
    refine r_ad0 hX (fun p2 => ?_)
    refine r_acmpE hX hP rfl (tgt := 45) rfl (by first | decide | omega) (by first | decide | omega) (fun _ => ?_) (fun q => absurd rfl q)
    refine r_ex hX hP 3 (pc' := 49) (st' := [(0, 1), (0, 10), (2, this)]) (lo' := [(0, (2, this)), (1, (0, 1)), (2, (0, 0))]) rfl ?_
    refine r_mmaxI hX hP rfl (tbg sg3 127 rfl rfl) (tbg sg3 89 rfl rfl) (tbg sg1 14 rfl rfl) (tbg sg3 90 rfl rfl) (by decide) (by decide) (by decide) (Nat.le_of_ble_eq_true rfl) (by first | decide | omega) (by first | decide | omega) (by first | decide | omega) (by first | decide | omega) (fun c3 => ?_) (fun c3 => ?_)
    · skip
      refine r_anewA hX hP rfl (L := 170) (n := 10) al_170 (tbg sg3 128 rfl rfl) (by decide) (by first | decide | omega) (by first | decide | omega) (fun n4 S5 G6 n4z n4n n4l g7 n4v => ?_)
      have z8 : S n4 = 0 := gr_zero (gr_refl [170] [(156, 1), (170, -1)] S G) n4z
      have s9 : S5 this = 156 := gr_lab g7 hS (by decide)
      have e10 : (Ad E 0) = G6 156 this 1 := gr_val g7 ed_e hS (by decide) rfl
      have g11 : Gr [170] [(156, 1), (170, -1)] S G S5 G6 := gr_call (gr_refl [170] [(156, 1), (170, -1)] S G) g7 rfl rfl
      refine r_ex hX hP 1 (pc' := 56) (st' := [(2, n4), (2, this), (2, n4)]) (lo' := [(0, (2, this)), (1, (0, 1)), (2, (0, 0))]) rfl ?_
      refine r_put5 hX hP rfl fp_Jx4a65c_9_156 s9 (by decide) (by rw [n4l]; decide) (by rw [n4l]; decide) (fun h12 => ?_)
      have g13 : Gr [170] [(156, 1), (170, -1)] S G S5 (up G6 156 this 1 n4) := (gr_up g11 rfl)
      exact r_retR hX hP rfl rfl (by first | exact Or.inl ⟨_, rfl⟩ | exact Or.inr ⟨_, rfl⟩) (by first | decide | omega) (by first | decide | omega) ⟨g13, n4, rfl, n4l, (h12).symm⟩
    · skip
      exfalso; omega
set_option maxRecDepth 100000 in
set_option maxHeartbeats 4000000 in
theorem c_gr0_Lev_E (E : En) (S : Sg) (G : Gh) (this : Int) (hS : S this = 156) (ed_e : Ad E 0 = G 156 this 1) (sz_e : 0 = G 156 this 2) : Calls E mJx4a65c_grow_d5877 [(2, this)] S G 10 1 10 (fun r S' G' => Gr [170] [(156, 1), (170, -1)] S G S' G' ∧ ∃ z : Int, r = some (2, z) ∧ S' z = 170 ∧ G' 156 this 1 = z) := by
  refine calls_by [(0, (2, this))] rfl rfl (Nat.le_of_ble_eq_true rfl) (fun X hX => ?_)
  have hP := hPJx4a65c_grow_d5877
  refine r_ex hX hP 2 (pc' := 2) (st' := [(2, this), (2, this)]) (lo' := [(0, (2, this))]) rfl ?_
  refine r_getKI hX hP rfl fl_Jx4a65c_48_156 hS (x := 0) sz_e ?_
  refine r_ex hX hP 2 (pc' := 7) (st' := [(0, (0 + 1)), (2, this)]) (lo' := [(0, (2, this))]) rfl ?_
  refine r_callV gd hX hP rfl cv_Jx4a65c_69_156 hS (d' := 8) (mc' := 1) (ms' := 10) (as' := [(0, (0 + 1))]) (st := []) (by first | decide | omega) (by first | decide | omega) (by first | decide | omega) rfl rfl (Nat.le_of_ble_eq_true rfl) (c_gri_Lev_E E S G this (0 + 1) hS (by first | decide | omega) (by first | decide | omega) ed_e) ?_
  rintro _ S1 G2 ⟨g3, z4, rfl, z4s, q5⟩
  have s6 : S1 this = 156 := gr_lab g3 hS (by decide)
  have e7 : 0 = G2 156 this 2 := gr_val g3 sz_e hS (by decide) rfl
  have g8 : Gr [170] [(156, 1), (170, -1)] S G S1 G2 := gr_call (gr_refl [170] [(156, 1), (170, -1)] S G) g3 rfl rfl
  have e9 : z4 = G2 156 this 1 := q5.symm
  exact r_retR hX hP rfl rfl (by first | exact Or.inl ⟨_, rfl⟩ | exact Or.inr ⟨_, rfl⟩) (by first | decide | omega) (by first | decide | omega) ⟨g8, z4, rfl, z4s, q5⟩
set_option maxRecDepth 100000 in
set_option maxHeartbeats 4000000 in
theorem c_gri_Lev_0 (E : En) (S : Sg) (G : Gh) (this : Int) (minCapacity : Int) (hS : S this = 156) (minCapacity_a : 11 ≤ minCapacity) (minCapacity_b : minCapacity ≤ 11) (ed : Int) (ed_e : ed = G 156 this 1) (ed_s : S ed = 170) : Calls E mJx4a65c_grow_92f84 [(2, this), (0, minCapacity)] S G 8 1 15 (fun r S' G' => Gr [171] [(156, 1), (171, -1)] S G S' G' ∧ ∃ z : Int, r = some (2, z) ∧ S' z = 171 ∧ G' 156 this 1 = z ∧ (∀ i : Int, 0 ≤ i → i < 10 → G' 171 z i = G 170 ed i)) := by
  refine calls_by [(0, (2, this)), (1, (0, minCapacity))] rfl rfl (Nat.le_of_ble_eq_true rfl) (fun X hX => ?_)
  have hP := hPJx4a65c_grow_92f84
  obtain rfl : minCapacity = 11 := by omega
  refine r_ex hX hP 1 (pc' := 1) (st' := [(2, this)]) (lo' := [(0, (2, this)), (1, (0, 11))]) rfl ?_
  refine r_getK5 hX hP rfl fl_Jx4a65c_9_156 hS (x := ed) ed_e ?_
  refine r_alen hX hP rfl al_170 ed_s ?_
  refine r_ex hX hP 2 (pc' := 7) (st' := [(0, 10)]) (lo' := [(0, (2, this)), (1, (0, 11)), (2, (0, 10))]) rfl ?_
  refine r_if_gt hX hP rfl (tgt := 20) rfl (by first | decide | omega) (by first | decide | omega) (fun c1 => ?_) (fun c1 => ?_)
  · skip
    refine r_ex hX hP 6 (pc' := 26) (st' := [(0, 1), (0, 10), (0, (11 - 10)), (0, 10)]) (lo' := [(0, (2, this)), (1, (0, 11)), (2, (0, 10))]) rfl ?_
    refine r_ishr hX hP rfl (fun b2 b2a b2b b2e => ?_)
    obtain rfl : b2 = 5 := sh1 b2e b2a b2b (by decide)
    refine r_callS gd hX hP rfl cs_Jx4a65c_73 (d' := 3) (mc' := 0) (ms' := 0) (as' := [(0, 10), (0, (11 - 10)), (0, 5)]) (st := []) (by first | decide | omega) (by first | decide | omega) (by first | decide | omega) rfl rfl (Nat.le_of_ble_eq_true rfl) (c_J8_newLength_cabcc E S G 10 (11 - 10) 5 (by first | decide | omega) (by first | decide | omega) (by first | decide | omega) (by first | decide | omega) (by first | decide | omega) (by first | decide | omega)) ?_
    rintro _ _ _ ⟨rfl, rfl, z3, rfl, z3a, z3b, f4, f5, f6⟩
    refine r_ex hX hP 3 (pc' := 33) (st' := [(2, this), (2, this)]) (lo' := [(0, (2, this)), (1, (0, 11)), (2, (0, 10)), (3, (0, z3))]) rfl ?_
    refine r_getK5 hX hP rfl fl_Jx4a65c_9_156 hS (x := ed) ed_e ?_
    refine r_ex hX hP 1 (pc' := 37) (st' := [(0, z3), (2, ed), (2, this)]) (lo' := [(0, (2, this)), (1, (0, 11)), (2, (0, 10)), (3, (0, z3))]) rfl ?_
    have g7 : Gr [171] [(156, 1), (171, -1)] S G S G := (gr_refl [171] [(156, 1), (171, -1)] S G)
    refine r_callS gd hX hP rfl cs_Jx4a65c_66 (d' := 6) (mc' := 1) (ms' := 15) (as' := [(2, ed), (0, z3)]) (st := [(2, this)]) (by first | decide | omega) (by first | decide | omega) (by first | decide | omega) rfl rfl (Nat.le_of_ble_eq_true rfl) (c_cp2_Lev_0 E S G ed z3 ed_s (by first | decide | omega) (by first | decide | omega)) ?_
    rintro _ S8 G9 ⟨g10, z11, rfl, z11s, q12⟩
    have s13 : S8 this = 156 := gr_lab g10 hS (by decide)
    have s14 : S8 ed = 170 := gr_lab g10 ed_s (by decide)
    have e15 : ed = G9 156 this 1 := gr_val g10 ed_e hS (by decide) rfl
    have g16 : Gr [171] [(156, 1), (171, -1)] S G S8 G9 := gr_call g7 g10 rfl rfl
    refine r_ex hX hP 1 (pc' := 41) (st' := [(2, z11), (2, this), (2, z11)]) (lo' := [(0, (2, this)), (1, (0, 11)), (2, (0, 10)), (3, (0, z3))]) rfl ?_
    refine r_put5 hX hP rfl fp_Jx4a65c_9_156 s13 (by decide) (by rw [z11s]; decide) (by rw [z11s]; decide) (fun h17 => ?_)
    have g18 : Gr [171] [(156, 1), (171, -1)] S G S8 (up G9 156 this 1 z11) := (gr_up g16 rfl)
    exact r_retR hX hP rfl rfl (by first | exact Or.inl ⟨_, rfl⟩ | exact Or.inr ⟨_, rfl⟩) (by first | decide | omega) (by first | decide | omega) ⟨g18, z11, rfl, z11s, (h17).symm, q12⟩
  · skip
    exfalso; omega
set_option maxRecDepth 100000 in
set_option maxHeartbeats 4000000 in
theorem c_gr0_Lev_0 (E : En) (S : Sg) (G : Gh) (this : Int) (hS : S this = 156) (ed : Int) (ed_e : ed = G 156 this 1) (ed_s : S ed = 170) (sz_e : 10 = G 156 this 2) : Calls E mJx4a65c_grow_d5877 [(2, this)] S G 10 1 15 (fun r S' G' => Gr [171] [(156, 1), (171, -1)] S G S' G' ∧ ∃ z : Int, r = some (2, z) ∧ S' z = 171 ∧ G' 156 this 1 = z ∧ (∀ i : Int, 0 ≤ i → i < 10 → G' 171 z i = G 170 ed i)) := by
  refine calls_by [(0, (2, this))] rfl rfl (Nat.le_of_ble_eq_true rfl) (fun X hX => ?_)
  have hP := hPJx4a65c_grow_d5877
  refine r_ex hX hP 2 (pc' := 2) (st' := [(2, this), (2, this)]) (lo' := [(0, (2, this))]) rfl ?_
  refine r_getKI hX hP rfl fl_Jx4a65c_48_156 hS (x := 10) sz_e ?_
  refine r_ex hX hP 2 (pc' := 7) (st' := [(0, (10 + 1)), (2, this)]) (lo' := [(0, (2, this))]) rfl ?_
  refine r_callV gd hX hP rfl cv_Jx4a65c_69_156 hS (d' := 8) (mc' := 1) (ms' := 15) (as' := [(0, (10 + 1))]) (st := []) (by first | decide | omega) (by first | decide | omega) (by first | decide | omega) rfl rfl (Nat.le_of_ble_eq_true rfl) (c_gri_Lev_0 E S G this (10 + 1) hS (by first | decide | omega) (by first | decide | omega) ed ed_e ed_s) ?_
  rintro _ S1 G2 ⟨g3, z4, rfl, z4s, q5, q6⟩
  have s7 : S1 this = 156 := gr_lab g3 hS (by decide)
  have s8 : S1 ed = 170 := gr_lab g3 ed_s (by decide)
  have e9 : 10 = G2 156 this 2 := gr_val g3 sz_e hS (by decide) rfl
  have g10 : Gr [171] [(156, 1), (171, -1)] S G S1 G2 := gr_call (gr_refl [171] [(156, 1), (171, -1)] S G) g3 rfl rfl
  have e11 : z4 = G2 156 this 1 := q5.symm
  exact r_retR hX hP rfl rfl (by first | exact Or.inl ⟨_, rfl⟩ | exact Or.inr ⟨_, rfl⟩) (by first | decide | omega) (by first | decide | omega) ⟨g10, z4, rfl, z4s, q5, q6⟩
set_option maxRecDepth 100000 in
set_option maxHeartbeats 4000000 in
theorem c_gri_Lev_1 (E : En) (S : Sg) (G : Gh) (this : Int) (minCapacity : Int) (hS : S this = 156) (minCapacity_a : 16 ≤ minCapacity) (minCapacity_b : minCapacity ≤ 16) (ed : Int) (ed_e : ed = G 156 this 1) (ed_s : S ed = 171) : Calls E mJx4a65c_grow_92f84 [(2, this), (0, minCapacity)] S G 8 1 22 (fun r S' G' => Gr [172] [(156, 1), (172, -1)] S G S' G' ∧ ∃ z : Int, r = some (2, z) ∧ S' z = 172 ∧ G' 156 this 1 = z ∧ (∀ i : Int, 0 ≤ i → i < 15 → G' 172 z i = G 171 ed i)) := by
  refine calls_by [(0, (2, this)), (1, (0, minCapacity))] rfl rfl (Nat.le_of_ble_eq_true rfl) (fun X hX => ?_)
  have hP := hPJx4a65c_grow_92f84
  obtain rfl : minCapacity = 16 := by omega
  refine r_ex hX hP 1 (pc' := 1) (st' := [(2, this)]) (lo' := [(0, (2, this)), (1, (0, 16))]) rfl ?_
  refine r_getK5 hX hP rfl fl_Jx4a65c_9_156 hS (x := ed) ed_e ?_
  refine r_alen hX hP rfl al_171 ed_s ?_
  refine r_ex hX hP 2 (pc' := 7) (st' := [(0, 15)]) (lo' := [(0, (2, this)), (1, (0, 16)), (2, (0, 15))]) rfl ?_
  refine r_if_gt hX hP rfl (tgt := 20) rfl (by first | decide | omega) (by first | decide | omega) (fun c1 => ?_) (fun c1 => ?_)
  · skip
    refine r_ex hX hP 6 (pc' := 26) (st' := [(0, 1), (0, 15), (0, (16 - 15)), (0, 15)]) (lo' := [(0, (2, this)), (1, (0, 16)), (2, (0, 15))]) rfl ?_
    refine r_ishr hX hP rfl (fun b2 b2a b2b b2e => ?_)
    obtain rfl : b2 = 7 := sh1 b2e b2a b2b (by decide)
    refine r_callS gd hX hP rfl cs_Jx4a65c_73 (d' := 3) (mc' := 0) (ms' := 0) (as' := [(0, 15), (0, (16 - 15)), (0, 7)]) (st := []) (by first | decide | omega) (by first | decide | omega) (by first | decide | omega) rfl rfl (Nat.le_of_ble_eq_true rfl) (c_J8_newLength_cabcc E S G 15 (16 - 15) 7 (by first | decide | omega) (by first | decide | omega) (by first | decide | omega) (by first | decide | omega) (by first | decide | omega) (by first | decide | omega)) ?_
    rintro _ _ _ ⟨rfl, rfl, z3, rfl, z3a, z3b, f4, f5, f6⟩
    refine r_ex hX hP 3 (pc' := 33) (st' := [(2, this), (2, this)]) (lo' := [(0, (2, this)), (1, (0, 16)), (2, (0, 15)), (3, (0, z3))]) rfl ?_
    refine r_getK5 hX hP rfl fl_Jx4a65c_9_156 hS (x := ed) ed_e ?_
    refine r_ex hX hP 1 (pc' := 37) (st' := [(0, z3), (2, ed), (2, this)]) (lo' := [(0, (2, this)), (1, (0, 16)), (2, (0, 15)), (3, (0, z3))]) rfl ?_
    have g7 : Gr [172] [(156, 1), (172, -1)] S G S G := (gr_refl [172] [(156, 1), (172, -1)] S G)
    refine r_callS gd hX hP rfl cs_Jx4a65c_66 (d' := 6) (mc' := 1) (ms' := 22) (as' := [(2, ed), (0, z3)]) (st := [(2, this)]) (by first | decide | omega) (by first | decide | omega) (by first | decide | omega) rfl rfl (Nat.le_of_ble_eq_true rfl) (c_cp2_Lev_1 E S G ed z3 ed_s (by first | decide | omega) (by first | decide | omega)) ?_
    rintro _ S8 G9 ⟨g10, z11, rfl, z11s, q12⟩
    have s13 : S8 this = 156 := gr_lab g10 hS (by decide)
    have s14 : S8 ed = 171 := gr_lab g10 ed_s (by decide)
    have e15 : ed = G9 156 this 1 := gr_val g10 ed_e hS (by decide) rfl
    have g16 : Gr [172] [(156, 1), (172, -1)] S G S8 G9 := gr_call g7 g10 rfl rfl
    refine r_ex hX hP 1 (pc' := 41) (st' := [(2, z11), (2, this), (2, z11)]) (lo' := [(0, (2, this)), (1, (0, 16)), (2, (0, 15)), (3, (0, z3))]) rfl ?_
    refine r_put5 hX hP rfl fp_Jx4a65c_9_156 s13 (by decide) (by rw [z11s]; decide) (by rw [z11s]; decide) (fun h17 => ?_)
    have g18 : Gr [172] [(156, 1), (172, -1)] S G S8 (up G9 156 this 1 z11) := (gr_up g16 rfl)
    exact r_retR hX hP rfl rfl (by first | exact Or.inl ⟨_, rfl⟩ | exact Or.inr ⟨_, rfl⟩) (by first | decide | omega) (by first | decide | omega) ⟨g18, z11, rfl, z11s, (h17).symm, q12⟩
  · skip
    exfalso; omega
set_option maxRecDepth 100000 in
set_option maxHeartbeats 4000000 in
theorem c_gr0_Lev_1 (E : En) (S : Sg) (G : Gh) (this : Int) (hS : S this = 156) (ed : Int) (ed_e : ed = G 156 this 1) (ed_s : S ed = 171) (sz_e : 15 = G 156 this 2) : Calls E mJx4a65c_grow_d5877 [(2, this)] S G 10 1 22 (fun r S' G' => Gr [172] [(156, 1), (172, -1)] S G S' G' ∧ ∃ z : Int, r = some (2, z) ∧ S' z = 172 ∧ G' 156 this 1 = z ∧ (∀ i : Int, 0 ≤ i → i < 15 → G' 172 z i = G 171 ed i)) := by
  refine calls_by [(0, (2, this))] rfl rfl (Nat.le_of_ble_eq_true rfl) (fun X hX => ?_)
  have hP := hPJx4a65c_grow_d5877
  refine r_ex hX hP 2 (pc' := 2) (st' := [(2, this), (2, this)]) (lo' := [(0, (2, this))]) rfl ?_
  refine r_getKI hX hP rfl fl_Jx4a65c_48_156 hS (x := 15) sz_e ?_
  refine r_ex hX hP 2 (pc' := 7) (st' := [(0, (15 + 1)), (2, this)]) (lo' := [(0, (2, this))]) rfl ?_
  refine r_callV gd hX hP rfl cv_Jx4a65c_69_156 hS (d' := 8) (mc' := 1) (ms' := 22) (as' := [(0, (15 + 1))]) (st := []) (by first | decide | omega) (by first | decide | omega) (by first | decide | omega) rfl rfl (Nat.le_of_ble_eq_true rfl) (c_gri_Lev_1 E S G this (15 + 1) hS (by first | decide | omega) (by first | decide | omega) ed ed_e ed_s) ?_
  rintro _ S1 G2 ⟨g3, z4, rfl, z4s, q5, q6⟩
  have s7 : S1 this = 156 := gr_lab g3 hS (by decide)
  have s8 : S1 ed = 171 := gr_lab g3 ed_s (by decide)
  have e9 : 15 = G2 156 this 2 := gr_val g3 sz_e hS (by decide) rfl
  have g10 : Gr [172] [(156, 1), (172, -1)] S G S1 G2 := gr_call (gr_refl [172] [(156, 1), (172, -1)] S G) g3 rfl rfl
  have e11 : z4 = G2 156 this 1 := q5.symm
  exact r_retR hX hP rfl rfl (by first | exact Or.inl ⟨_, rfl⟩ | exact Or.inr ⟨_, rfl⟩) (by first | decide | omega) (by first | decide | omega) ⟨g10, z4, rfl, z4s, q5, q6⟩
set_option maxRecDepth 100000 in
set_option maxHeartbeats 4000000 in
theorem c_gri_Lpi_E (E : En) (S : Sg) (G : Gh) (this : Int) (minCapacity : Int) (hS : S this = 157) (minCapacity_a : 1 ≤ minCapacity) (minCapacity_b : minCapacity ≤ 1) (ed_e : Ad E 0 = G 157 this 1) : Calls E mJx4a65c_grow_92f84 [(2, this), (0, minCapacity)] S G 8 1 10 (fun r S' G' => Gr [173] [(157, 1), (173, -1)] S G S' G' ∧ ∃ z : Int, r = some (2, z) ∧ S' z = 173 ∧ G' 157 this 1 = z) := by
  refine calls_by [(0, (2, this)), (1, (0, minCapacity))] rfl rfl (Nat.le_of_ble_eq_true rfl) (fun X hX => ?_)
  have hP := hPJx4a65c_grow_92f84
  obtain rfl : minCapacity = 1 := by omega
  refine r_ex hX hP 1 (pc' := 1) (st' := [(2, this)]) (lo' := [(0, (2, this)), (1, (0, 1))]) rfl ?_
  refine r_getK5 hX hP rfl fl_Jx4a65c_9_157 hS (x := (Ad E 0)) ed_e ?_
  refine r_alenE hX hP rfl ?_
  refine r_ex hX hP 2 (pc' := 7) (st' := [(0, 0)]) (lo' := [(0, (2, this)), (1, (0, 1)), (2, (0, 0))]) rfl ?_
  refine r_if_gt hX hP rfl (tgt := 20) rfl (by first | decide | omega) (by first | decide | omega) (fun c1 => ?_) (fun c1 => ?_)
  · skip
    exfalso; omega
  · skip
    refine r_ex hX hP 1 (pc' := 11) (st' := [(2, this)]) (lo' := [(0, (2, this)), (1, (0, 1)), (2, (0, 0))]) rfl ?_
    refine r_getK5 hX hP rfl fl_Jx4a65c_9_157 hS (x := (Ad E 0)) ed_e ?_
    refine r_getsE hX hP rfl (tbg sg1 137 rfl rfl) ?_
    refine r_ad0 hX (fun p2 => ?_)
    refine r_acmpE hX hP rfl (tgt := 45) rfl (by first | decide | omega) (by first | decide | omega) (fun _ => ?_) (fun q => absurd rfl q)
    refine r_ex hX hP 3 (pc' := 49) (st' := [(0, 1), (0, 10), (2, this)]) (lo' := [(0, (2, this)), (1, (0, 1)), (2, (0, 0))]) rfl ?_
    refine r_mmaxI hX hP rfl (tbg sg3 127 rfl rfl) (tbg sg3 89 rfl rfl) (tbg sg1 14 rfl rfl) (tbg sg3 90 rfl rfl) (by decide) (by decide) (by decide) (Nat.le_of_ble_eq_true rfl) (by first | decide | omega) (by first | decide | omega) (by first | decide | omega) (by first | decide | omega) (fun c3 => ?_) (fun c3 => ?_)
    · skip
      refine r_anewA hX hP rfl (L := 173) (n := 10) al_173 (tbg sg3 128 rfl rfl) (by decide) (by first | decide | omega) (by first | decide | omega) (fun n4 S5 G6 n4z n4n n4l g7 n4v => ?_)
      have z8 : S n4 = 0 := gr_zero (gr_refl [173] [(157, 1), (173, -1)] S G) n4z
      have s9 : S5 this = 157 := gr_lab g7 hS (by decide)
      have e10 : (Ad E 0) = G6 157 this 1 := gr_val g7 ed_e hS (by decide) rfl
      have g11 : Gr [173] [(157, 1), (173, -1)] S G S5 G6 := gr_call (gr_refl [173] [(157, 1), (173, -1)] S G) g7 rfl rfl
      refine r_ex hX hP 1 (pc' := 56) (st' := [(2, n4), (2, this), (2, n4)]) (lo' := [(0, (2, this)), (1, (0, 1)), (2, (0, 0))]) rfl ?_
      refine r_put5 hX hP rfl fp_Jx4a65c_9_157 s9 (by decide) (by rw [n4l]; decide) (by rw [n4l]; decide) (fun h12 => ?_)
      have g13 : Gr [173] [(157, 1), (173, -1)] S G S5 (up G6 157 this 1 n4) := (gr_up g11 rfl)
      exact r_retR hX hP rfl rfl (by first | exact Or.inl ⟨_, rfl⟩ | exact Or.inr ⟨_, rfl⟩) (by first | decide | omega) (by first | decide | omega) ⟨g13, n4, rfl, n4l, (h12).symm⟩
    · skip
      exfalso; omega
set_option maxRecDepth 100000 in
set_option maxHeartbeats 4000000 in
theorem c_gr0_Lpi_E (E : En) (S : Sg) (G : Gh) (this : Int) (hS : S this = 157) (ed_e : Ad E 0 = G 157 this 1) (sz_e : 0 = G 157 this 2) : Calls E mJx4a65c_grow_d5877 [(2, this)] S G 10 1 10 (fun r S' G' => Gr [173] [(157, 1), (173, -1)] S G S' G' ∧ ∃ z : Int, r = some (2, z) ∧ S' z = 173 ∧ G' 157 this 1 = z) := by
  refine calls_by [(0, (2, this))] rfl rfl (Nat.le_of_ble_eq_true rfl) (fun X hX => ?_)
  have hP := hPJx4a65c_grow_d5877
  refine r_ex hX hP 2 (pc' := 2) (st' := [(2, this), (2, this)]) (lo' := [(0, (2, this))]) rfl ?_
  refine r_getKI hX hP rfl fl_Jx4a65c_48_157 hS (x := 0) sz_e ?_
  refine r_ex hX hP 2 (pc' := 7) (st' := [(0, (0 + 1)), (2, this)]) (lo' := [(0, (2, this))]) rfl ?_
  refine r_callV gd hX hP rfl cv_Jx4a65c_69_157 hS (d' := 8) (mc' := 1) (ms' := 10) (as' := [(0, (0 + 1))]) (st := []) (by first | decide | omega) (by first | decide | omega) (by first | decide | omega) rfl rfl (Nat.le_of_ble_eq_true rfl) (c_gri_Lpi_E E S G this (0 + 1) hS (by first | decide | omega) (by first | decide | omega) ed_e) ?_
  rintro _ S1 G2 ⟨g3, z4, rfl, z4s, q5⟩
  have s6 : S1 this = 157 := gr_lab g3 hS (by decide)
  have e7 : 0 = G2 157 this 2 := gr_val g3 sz_e hS (by decide) rfl
  have g8 : Gr [173] [(157, 1), (173, -1)] S G S1 G2 := gr_call (gr_refl [173] [(157, 1), (173, -1)] S G) g3 rfl rfl
  have e9 : z4 = G2 157 this 1 := q5.symm
  exact r_retR hX hP rfl rfl (by first | exact Or.inl ⟨_, rfl⟩ | exact Or.inr ⟨_, rfl⟩) (by first | decide | omega) (by first | decide | omega) ⟨g8, z4, rfl, z4s, q5⟩
set_option maxRecDepth 100000 in
set_option maxHeartbeats 4000000 in
theorem c_gri_Lpi_0 (E : En) (S : Sg) (G : Gh) (this : Int) (minCapacity : Int) (hS : S this = 157) (minCapacity_a : 11 ≤ minCapacity) (minCapacity_b : minCapacity ≤ 11) (ed : Int) (ed_e : ed = G 157 this 1) (ed_s : S ed = 173) : Calls E mJx4a65c_grow_92f84 [(2, this), (0, minCapacity)] S G 8 1 15 (fun r S' G' => Gr [174] [(157, 1), (174, -1)] S G S' G' ∧ ∃ z : Int, r = some (2, z) ∧ S' z = 174 ∧ G' 157 this 1 = z ∧ (∀ i : Int, 0 ≤ i → i < 10 → G' 174 z i = G 173 ed i)) := by
  refine calls_by [(0, (2, this)), (1, (0, minCapacity))] rfl rfl (Nat.le_of_ble_eq_true rfl) (fun X hX => ?_)
  have hP := hPJx4a65c_grow_92f84
  obtain rfl : minCapacity = 11 := by omega
  refine r_ex hX hP 1 (pc' := 1) (st' := [(2, this)]) (lo' := [(0, (2, this)), (1, (0, 11))]) rfl ?_
  refine r_getK5 hX hP rfl fl_Jx4a65c_9_157 hS (x := ed) ed_e ?_
  refine r_alen hX hP rfl al_173 ed_s ?_
  refine r_ex hX hP 2 (pc' := 7) (st' := [(0, 10)]) (lo' := [(0, (2, this)), (1, (0, 11)), (2, (0, 10))]) rfl ?_
  refine r_if_gt hX hP rfl (tgt := 20) rfl (by first | decide | omega) (by first | decide | omega) (fun c1 => ?_) (fun c1 => ?_)
  · skip
    refine r_ex hX hP 6 (pc' := 26) (st' := [(0, 1), (0, 10), (0, (11 - 10)), (0, 10)]) (lo' := [(0, (2, this)), (1, (0, 11)), (2, (0, 10))]) rfl ?_
    refine r_ishr hX hP rfl (fun b2 b2a b2b b2e => ?_)
    obtain rfl : b2 = 5 := sh1 b2e b2a b2b (by decide)
    refine r_callS gd hX hP rfl cs_Jx4a65c_73 (d' := 3) (mc' := 0) (ms' := 0) (as' := [(0, 10), (0, (11 - 10)), (0, 5)]) (st := []) (by first | decide | omega) (by first | decide | omega) (by first | decide | omega) rfl rfl (Nat.le_of_ble_eq_true rfl) (c_J8_newLength_cabcc E S G 10 (11 - 10) 5 (by first | decide | omega) (by first | decide | omega) (by first | decide | omega) (by first | decide | omega) (by first | decide | omega) (by first | decide | omega)) ?_
    rintro _ _ _ ⟨rfl, rfl, z3, rfl, z3a, z3b, f4, f5, f6⟩
    refine r_ex hX hP 3 (pc' := 33) (st' := [(2, this), (2, this)]) (lo' := [(0, (2, this)), (1, (0, 11)), (2, (0, 10)), (3, (0, z3))]) rfl ?_
    refine r_getK5 hX hP rfl fl_Jx4a65c_9_157 hS (x := ed) ed_e ?_
    refine r_ex hX hP 1 (pc' := 37) (st' := [(0, z3), (2, ed), (2, this)]) (lo' := [(0, (2, this)), (1, (0, 11)), (2, (0, 10)), (3, (0, z3))]) rfl ?_
    have g7 : Gr [174] [(157, 1), (174, -1)] S G S G := (gr_refl [174] [(157, 1), (174, -1)] S G)
    refine r_callS gd hX hP rfl cs_Jx4a65c_66 (d' := 6) (mc' := 1) (ms' := 15) (as' := [(2, ed), (0, z3)]) (st := [(2, this)]) (by first | decide | omega) (by first | decide | omega) (by first | decide | omega) rfl rfl (Nat.le_of_ble_eq_true rfl) (c_cp2_Lpi_0 E S G ed z3 ed_s (by first | decide | omega) (by first | decide | omega)) ?_
    rintro _ S8 G9 ⟨g10, z11, rfl, z11s, q12⟩
    have s13 : S8 this = 157 := gr_lab g10 hS (by decide)
    have s14 : S8 ed = 173 := gr_lab g10 ed_s (by decide)
    have e15 : ed = G9 157 this 1 := gr_val g10 ed_e hS (by decide) rfl
    have g16 : Gr [174] [(157, 1), (174, -1)] S G S8 G9 := gr_call g7 g10 rfl rfl
    refine r_ex hX hP 1 (pc' := 41) (st' := [(2, z11), (2, this), (2, z11)]) (lo' := [(0, (2, this)), (1, (0, 11)), (2, (0, 10)), (3, (0, z3))]) rfl ?_
    refine r_put5 hX hP rfl fp_Jx4a65c_9_157 s13 (by decide) (by rw [z11s]; decide) (by rw [z11s]; decide) (fun h17 => ?_)
    have g18 : Gr [174] [(157, 1), (174, -1)] S G S8 (up G9 157 this 1 z11) := (gr_up g16 rfl)
    exact r_retR hX hP rfl rfl (by first | exact Or.inl ⟨_, rfl⟩ | exact Or.inr ⟨_, rfl⟩) (by first | decide | omega) (by first | decide | omega) ⟨g18, z11, rfl, z11s, (h17).symm, q12⟩
  · skip
    exfalso; omega
set_option maxRecDepth 100000 in
set_option maxHeartbeats 4000000 in
theorem c_gr0_Lpi_0 (E : En) (S : Sg) (G : Gh) (this : Int) (hS : S this = 157) (ed : Int) (ed_e : ed = G 157 this 1) (ed_s : S ed = 173) (sz_e : 10 = G 157 this 2) : Calls E mJx4a65c_grow_d5877 [(2, this)] S G 10 1 15 (fun r S' G' => Gr [174] [(157, 1), (174, -1)] S G S' G' ∧ ∃ z : Int, r = some (2, z) ∧ S' z = 174 ∧ G' 157 this 1 = z ∧ (∀ i : Int, 0 ≤ i → i < 10 → G' 174 z i = G 173 ed i)) := by
  refine calls_by [(0, (2, this))] rfl rfl (Nat.le_of_ble_eq_true rfl) (fun X hX => ?_)
  have hP := hPJx4a65c_grow_d5877
  refine r_ex hX hP 2 (pc' := 2) (st' := [(2, this), (2, this)]) (lo' := [(0, (2, this))]) rfl ?_
  refine r_getKI hX hP rfl fl_Jx4a65c_48_157 hS (x := 10) sz_e ?_
  refine r_ex hX hP 2 (pc' := 7) (st' := [(0, (10 + 1)), (2, this)]) (lo' := [(0, (2, this))]) rfl ?_
  refine r_callV gd hX hP rfl cv_Jx4a65c_69_157 hS (d' := 8) (mc' := 1) (ms' := 15) (as' := [(0, (10 + 1))]) (st := []) (by first | decide | omega) (by first | decide | omega) (by first | decide | omega) rfl rfl (Nat.le_of_ble_eq_true rfl) (c_gri_Lpi_0 E S G this (10 + 1) hS (by first | decide | omega) (by first | decide | omega) ed ed_e ed_s) ?_
  rintro _ S1 G2 ⟨g3, z4, rfl, z4s, q5, q6⟩
  have s7 : S1 this = 157 := gr_lab g3 hS (by decide)
  have s8 : S1 ed = 173 := gr_lab g3 ed_s (by decide)
  have e9 : 10 = G2 157 this 2 := gr_val g3 sz_e hS (by decide) rfl
  have g10 : Gr [174] [(157, 1), (174, -1)] S G S1 G2 := gr_call (gr_refl [174] [(157, 1), (174, -1)] S G) g3 rfl rfl
  have e11 : z4 = G2 157 this 1 := q5.symm
  exact r_retR hX hP rfl rfl (by first | exact Or.inl ⟨_, rfl⟩ | exact Or.inr ⟨_, rfl⟩) (by first | decide | omega) (by first | decide | omega) ⟨g10, z4, rfl, z4s, q5, q6⟩
set_option maxRecDepth 100000 in
set_option maxHeartbeats 4000000 in
theorem c_gri_Lpi_1 (E : En) (S : Sg) (G : Gh) (this : Int) (minCapacity : Int) (hS : S this = 157) (minCapacity_a : 16 ≤ minCapacity) (minCapacity_b : minCapacity ≤ 16) (ed : Int) (ed_e : ed = G 157 this 1) (ed_s : S ed = 174) : Calls E mJx4a65c_grow_92f84 [(2, this), (0, minCapacity)] S G 8 1 22 (fun r S' G' => Gr [175] [(157, 1), (175, -1)] S G S' G' ∧ ∃ z : Int, r = some (2, z) ∧ S' z = 175 ∧ G' 157 this 1 = z ∧ (∀ i : Int, 0 ≤ i → i < 15 → G' 175 z i = G 174 ed i)) := by
  refine calls_by [(0, (2, this)), (1, (0, minCapacity))] rfl rfl (Nat.le_of_ble_eq_true rfl) (fun X hX => ?_)
  have hP := hPJx4a65c_grow_92f84
  obtain rfl : minCapacity = 16 := by omega
  refine r_ex hX hP 1 (pc' := 1) (st' := [(2, this)]) (lo' := [(0, (2, this)), (1, (0, 16))]) rfl ?_
  refine r_getK5 hX hP rfl fl_Jx4a65c_9_157 hS (x := ed) ed_e ?_
  refine r_alen hX hP rfl al_174 ed_s ?_
  refine r_ex hX hP 2 (pc' := 7) (st' := [(0, 15)]) (lo' := [(0, (2, this)), (1, (0, 16)), (2, (0, 15))]) rfl ?_
  refine r_if_gt hX hP rfl (tgt := 20) rfl (by first | decide | omega) (by first | decide | omega) (fun c1 => ?_) (fun c1 => ?_)
  · skip
    refine r_ex hX hP 6 (pc' := 26) (st' := [(0, 1), (0, 15), (0, (16 - 15)), (0, 15)]) (lo' := [(0, (2, this)), (1, (0, 16)), (2, (0, 15))]) rfl ?_
    refine r_ishr hX hP rfl (fun b2 b2a b2b b2e => ?_)
    obtain rfl : b2 = 7 := sh1 b2e b2a b2b (by decide)
    refine r_callS gd hX hP rfl cs_Jx4a65c_73 (d' := 3) (mc' := 0) (ms' := 0) (as' := [(0, 15), (0, (16 - 15)), (0, 7)]) (st := []) (by first | decide | omega) (by first | decide | omega) (by first | decide | omega) rfl rfl (Nat.le_of_ble_eq_true rfl) (c_J8_newLength_cabcc E S G 15 (16 - 15) 7 (by first | decide | omega) (by first | decide | omega) (by first | decide | omega) (by first | decide | omega) (by first | decide | omega) (by first | decide | omega)) ?_
    rintro _ _ _ ⟨rfl, rfl, z3, rfl, z3a, z3b, f4, f5, f6⟩
    refine r_ex hX hP 3 (pc' := 33) (st' := [(2, this), (2, this)]) (lo' := [(0, (2, this)), (1, (0, 16)), (2, (0, 15)), (3, (0, z3))]) rfl ?_
    refine r_getK5 hX hP rfl fl_Jx4a65c_9_157 hS (x := ed) ed_e ?_
    refine r_ex hX hP 1 (pc' := 37) (st' := [(0, z3), (2, ed), (2, this)]) (lo' := [(0, (2, this)), (1, (0, 16)), (2, (0, 15)), (3, (0, z3))]) rfl ?_
    have g7 : Gr [175] [(157, 1), (175, -1)] S G S G := (gr_refl [175] [(157, 1), (175, -1)] S G)
    refine r_callS gd hX hP rfl cs_Jx4a65c_66 (d' := 6) (mc' := 1) (ms' := 22) (as' := [(2, ed), (0, z3)]) (st := [(2, this)]) (by first | decide | omega) (by first | decide | omega) (by first | decide | omega) rfl rfl (Nat.le_of_ble_eq_true rfl) (c_cp2_Lpi_1 E S G ed z3 ed_s (by first | decide | omega) (by first | decide | omega)) ?_
    rintro _ S8 G9 ⟨g10, z11, rfl, z11s, q12⟩
    have s13 : S8 this = 157 := gr_lab g10 hS (by decide)
    have s14 : S8 ed = 174 := gr_lab g10 ed_s (by decide)
    have e15 : ed = G9 157 this 1 := gr_val g10 ed_e hS (by decide) rfl
    have g16 : Gr [175] [(157, 1), (175, -1)] S G S8 G9 := gr_call g7 g10 rfl rfl
    refine r_ex hX hP 1 (pc' := 41) (st' := [(2, z11), (2, this), (2, z11)]) (lo' := [(0, (2, this)), (1, (0, 16)), (2, (0, 15)), (3, (0, z3))]) rfl ?_
    refine r_put5 hX hP rfl fp_Jx4a65c_9_157 s13 (by decide) (by rw [z11s]; decide) (by rw [z11s]; decide) (fun h17 => ?_)
    have g18 : Gr [175] [(157, 1), (175, -1)] S G S8 (up G9 157 this 1 z11) := (gr_up g16 rfl)
    exact r_retR hX hP rfl rfl (by first | exact Or.inl ⟨_, rfl⟩ | exact Or.inr ⟨_, rfl⟩) (by first | decide | omega) (by first | decide | omega) ⟨g18, z11, rfl, z11s, (h17).symm, q12⟩
  · skip
    exfalso; omega
set_option maxRecDepth 100000 in
set_option maxHeartbeats 4000000 in
theorem c_gr0_Lpi_1 (E : En) (S : Sg) (G : Gh) (this : Int) (hS : S this = 157) (ed : Int) (ed_e : ed = G 157 this 1) (ed_s : S ed = 174) (sz_e : 15 = G 157 this 2) : Calls E mJx4a65c_grow_d5877 [(2, this)] S G 10 1 22 (fun r S' G' => Gr [175] [(157, 1), (175, -1)] S G S' G' ∧ ∃ z : Int, r = some (2, z) ∧ S' z = 175 ∧ G' 157 this 1 = z ∧ (∀ i : Int, 0 ≤ i → i < 15 → G' 175 z i = G 174 ed i)) := by
  refine calls_by [(0, (2, this))] rfl rfl (Nat.le_of_ble_eq_true rfl) (fun X hX => ?_)
  have hP := hPJx4a65c_grow_d5877
  refine r_ex hX hP 2 (pc' := 2) (st' := [(2, this), (2, this)]) (lo' := [(0, (2, this))]) rfl ?_
  refine r_getKI hX hP rfl fl_Jx4a65c_48_157 hS (x := 15) sz_e ?_
  refine r_ex hX hP 2 (pc' := 7) (st' := [(0, (15 + 1)), (2, this)]) (lo' := [(0, (2, this))]) rfl ?_
  refine r_callV gd hX hP rfl cv_Jx4a65c_69_157 hS (d' := 8) (mc' := 1) (ms' := 22) (as' := [(0, (15 + 1))]) (st := []) (by first | decide | omega) (by first | decide | omega) (by first | decide | omega) rfl rfl (Nat.le_of_ble_eq_true rfl) (c_gri_Lpi_1 E S G this (15 + 1) hS (by first | decide | omega) (by first | decide | omega) ed ed_e ed_s) ?_
  rintro _ S1 G2 ⟨g3, z4, rfl, z4s, q5, q6⟩
  have s7 : S1 this = 157 := gr_lab g3 hS (by decide)
  have s8 : S1 ed = 174 := gr_lab g3 ed_s (by decide)
  have e9 : 15 = G2 157 this 2 := gr_val g3 sz_e hS (by decide) rfl
  have g10 : Gr [175] [(157, 1), (175, -1)] S G S1 G2 := gr_call (gr_refl [175] [(157, 1), (175, -1)] S G) g3 rfl rfl
  have e11 : z4 = G2 157 this 1 := q5.symm
  exact r_retR hX hP rfl rfl (by first | exact Or.inl ⟨_, rfl⟩ | exact Or.inr ⟨_, rfl⟩) (by first | decide | omega) (by first | decide | omega) ⟨g10, z4, rfl, z4s, q5, q6⟩
set_option maxRecDepth 100000 in
set_option maxHeartbeats 4000000 in
theorem c_gri_Lpi_2 (E : En) (S : Sg) (G : Gh) (this : Int) (minCapacity : Int) (hS : S this = 157) (minCapacity_a : 23 ≤ minCapacity) (minCapacity_b : minCapacity ≤ 23) (ed : Int) (ed_e : ed = G 157 this 1) (ed_s : S ed = 175) : Calls E mJx4a65c_grow_92f84 [(2, this), (0, minCapacity)] S G 8 1 33 (fun r S' G' => Gr [176] [(157, 1), (176, -1)] S G S' G' ∧ ∃ z : Int, r = some (2, z) ∧ S' z = 176 ∧ G' 157 this 1 = z ∧ (∀ i : Int, 0 ≤ i → i < 22 → G' 176 z i = G 175 ed i)) := by
  refine calls_by [(0, (2, this)), (1, (0, minCapacity))] rfl rfl (Nat.le_of_ble_eq_true rfl) (fun X hX => ?_)
  have hP := hPJx4a65c_grow_92f84
  obtain rfl : minCapacity = 23 := by omega
  refine r_ex hX hP 1 (pc' := 1) (st' := [(2, this)]) (lo' := [(0, (2, this)), (1, (0, 23))]) rfl ?_
  refine r_getK5 hX hP rfl fl_Jx4a65c_9_157 hS (x := ed) ed_e ?_
  refine r_alen hX hP rfl al_175 ed_s ?_
  refine r_ex hX hP 2 (pc' := 7) (st' := [(0, 22)]) (lo' := [(0, (2, this)), (1, (0, 23)), (2, (0, 22))]) rfl ?_
  refine r_if_gt hX hP rfl (tgt := 20) rfl (by first | decide | omega) (by first | decide | omega) (fun c1 => ?_) (fun c1 => ?_)
  · skip
    refine r_ex hX hP 6 (pc' := 26) (st' := [(0, 1), (0, 22), (0, (23 - 22)), (0, 22)]) (lo' := [(0, (2, this)), (1, (0, 23)), (2, (0, 22))]) rfl ?_
    refine r_ishr hX hP rfl (fun b2 b2a b2b b2e => ?_)
    obtain rfl : b2 = 11 := sh1 b2e b2a b2b (by decide)
    refine r_callS gd hX hP rfl cs_Jx4a65c_73 (d' := 3) (mc' := 0) (ms' := 0) (as' := [(0, 22), (0, (23 - 22)), (0, 11)]) (st := []) (by first | decide | omega) (by first | decide | omega) (by first | decide | omega) rfl rfl (Nat.le_of_ble_eq_true rfl) (c_J8_newLength_cabcc E S G 22 (23 - 22) 11 (by first | decide | omega) (by first | decide | omega) (by first | decide | omega) (by first | decide | omega) (by first | decide | omega) (by first | decide | omega)) ?_
    rintro _ _ _ ⟨rfl, rfl, z3, rfl, z3a, z3b, f4, f5, f6⟩
    refine r_ex hX hP 3 (pc' := 33) (st' := [(2, this), (2, this)]) (lo' := [(0, (2, this)), (1, (0, 23)), (2, (0, 22)), (3, (0, z3))]) rfl ?_
    refine r_getK5 hX hP rfl fl_Jx4a65c_9_157 hS (x := ed) ed_e ?_
    refine r_ex hX hP 1 (pc' := 37) (st' := [(0, z3), (2, ed), (2, this)]) (lo' := [(0, (2, this)), (1, (0, 23)), (2, (0, 22)), (3, (0, z3))]) rfl ?_
    have g7 : Gr [176] [(157, 1), (176, -1)] S G S G := (gr_refl [176] [(157, 1), (176, -1)] S G)
    refine r_callS gd hX hP rfl cs_Jx4a65c_66 (d' := 6) (mc' := 1) (ms' := 33) (as' := [(2, ed), (0, z3)]) (st := [(2, this)]) (by first | decide | omega) (by first | decide | omega) (by first | decide | omega) rfl rfl (Nat.le_of_ble_eq_true rfl) (c_cp2_Lpi_2 E S G ed z3 ed_s (by first | decide | omega) (by first | decide | omega)) ?_
    rintro _ S8 G9 ⟨g10, z11, rfl, z11s, q12⟩
    have s13 : S8 this = 157 := gr_lab g10 hS (by decide)
    have s14 : S8 ed = 175 := gr_lab g10 ed_s (by decide)
    have e15 : ed = G9 157 this 1 := gr_val g10 ed_e hS (by decide) rfl
    have g16 : Gr [176] [(157, 1), (176, -1)] S G S8 G9 := gr_call g7 g10 rfl rfl
    refine r_ex hX hP 1 (pc' := 41) (st' := [(2, z11), (2, this), (2, z11)]) (lo' := [(0, (2, this)), (1, (0, 23)), (2, (0, 22)), (3, (0, z3))]) rfl ?_
    refine r_put5 hX hP rfl fp_Jx4a65c_9_157 s13 (by decide) (by rw [z11s]; decide) (by rw [z11s]; decide) (fun h17 => ?_)
    have g18 : Gr [176] [(157, 1), (176, -1)] S G S8 (up G9 157 this 1 z11) := (gr_up g16 rfl)
    exact r_retR hX hP rfl rfl (by first | exact Or.inl ⟨_, rfl⟩ | exact Or.inr ⟨_, rfl⟩) (by first | decide | omega) (by first | decide | omega) ⟨g18, z11, rfl, z11s, (h17).symm, q12⟩
  · skip
    exfalso; omega
set_option maxRecDepth 100000 in
set_option maxHeartbeats 4000000 in
theorem c_gr0_Lpi_2 (E : En) (S : Sg) (G : Gh) (this : Int) (hS : S this = 157) (ed : Int) (ed_e : ed = G 157 this 1) (ed_s : S ed = 175) (sz_e : 22 = G 157 this 2) : Calls E mJx4a65c_grow_d5877 [(2, this)] S G 10 1 33 (fun r S' G' => Gr [176] [(157, 1), (176, -1)] S G S' G' ∧ ∃ z : Int, r = some (2, z) ∧ S' z = 176 ∧ G' 157 this 1 = z ∧ (∀ i : Int, 0 ≤ i → i < 22 → G' 176 z i = G 175 ed i)) := by
  refine calls_by [(0, (2, this))] rfl rfl (Nat.le_of_ble_eq_true rfl) (fun X hX => ?_)
  have hP := hPJx4a65c_grow_d5877
  refine r_ex hX hP 2 (pc' := 2) (st' := [(2, this), (2, this)]) (lo' := [(0, (2, this))]) rfl ?_
  refine r_getKI hX hP rfl fl_Jx4a65c_48_157 hS (x := 22) sz_e ?_
  refine r_ex hX hP 2 (pc' := 7) (st' := [(0, (22 + 1)), (2, this)]) (lo' := [(0, (2, this))]) rfl ?_
  refine r_callV gd hX hP rfl cv_Jx4a65c_69_157 hS (d' := 8) (mc' := 1) (ms' := 33) (as' := [(0, (22 + 1))]) (st := []) (by first | decide | omega) (by first | decide | omega) (by first | decide | omega) rfl rfl (Nat.le_of_ble_eq_true rfl) (c_gri_Lpi_2 E S G this (22 + 1) hS (by first | decide | omega) (by first | decide | omega) ed ed_e ed_s) ?_
  rintro _ S1 G2 ⟨g3, z4, rfl, z4s, q5, q6⟩
  have s7 : S1 this = 157 := gr_lab g3 hS (by decide)
  have s8 : S1 ed = 175 := gr_lab g3 ed_s (by decide)
  have e9 : 22 = G2 157 this 2 := gr_val g3 sz_e hS (by decide) rfl
  have g10 : Gr [176] [(157, 1), (176, -1)] S G S1 G2 := gr_call (gr_refl [176] [(157, 1), (176, -1)] S G) g3 rfl rfl
  have e11 : z4 = G2 157 this 1 := q5.symm
  exact r_retR hX hP rfl rfl (by first | exact Or.inl ⟨_, rfl⟩ | exact Or.inr ⟨_, rfl⟩) (by first | decide | omega) (by first | decide | omega) ⟨g10, z4, rfl, z4s, q5, q6⟩
set_option maxRecDepth 100000 in
set_option maxHeartbeats 4000000 in
theorem c_gri_Lpi_3 (E : En) (S : Sg) (G : Gh) (this : Int) (minCapacity : Int) (hS : S this = 157) (minCapacity_a : 34 ≤ minCapacity) (minCapacity_b : minCapacity ≤ 34) (ed : Int) (ed_e : ed = G 157 this 1) (ed_s : S ed = 176) : Calls E mJx4a65c_grow_92f84 [(2, this), (0, minCapacity)] S G 8 1 49 (fun r S' G' => Gr [177] [(157, 1), (177, -1)] S G S' G' ∧ ∃ z : Int, r = some (2, z) ∧ S' z = 177 ∧ G' 157 this 1 = z ∧ (∀ i : Int, 0 ≤ i → i < 33 → G' 177 z i = G 176 ed i)) := by
  refine calls_by [(0, (2, this)), (1, (0, minCapacity))] rfl rfl (Nat.le_of_ble_eq_true rfl) (fun X hX => ?_)
  have hP := hPJx4a65c_grow_92f84
  obtain rfl : minCapacity = 34 := by omega
  refine r_ex hX hP 1 (pc' := 1) (st' := [(2, this)]) (lo' := [(0, (2, this)), (1, (0, 34))]) rfl ?_
  refine r_getK5 hX hP rfl fl_Jx4a65c_9_157 hS (x := ed) ed_e ?_
  refine r_alen hX hP rfl al_176 ed_s ?_
  refine r_ex hX hP 2 (pc' := 7) (st' := [(0, 33)]) (lo' := [(0, (2, this)), (1, (0, 34)), (2, (0, 33))]) rfl ?_
  refine r_if_gt hX hP rfl (tgt := 20) rfl (by first | decide | omega) (by first | decide | omega) (fun c1 => ?_) (fun c1 => ?_)
  · skip
    refine r_ex hX hP 6 (pc' := 26) (st' := [(0, 1), (0, 33), (0, (34 - 33)), (0, 33)]) (lo' := [(0, (2, this)), (1, (0, 34)), (2, (0, 33))]) rfl ?_
    refine r_ishr hX hP rfl (fun b2 b2a b2b b2e => ?_)
    obtain rfl : b2 = 16 := sh1 b2e b2a b2b (by decide)
    refine r_callS gd hX hP rfl cs_Jx4a65c_73 (d' := 3) (mc' := 0) (ms' := 0) (as' := [(0, 33), (0, (34 - 33)), (0, 16)]) (st := []) (by first | decide | omega) (by first | decide | omega) (by first | decide | omega) rfl rfl (Nat.le_of_ble_eq_true rfl) (c_J8_newLength_cabcc E S G 33 (34 - 33) 16 (by first | decide | omega) (by first | decide | omega) (by first | decide | omega) (by first | decide | omega) (by first | decide | omega) (by first | decide | omega)) ?_
    rintro _ _ _ ⟨rfl, rfl, z3, rfl, z3a, z3b, f4, f5, f6⟩
    refine r_ex hX hP 3 (pc' := 33) (st' := [(2, this), (2, this)]) (lo' := [(0, (2, this)), (1, (0, 34)), (2, (0, 33)), (3, (0, z3))]) rfl ?_
    refine r_getK5 hX hP rfl fl_Jx4a65c_9_157 hS (x := ed) ed_e ?_
    refine r_ex hX hP 1 (pc' := 37) (st' := [(0, z3), (2, ed), (2, this)]) (lo' := [(0, (2, this)), (1, (0, 34)), (2, (0, 33)), (3, (0, z3))]) rfl ?_
    have g7 : Gr [177] [(157, 1), (177, -1)] S G S G := (gr_refl [177] [(157, 1), (177, -1)] S G)
    refine r_callS gd hX hP rfl cs_Jx4a65c_66 (d' := 6) (mc' := 1) (ms' := 49) (as' := [(2, ed), (0, z3)]) (st := [(2, this)]) (by first | decide | omega) (by first | decide | omega) (by first | decide | omega) rfl rfl (Nat.le_of_ble_eq_true rfl) (c_cp2_Lpi_3 E S G ed z3 ed_s (by first | decide | omega) (by first | decide | omega)) ?_
    rintro _ S8 G9 ⟨g10, z11, rfl, z11s, q12⟩
    have s13 : S8 this = 157 := gr_lab g10 hS (by decide)
    have s14 : S8 ed = 176 := gr_lab g10 ed_s (by decide)
    have e15 : ed = G9 157 this 1 := gr_val g10 ed_e hS (by decide) rfl
    have g16 : Gr [177] [(157, 1), (177, -1)] S G S8 G9 := gr_call g7 g10 rfl rfl
    refine r_ex hX hP 1 (pc' := 41) (st' := [(2, z11), (2, this), (2, z11)]) (lo' := [(0, (2, this)), (1, (0, 34)), (2, (0, 33)), (3, (0, z3))]) rfl ?_
    refine r_put5 hX hP rfl fp_Jx4a65c_9_157 s13 (by decide) (by rw [z11s]; decide) (by rw [z11s]; decide) (fun h17 => ?_)
    have g18 : Gr [177] [(157, 1), (177, -1)] S G S8 (up G9 157 this 1 z11) := (gr_up g16 rfl)
    exact r_retR hX hP rfl rfl (by first | exact Or.inl ⟨_, rfl⟩ | exact Or.inr ⟨_, rfl⟩) (by first | decide | omega) (by first | decide | omega) ⟨g18, z11, rfl, z11s, (h17).symm, q12⟩
  · skip
    exfalso; omega
set_option maxRecDepth 100000 in
set_option maxHeartbeats 4000000 in
theorem c_gr0_Lpi_3 (E : En) (S : Sg) (G : Gh) (this : Int) (hS : S this = 157) (ed : Int) (ed_e : ed = G 157 this 1) (ed_s : S ed = 176) (sz_e : 33 = G 157 this 2) : Calls E mJx4a65c_grow_d5877 [(2, this)] S G 10 1 49 (fun r S' G' => Gr [177] [(157, 1), (177, -1)] S G S' G' ∧ ∃ z : Int, r = some (2, z) ∧ S' z = 177 ∧ G' 157 this 1 = z ∧ (∀ i : Int, 0 ≤ i → i < 33 → G' 177 z i = G 176 ed i)) := by
  refine calls_by [(0, (2, this))] rfl rfl (Nat.le_of_ble_eq_true rfl) (fun X hX => ?_)
  have hP := hPJx4a65c_grow_d5877
  refine r_ex hX hP 2 (pc' := 2) (st' := [(2, this), (2, this)]) (lo' := [(0, (2, this))]) rfl ?_
  refine r_getKI hX hP rfl fl_Jx4a65c_48_157 hS (x := 33) sz_e ?_
  refine r_ex hX hP 2 (pc' := 7) (st' := [(0, (33 + 1)), (2, this)]) (lo' := [(0, (2, this))]) rfl ?_
  refine r_callV gd hX hP rfl cv_Jx4a65c_69_157 hS (d' := 8) (mc' := 1) (ms' := 49) (as' := [(0, (33 + 1))]) (st := []) (by first | decide | omega) (by first | decide | omega) (by first | decide | omega) rfl rfl (Nat.le_of_ble_eq_true rfl) (c_gri_Lpi_3 E S G this (33 + 1) hS (by first | decide | omega) (by first | decide | omega) ed ed_e ed_s) ?_
  rintro _ S1 G2 ⟨g3, z4, rfl, z4s, q5, q6⟩
  have s7 : S1 this = 157 := gr_lab g3 hS (by decide)
  have s8 : S1 ed = 176 := gr_lab g3 ed_s (by decide)
  have e9 : 33 = G2 157 this 2 := gr_val g3 sz_e hS (by decide) rfl
  have g10 : Gr [177] [(157, 1), (177, -1)] S G S1 G2 := gr_call (gr_refl [177] [(157, 1), (177, -1)] S G) g3 rfl rfl
  have e11 : z4 = G2 157 this 1 := q5.symm
  exact r_retR hX hP rfl rfl (by first | exact Or.inl ⟨_, rfl⟩ | exact Or.inr ⟨_, rfl⟩) (by first | decide | omega) (by first | decide | omega) ⟨g10, z4, rfl, z4s, q5, q6⟩
set_option maxRecDepth 100000 in
set_option maxHeartbeats 4000000 in
theorem c_gri_Lpi_4 (E : En) (S : Sg) (G : Gh) (this : Int) (minCapacity : Int) (hS : S this = 157) (minCapacity_a : 50 ≤ minCapacity) (minCapacity_b : minCapacity ≤ 50) (ed : Int) (ed_e : ed = G 157 this 1) (ed_s : S ed = 177) : Calls E mJx4a65c_grow_92f84 [(2, this), (0, minCapacity)] S G 8 1 73 (fun r S' G' => Gr [178] [(157, 1), (178, -1)] S G S' G' ∧ ∃ z : Int, r = some (2, z) ∧ S' z = 178 ∧ G' 157 this 1 = z ∧ (∀ i : Int, 0 ≤ i → i < 49 → G' 178 z i = G 177 ed i)) := by
  refine calls_by [(0, (2, this)), (1, (0, minCapacity))] rfl rfl (Nat.le_of_ble_eq_true rfl) (fun X hX => ?_)
  have hP := hPJx4a65c_grow_92f84
  obtain rfl : minCapacity = 50 := by omega
  refine r_ex hX hP 1 (pc' := 1) (st' := [(2, this)]) (lo' := [(0, (2, this)), (1, (0, 50))]) rfl ?_
  refine r_getK5 hX hP rfl fl_Jx4a65c_9_157 hS (x := ed) ed_e ?_
  refine r_alen hX hP rfl al_177 ed_s ?_
  refine r_ex hX hP 2 (pc' := 7) (st' := [(0, 49)]) (lo' := [(0, (2, this)), (1, (0, 50)), (2, (0, 49))]) rfl ?_
  refine r_if_gt hX hP rfl (tgt := 20) rfl (by first | decide | omega) (by first | decide | omega) (fun c1 => ?_) (fun c1 => ?_)
  · skip
    refine r_ex hX hP 6 (pc' := 26) (st' := [(0, 1), (0, 49), (0, (50 - 49)), (0, 49)]) (lo' := [(0, (2, this)), (1, (0, 50)), (2, (0, 49))]) rfl ?_
    refine r_ishr hX hP rfl (fun b2 b2a b2b b2e => ?_)
    obtain rfl : b2 = 24 := sh1 b2e b2a b2b (by decide)
    refine r_callS gd hX hP rfl cs_Jx4a65c_73 (d' := 3) (mc' := 0) (ms' := 0) (as' := [(0, 49), (0, (50 - 49)), (0, 24)]) (st := []) (by first | decide | omega) (by first | decide | omega) (by first | decide | omega) rfl rfl (Nat.le_of_ble_eq_true rfl) (c_J8_newLength_cabcc E S G 49 (50 - 49) 24 (by first | decide | omega) (by first | decide | omega) (by first | decide | omega) (by first | decide | omega) (by first | decide | omega) (by first | decide | omega)) ?_
    rintro _ _ _ ⟨rfl, rfl, z3, rfl, z3a, z3b, f4, f5, f6⟩
    refine r_ex hX hP 3 (pc' := 33) (st' := [(2, this), (2, this)]) (lo' := [(0, (2, this)), (1, (0, 50)), (2, (0, 49)), (3, (0, z3))]) rfl ?_
    refine r_getK5 hX hP rfl fl_Jx4a65c_9_157 hS (x := ed) ed_e ?_
    refine r_ex hX hP 1 (pc' := 37) (st' := [(0, z3), (2, ed), (2, this)]) (lo' := [(0, (2, this)), (1, (0, 50)), (2, (0, 49)), (3, (0, z3))]) rfl ?_
    have g7 : Gr [178] [(157, 1), (178, -1)] S G S G := (gr_refl [178] [(157, 1), (178, -1)] S G)
    refine r_callS gd hX hP rfl cs_Jx4a65c_66 (d' := 6) (mc' := 1) (ms' := 73) (as' := [(2, ed), (0, z3)]) (st := [(2, this)]) (by first | decide | omega) (by first | decide | omega) (by first | decide | omega) rfl rfl (Nat.le_of_ble_eq_true rfl) (c_cp2_Lpi_4 E S G ed z3 ed_s (by first | decide | omega) (by first | decide | omega)) ?_
    rintro _ S8 G9 ⟨g10, z11, rfl, z11s, q12⟩
    have s13 : S8 this = 157 := gr_lab g10 hS (by decide)
    have s14 : S8 ed = 177 := gr_lab g10 ed_s (by decide)
    have e15 : ed = G9 157 this 1 := gr_val g10 ed_e hS (by decide) rfl
    have g16 : Gr [178] [(157, 1), (178, -1)] S G S8 G9 := gr_call g7 g10 rfl rfl
    refine r_ex hX hP 1 (pc' := 41) (st' := [(2, z11), (2, this), (2, z11)]) (lo' := [(0, (2, this)), (1, (0, 50)), (2, (0, 49)), (3, (0, z3))]) rfl ?_
    refine r_put5 hX hP rfl fp_Jx4a65c_9_157 s13 (by decide) (by rw [z11s]; decide) (by rw [z11s]; decide) (fun h17 => ?_)
    have g18 : Gr [178] [(157, 1), (178, -1)] S G S8 (up G9 157 this 1 z11) := (gr_up g16 rfl)
    exact r_retR hX hP rfl rfl (by first | exact Or.inl ⟨_, rfl⟩ | exact Or.inr ⟨_, rfl⟩) (by first | decide | omega) (by first | decide | omega) ⟨g18, z11, rfl, z11s, (h17).symm, q12⟩
  · skip
    exfalso; omega
set_option maxRecDepth 100000 in
set_option maxHeartbeats 4000000 in
theorem c_gr0_Lpi_4 (E : En) (S : Sg) (G : Gh) (this : Int) (hS : S this = 157) (ed : Int) (ed_e : ed = G 157 this 1) (ed_s : S ed = 177) (sz_e : 49 = G 157 this 2) : Calls E mJx4a65c_grow_d5877 [(2, this)] S G 10 1 73 (fun r S' G' => Gr [178] [(157, 1), (178, -1)] S G S' G' ∧ ∃ z : Int, r = some (2, z) ∧ S' z = 178 ∧ G' 157 this 1 = z ∧ (∀ i : Int, 0 ≤ i → i < 49 → G' 178 z i = G 177 ed i)) := by
  refine calls_by [(0, (2, this))] rfl rfl (Nat.le_of_ble_eq_true rfl) (fun X hX => ?_)
  have hP := hPJx4a65c_grow_d5877
  refine r_ex hX hP 2 (pc' := 2) (st' := [(2, this), (2, this)]) (lo' := [(0, (2, this))]) rfl ?_
  refine r_getKI hX hP rfl fl_Jx4a65c_48_157 hS (x := 49) sz_e ?_
  refine r_ex hX hP 2 (pc' := 7) (st' := [(0, (49 + 1)), (2, this)]) (lo' := [(0, (2, this))]) rfl ?_
  refine r_callV gd hX hP rfl cv_Jx4a65c_69_157 hS (d' := 8) (mc' := 1) (ms' := 73) (as' := [(0, (49 + 1))]) (st := []) (by first | decide | omega) (by first | decide | omega) (by first | decide | omega) rfl rfl (Nat.le_of_ble_eq_true rfl) (c_gri_Lpi_4 E S G this (49 + 1) hS (by first | decide | omega) (by first | decide | omega) ed ed_e ed_s) ?_
  rintro _ S1 G2 ⟨g3, z4, rfl, z4s, q5, q6⟩
  have s7 : S1 this = 157 := gr_lab g3 hS (by decide)
  have s8 : S1 ed = 177 := gr_lab g3 ed_s (by decide)
  have e9 : 49 = G2 157 this 2 := gr_val g3 sz_e hS (by decide) rfl
  have g10 : Gr [178] [(157, 1), (178, -1)] S G S1 G2 := gr_call (gr_refl [178] [(157, 1), (178, -1)] S G) g3 rfl rfl
  have e11 : z4 = G2 157 this 1 := q5.symm
  exact r_retR hX hP rfl rfl (by first | exact Or.inl ⟨_, rfl⟩ | exact Or.inr ⟨_, rfl⟩) (by first | decide | omega) (by first | decide | omega) ⟨g10, z4, rfl, z4s, q5, q6⟩
set_option maxRecDepth 100000 in
set_option maxHeartbeats 4000000 in
theorem c_gri_Lop_E (E : En) (S : Sg) (G : Gh) (this : Int) (minCapacity : Int) (hS : S this = 158) (minCapacity_a : 1 ≤ minCapacity) (minCapacity_b : minCapacity ≤ 1) (ed_e : Ad E 0 = G 158 this 1) : Calls E mJx4a65c_grow_92f84 [(2, this), (0, minCapacity)] S G 8 1 10 (fun r S' G' => Gr [179] [(158, 1), (179, -1)] S G S' G' ∧ ∃ z : Int, r = some (2, z) ∧ S' z = 179 ∧ G' 158 this 1 = z) := by
  refine calls_by [(0, (2, this)), (1, (0, minCapacity))] rfl rfl (Nat.le_of_ble_eq_true rfl) (fun X hX => ?_)
  have hP := hPJx4a65c_grow_92f84
  obtain rfl : minCapacity = 1 := by omega
  refine r_ex hX hP 1 (pc' := 1) (st' := [(2, this)]) (lo' := [(0, (2, this)), (1, (0, 1))]) rfl ?_
  refine r_getK5 hX hP rfl fl_Jx4a65c_9_158 hS (x := (Ad E 0)) ed_e ?_
  refine r_alenE hX hP rfl ?_
  refine r_ex hX hP 2 (pc' := 7) (st' := [(0, 0)]) (lo' := [(0, (2, this)), (1, (0, 1)), (2, (0, 0))]) rfl ?_
  refine r_if_gt hX hP rfl (tgt := 20) rfl (by first | decide | omega) (by first | decide | omega) (fun c1 => ?_) (fun c1 => ?_)
  · skip
    exfalso; omega
  · skip
    refine r_ex hX hP 1 (pc' := 11) (st' := [(2, this)]) (lo' := [(0, (2, this)), (1, (0, 1)), (2, (0, 0))]) rfl ?_
    refine r_getK5 hX hP rfl fl_Jx4a65c_9_158 hS (x := (Ad E 0)) ed_e ?_
    refine r_getsE hX hP rfl (tbg sg1 137 rfl rfl) ?_
    refine r_ad0 hX (fun p2 => ?_)
    refine r_acmpE hX hP rfl (tgt := 45) rfl (by first | decide | omega) (by first | decide | omega) (fun _ => ?_) (fun q => absurd rfl q)
    refine r_ex hX hP 3 (pc' := 49) (st' := [(0, 1), (0, 10), (2, this)]) (lo' := [(0, (2, this)), (1, (0, 1)), (2, (0, 0))]) rfl ?_
    refine r_mmaxI hX hP rfl (tbg sg3 127 rfl rfl) (tbg sg3 89 rfl rfl) (tbg sg1 14 rfl rfl) (tbg sg3 90 rfl rfl) (by decide) (by decide) (by decide) (Nat.le_of_ble_eq_true rfl) (by first | decide | omega) (by first | decide | omega) (by first | decide | omega) (by first | decide | omega) (fun c3 => ?_) (fun c3 => ?_)
    · skip
      refine r_anewA hX hP rfl (L := 179) (n := 10) al_179 (tbg sg3 128 rfl rfl) (by decide) (by first | decide | omega) (by first | decide | omega) (fun n4 S5 G6 n4z n4n n4l g7 n4v => ?_)
      have z8 : S n4 = 0 := gr_zero (gr_refl [179] [(158, 1), (179, -1)] S G) n4z
      have s9 : S5 this = 158 := gr_lab g7 hS (by decide)
      have e10 : (Ad E 0) = G6 158 this 1 := gr_val g7 ed_e hS (by decide) rfl
      have g11 : Gr [179] [(158, 1), (179, -1)] S G S5 G6 := gr_call (gr_refl [179] [(158, 1), (179, -1)] S G) g7 rfl rfl
      refine r_ex hX hP 1 (pc' := 56) (st' := [(2, n4), (2, this), (2, n4)]) (lo' := [(0, (2, this)), (1, (0, 1)), (2, (0, 0))]) rfl ?_
      refine r_put5 hX hP rfl fp_Jx4a65c_9_158 s9 (by decide) (by rw [n4l]; decide) (by rw [n4l]; decide) (fun h12 => ?_)
      have g13 : Gr [179] [(158, 1), (179, -1)] S G S5 (up G6 158 this 1 n4) := (gr_up g11 rfl)
      exact r_retR hX hP rfl rfl (by first | exact Or.inl ⟨_, rfl⟩ | exact Or.inr ⟨_, rfl⟩) (by first | decide | omega) (by first | decide | omega) ⟨g13, n4, rfl, n4l, (h12).symm⟩
    · skip
      exfalso; omega
set_option maxRecDepth 100000 in
set_option maxHeartbeats 4000000 in
theorem c_gr0_Lop_E (E : En) (S : Sg) (G : Gh) (this : Int) (hS : S this = 158) (ed_e : Ad E 0 = G 158 this 1) (sz_e : 0 = G 158 this 2) : Calls E mJx4a65c_grow_d5877 [(2, this)] S G 10 1 10 (fun r S' G' => Gr [179] [(158, 1), (179, -1)] S G S' G' ∧ ∃ z : Int, r = some (2, z) ∧ S' z = 179 ∧ G' 158 this 1 = z) := by
  refine calls_by [(0, (2, this))] rfl rfl (Nat.le_of_ble_eq_true rfl) (fun X hX => ?_)
  have hP := hPJx4a65c_grow_d5877
  refine r_ex hX hP 2 (pc' := 2) (st' := [(2, this), (2, this)]) (lo' := [(0, (2, this))]) rfl ?_
  refine r_getKI hX hP rfl fl_Jx4a65c_48_158 hS (x := 0) sz_e ?_
  refine r_ex hX hP 2 (pc' := 7) (st' := [(0, (0 + 1)), (2, this)]) (lo' := [(0, (2, this))]) rfl ?_
  refine r_callV gd hX hP rfl cv_Jx4a65c_69_158 hS (d' := 8) (mc' := 1) (ms' := 10) (as' := [(0, (0 + 1))]) (st := []) (by first | decide | omega) (by first | decide | omega) (by first | decide | omega) rfl rfl (Nat.le_of_ble_eq_true rfl) (c_gri_Lop_E E S G this (0 + 1) hS (by first | decide | omega) (by first | decide | omega) ed_e) ?_
  rintro _ S1 G2 ⟨g3, z4, rfl, z4s, q5⟩
  have s6 : S1 this = 158 := gr_lab g3 hS (by decide)
  have e7 : 0 = G2 158 this 2 := gr_val g3 sz_e hS (by decide) rfl
  have g8 : Gr [179] [(158, 1), (179, -1)] S G S1 G2 := gr_call (gr_refl [179] [(158, 1), (179, -1)] S G) g3 rfl rfl
  have e9 : z4 = G2 158 this 1 := q5.symm
  exact r_retR hX hP rfl rfl (by first | exact Or.inl ⟨_, rfl⟩ | exact Or.inr ⟨_, rfl⟩) (by first | decide | omega) (by first | decide | omega) ⟨g8, z4, rfl, z4s, q5⟩
set_option maxRecDepth 100000 in
set_option maxHeartbeats 4000000 in
theorem c_gri_Lna_E (E : En) (S : Sg) (G : Gh) (this : Int) (minCapacity : Int) (hS : S this = 159) (minCapacity_a : 1 ≤ minCapacity) (minCapacity_b : minCapacity ≤ 1) (ed_e : Ad E 0 = G 159 this 1) : Calls E mJx4a65c_grow_92f84 [(2, this), (0, minCapacity)] S G 8 1 10 (fun r S' G' => Gr [180] [(159, 1), (180, -1)] S G S' G' ∧ ∃ z : Int, r = some (2, z) ∧ S' z = 180 ∧ G' 159 this 1 = z) := by
  refine calls_by [(0, (2, this)), (1, (0, minCapacity))] rfl rfl (Nat.le_of_ble_eq_true rfl) (fun X hX => ?_)
  have hP := hPJx4a65c_grow_92f84
  obtain rfl : minCapacity = 1 := by omega
  refine r_ex hX hP 1 (pc' := 1) (st' := [(2, this)]) (lo' := [(0, (2, this)), (1, (0, 1))]) rfl ?_
  refine r_getK5 hX hP rfl fl_Jx4a65c_9_159 hS (x := (Ad E 0)) ed_e ?_
  refine r_alenE hX hP rfl ?_
  refine r_ex hX hP 2 (pc' := 7) (st' := [(0, 0)]) (lo' := [(0, (2, this)), (1, (0, 1)), (2, (0, 0))]) rfl ?_
  refine r_if_gt hX hP rfl (tgt := 20) rfl (by first | decide | omega) (by first | decide | omega) (fun c1 => ?_) (fun c1 => ?_)
  · skip
    exfalso; omega
  · skip
    refine r_ex hX hP 1 (pc' := 11) (st' := [(2, this)]) (lo' := [(0, (2, this)), (1, (0, 1)), (2, (0, 0))]) rfl ?_
    refine r_getK5 hX hP rfl fl_Jx4a65c_9_159 hS (x := (Ad E 0)) ed_e ?_
    refine r_getsE hX hP rfl (tbg sg1 137 rfl rfl) ?_
    refine r_ad0 hX (fun p2 => ?_)
    refine r_acmpE hX hP rfl (tgt := 45) rfl (by first | decide | omega) (by first | decide | omega) (fun _ => ?_) (fun q => absurd rfl q)
    refine r_ex hX hP 3 (pc' := 49) (st' := [(0, 1), (0, 10), (2, this)]) (lo' := [(0, (2, this)), (1, (0, 1)), (2, (0, 0))]) rfl ?_
    refine r_mmaxI hX hP rfl (tbg sg3 127 rfl rfl) (tbg sg3 89 rfl rfl) (tbg sg1 14 rfl rfl) (tbg sg3 90 rfl rfl) (by decide) (by decide) (by decide) (Nat.le_of_ble_eq_true rfl) (by first | decide | omega) (by first | decide | omega) (by first | decide | omega) (by first | decide | omega) (fun c3 => ?_) (fun c3 => ?_)
    · skip
      refine r_anewA hX hP rfl (L := 180) (n := 10) al_180 (tbg sg3 128 rfl rfl) (by decide) (by first | decide | omega) (by first | decide | omega) (fun n4 S5 G6 n4z n4n n4l g7 n4v => ?_)
      have z8 : S n4 = 0 := gr_zero (gr_refl [180] [(159, 1), (180, -1)] S G) n4z
      have s9 : S5 this = 159 := gr_lab g7 hS (by decide)
      have e10 : (Ad E 0) = G6 159 this 1 := gr_val g7 ed_e hS (by decide) rfl
      have g11 : Gr [180] [(159, 1), (180, -1)] S G S5 G6 := gr_call (gr_refl [180] [(159, 1), (180, -1)] S G) g7 rfl rfl
      refine r_ex hX hP 1 (pc' := 56) (st' := [(2, n4), (2, this), (2, n4)]) (lo' := [(0, (2, this)), (1, (0, 1)), (2, (0, 0))]) rfl ?_
      refine r_put5 hX hP rfl fp_Jx4a65c_9_159 s9 (by decide) (by rw [n4l]; decide) (by rw [n4l]; decide) (fun h12 => ?_)
      have g13 : Gr [180] [(159, 1), (180, -1)] S G S5 (up G6 159 this 1 n4) := (gr_up g11 rfl)
      exact r_retR hX hP rfl rfl (by first | exact Or.inl ⟨_, rfl⟩ | exact Or.inr ⟨_, rfl⟩) (by first | decide | omega) (by first | decide | omega) ⟨g13, n4, rfl, n4l, (h12).symm⟩
    · skip
      exfalso; omega
set_option maxRecDepth 100000 in
set_option maxHeartbeats 4000000 in
theorem c_gr0_Lna_E (E : En) (S : Sg) (G : Gh) (this : Int) (hS : S this = 159) (ed_e : Ad E 0 = G 159 this 1) (sz_e : 0 = G 159 this 2) : Calls E mJx4a65c_grow_d5877 [(2, this)] S G 10 1 10 (fun r S' G' => Gr [180] [(159, 1), (180, -1)] S G S' G' ∧ ∃ z : Int, r = some (2, z) ∧ S' z = 180 ∧ G' 159 this 1 = z) := by
  refine calls_by [(0, (2, this))] rfl rfl (Nat.le_of_ble_eq_true rfl) (fun X hX => ?_)
  have hP := hPJx4a65c_grow_d5877
  refine r_ex hX hP 2 (pc' := 2) (st' := [(2, this), (2, this)]) (lo' := [(0, (2, this))]) rfl ?_
  refine r_getKI hX hP rfl fl_Jx4a65c_48_159 hS (x := 0) sz_e ?_
  refine r_ex hX hP 2 (pc' := 7) (st' := [(0, (0 + 1)), (2, this)]) (lo' := [(0, (2, this))]) rfl ?_
  refine r_callV gd hX hP rfl cv_Jx4a65c_69_159 hS (d' := 8) (mc' := 1) (ms' := 10) (as' := [(0, (0 + 1))]) (st := []) (by first | decide | omega) (by first | decide | omega) (by first | decide | omega) rfl rfl (Nat.le_of_ble_eq_true rfl) (c_gri_Lna_E E S G this (0 + 1) hS (by first | decide | omega) (by first | decide | omega) ed_e) ?_
  rintro _ S1 G2 ⟨g3, z4, rfl, z4s, q5⟩
  have s6 : S1 this = 159 := gr_lab g3 hS (by decide)
  have e7 : 0 = G2 159 this 2 := gr_val g3 sz_e hS (by decide) rfl
  have g8 : Gr [180] [(159, 1), (180, -1)] S G S1 G2 := gr_call (gr_refl [180] [(159, 1), (180, -1)] S G) g3 rfl rfl
  have e9 : z4 = G2 159 this 1 := q5.symm
  exact r_retR hX hP rfl rfl (by first | exact Or.inl ⟨_, rfl⟩ | exact Or.inr ⟨_, rfl⟩) (by first | decide | omega) (by first | decide | omega) ⟨g8, z4, rfl, z4s, q5⟩
set_option maxRecDepth 100000 in
set_option maxHeartbeats 4000000 in
theorem c_gri_Lna_0 (E : En) (S : Sg) (G : Gh) (this : Int) (minCapacity : Int) (hS : S this = 159) (minCapacity_a : 11 ≤ minCapacity) (minCapacity_b : minCapacity ≤ 11) (ed : Int) (ed_e : ed = G 159 this 1) (ed_s : S ed = 180) : Calls E mJx4a65c_grow_92f84 [(2, this), (0, minCapacity)] S G 8 1 15 (fun r S' G' => Gr [181] [(159, 1), (181, -1)] S G S' G' ∧ ∃ z : Int, r = some (2, z) ∧ S' z = 181 ∧ G' 159 this 1 = z ∧ (∀ i : Int, 0 ≤ i → i < 10 → G' 181 z i = G 180 ed i)) := by
  refine calls_by [(0, (2, this)), (1, (0, minCapacity))] rfl rfl (Nat.le_of_ble_eq_true rfl) (fun X hX => ?_)
  have hP := hPJx4a65c_grow_92f84
  obtain rfl : minCapacity = 11 := by omega
  refine r_ex hX hP 1 (pc' := 1) (st' := [(2, this)]) (lo' := [(0, (2, this)), (1, (0, 11))]) rfl ?_
  refine r_getK5 hX hP rfl fl_Jx4a65c_9_159 hS (x := ed) ed_e ?_
  refine r_alen hX hP rfl al_180 ed_s ?_
  refine r_ex hX hP 2 (pc' := 7) (st' := [(0, 10)]) (lo' := [(0, (2, this)), (1, (0, 11)), (2, (0, 10))]) rfl ?_
  refine r_if_gt hX hP rfl (tgt := 20) rfl (by first | decide | omega) (by first | decide | omega) (fun c1 => ?_) (fun c1 => ?_)
  · skip
    refine r_ex hX hP 6 (pc' := 26) (st' := [(0, 1), (0, 10), (0, (11 - 10)), (0, 10)]) (lo' := [(0, (2, this)), (1, (0, 11)), (2, (0, 10))]) rfl ?_
    refine r_ishr hX hP rfl (fun b2 b2a b2b b2e => ?_)
    obtain rfl : b2 = 5 := sh1 b2e b2a b2b (by decide)
    refine r_callS gd hX hP rfl cs_Jx4a65c_73 (d' := 3) (mc' := 0) (ms' := 0) (as' := [(0, 10), (0, (11 - 10)), (0, 5)]) (st := []) (by first | decide | omega) (by first | decide | omega) (by first | decide | omega) rfl rfl (Nat.le_of_ble_eq_true rfl) (c_J8_newLength_cabcc E S G 10 (11 - 10) 5 (by first | decide | omega) (by first | decide | omega) (by first | decide | omega) (by first | decide | omega) (by first | decide | omega) (by first | decide | omega)) ?_
    rintro _ _ _ ⟨rfl, rfl, z3, rfl, z3a, z3b, f4, f5, f6⟩
    refine r_ex hX hP 3 (pc' := 33) (st' := [(2, this), (2, this)]) (lo' := [(0, (2, this)), (1, (0, 11)), (2, (0, 10)), (3, (0, z3))]) rfl ?_
    refine r_getK5 hX hP rfl fl_Jx4a65c_9_159 hS (x := ed) ed_e ?_
    refine r_ex hX hP 1 (pc' := 37) (st' := [(0, z3), (2, ed), (2, this)]) (lo' := [(0, (2, this)), (1, (0, 11)), (2, (0, 10)), (3, (0, z3))]) rfl ?_
    have g7 : Gr [181] [(159, 1), (181, -1)] S G S G := (gr_refl [181] [(159, 1), (181, -1)] S G)
    refine r_callS gd hX hP rfl cs_Jx4a65c_66 (d' := 6) (mc' := 1) (ms' := 15) (as' := [(2, ed), (0, z3)]) (st := [(2, this)]) (by first | decide | omega) (by first | decide | omega) (by first | decide | omega) rfl rfl (Nat.le_of_ble_eq_true rfl) (c_cp2_Lna_0 E S G ed z3 ed_s (by first | decide | omega) (by first | decide | omega)) ?_
    rintro _ S8 G9 ⟨g10, z11, rfl, z11s, q12⟩
    have s13 : S8 this = 159 := gr_lab g10 hS (by decide)
    have s14 : S8 ed = 180 := gr_lab g10 ed_s (by decide)
    have e15 : ed = G9 159 this 1 := gr_val g10 ed_e hS (by decide) rfl
    have g16 : Gr [181] [(159, 1), (181, -1)] S G S8 G9 := gr_call g7 g10 rfl rfl
    refine r_ex hX hP 1 (pc' := 41) (st' := [(2, z11), (2, this), (2, z11)]) (lo' := [(0, (2, this)), (1, (0, 11)), (2, (0, 10)), (3, (0, z3))]) rfl ?_
    refine r_put5 hX hP rfl fp_Jx4a65c_9_159 s13 (by decide) (by rw [z11s]; decide) (by rw [z11s]; decide) (fun h17 => ?_)
    have g18 : Gr [181] [(159, 1), (181, -1)] S G S8 (up G9 159 this 1 z11) := (gr_up g16 rfl)
    exact r_retR hX hP rfl rfl (by first | exact Or.inl ⟨_, rfl⟩ | exact Or.inr ⟨_, rfl⟩) (by first | decide | omega) (by first | decide | omega) ⟨g18, z11, rfl, z11s, (h17).symm, q12⟩
  · skip
    exfalso; omega
set_option maxRecDepth 100000 in
set_option maxHeartbeats 4000000 in
theorem c_gr0_Lna_0 (E : En) (S : Sg) (G : Gh) (this : Int) (hS : S this = 159) (ed : Int) (ed_e : ed = G 159 this 1) (ed_s : S ed = 180) (sz_e : 10 = G 159 this 2) : Calls E mJx4a65c_grow_d5877 [(2, this)] S G 10 1 15 (fun r S' G' => Gr [181] [(159, 1), (181, -1)] S G S' G' ∧ ∃ z : Int, r = some (2, z) ∧ S' z = 181 ∧ G' 159 this 1 = z ∧ (∀ i : Int, 0 ≤ i → i < 10 → G' 181 z i = G 180 ed i)) := by
  refine calls_by [(0, (2, this))] rfl rfl (Nat.le_of_ble_eq_true rfl) (fun X hX => ?_)
  have hP := hPJx4a65c_grow_d5877
  refine r_ex hX hP 2 (pc' := 2) (st' := [(2, this), (2, this)]) (lo' := [(0, (2, this))]) rfl ?_
  refine r_getKI hX hP rfl fl_Jx4a65c_48_159 hS (x := 10) sz_e ?_
  refine r_ex hX hP 2 (pc' := 7) (st' := [(0, (10 + 1)), (2, this)]) (lo' := [(0, (2, this))]) rfl ?_
  refine r_callV gd hX hP rfl cv_Jx4a65c_69_159 hS (d' := 8) (mc' := 1) (ms' := 15) (as' := [(0, (10 + 1))]) (st := []) (by first | decide | omega) (by first | decide | omega) (by first | decide | omega) rfl rfl (Nat.le_of_ble_eq_true rfl) (c_gri_Lna_0 E S G this (10 + 1) hS (by first | decide | omega) (by first | decide | omega) ed ed_e ed_s) ?_
  rintro _ S1 G2 ⟨g3, z4, rfl, z4s, q5, q6⟩
  have s7 : S1 this = 159 := gr_lab g3 hS (by decide)
  have s8 : S1 ed = 180 := gr_lab g3 ed_s (by decide)
  have e9 : 10 = G2 159 this 2 := gr_val g3 sz_e hS (by decide) rfl
  have g10 : Gr [181] [(159, 1), (181, -1)] S G S1 G2 := gr_call (gr_refl [181] [(159, 1), (181, -1)] S G) g3 rfl rfl
  have e11 : z4 = G2 159 this 1 := q5.symm
  exact r_retR hX hP rfl rfl (by first | exact Or.inl ⟨_, rfl⟩ | exact Or.inr ⟨_, rfl⟩) (by first | decide | omega) (by first | decide | omega) ⟨g10, z4, rfl, z4s, q5, q6⟩
set_option maxRecDepth 100000 in
set_option maxHeartbeats 4000000 in
theorem c_gri_Lna_1 (E : En) (S : Sg) (G : Gh) (this : Int) (minCapacity : Int) (hS : S this = 159) (minCapacity_a : 16 ≤ minCapacity) (minCapacity_b : minCapacity ≤ 16) (ed : Int) (ed_e : ed = G 159 this 1) (ed_s : S ed = 181) : Calls E mJx4a65c_grow_92f84 [(2, this), (0, minCapacity)] S G 8 1 22 (fun r S' G' => Gr [182] [(159, 1), (182, -1)] S G S' G' ∧ ∃ z : Int, r = some (2, z) ∧ S' z = 182 ∧ G' 159 this 1 = z ∧ (∀ i : Int, 0 ≤ i → i < 15 → G' 182 z i = G 181 ed i)) := by
  refine calls_by [(0, (2, this)), (1, (0, minCapacity))] rfl rfl (Nat.le_of_ble_eq_true rfl) (fun X hX => ?_)
  have hP := hPJx4a65c_grow_92f84
  obtain rfl : minCapacity = 16 := by omega
  refine r_ex hX hP 1 (pc' := 1) (st' := [(2, this)]) (lo' := [(0, (2, this)), (1, (0, 16))]) rfl ?_
  refine r_getK5 hX hP rfl fl_Jx4a65c_9_159 hS (x := ed) ed_e ?_
  refine r_alen hX hP rfl al_181 ed_s ?_
  refine r_ex hX hP 2 (pc' := 7) (st' := [(0, 15)]) (lo' := [(0, (2, this)), (1, (0, 16)), (2, (0, 15))]) rfl ?_
  refine r_if_gt hX hP rfl (tgt := 20) rfl (by first | decide | omega) (by first | decide | omega) (fun c1 => ?_) (fun c1 => ?_)
  · skip
    refine r_ex hX hP 6 (pc' := 26) (st' := [(0, 1), (0, 15), (0, (16 - 15)), (0, 15)]) (lo' := [(0, (2, this)), (1, (0, 16)), (2, (0, 15))]) rfl ?_
    refine r_ishr hX hP rfl (fun b2 b2a b2b b2e => ?_)
    obtain rfl : b2 = 7 := sh1 b2e b2a b2b (by decide)
    refine r_callS gd hX hP rfl cs_Jx4a65c_73 (d' := 3) (mc' := 0) (ms' := 0) (as' := [(0, 15), (0, (16 - 15)), (0, 7)]) (st := []) (by first | decide | omega) (by first | decide | omega) (by first | decide | omega) rfl rfl (Nat.le_of_ble_eq_true rfl) (c_J8_newLength_cabcc E S G 15 (16 - 15) 7 (by first | decide | omega) (by first | decide | omega) (by first | decide | omega) (by first | decide | omega) (by first | decide | omega) (by first | decide | omega)) ?_
    rintro _ _ _ ⟨rfl, rfl, z3, rfl, z3a, z3b, f4, f5, f6⟩
    refine r_ex hX hP 3 (pc' := 33) (st' := [(2, this), (2, this)]) (lo' := [(0, (2, this)), (1, (0, 16)), (2, (0, 15)), (3, (0, z3))]) rfl ?_
    refine r_getK5 hX hP rfl fl_Jx4a65c_9_159 hS (x := ed) ed_e ?_
    refine r_ex hX hP 1 (pc' := 37) (st' := [(0, z3), (2, ed), (2, this)]) (lo' := [(0, (2, this)), (1, (0, 16)), (2, (0, 15)), (3, (0, z3))]) rfl ?_
    have g7 : Gr [182] [(159, 1), (182, -1)] S G S G := (gr_refl [182] [(159, 1), (182, -1)] S G)
    refine r_callS gd hX hP rfl cs_Jx4a65c_66 (d' := 6) (mc' := 1) (ms' := 22) (as' := [(2, ed), (0, z3)]) (st := [(2, this)]) (by first | decide | omega) (by first | decide | omega) (by first | decide | omega) rfl rfl (Nat.le_of_ble_eq_true rfl) (c_cp2_Lna_1 E S G ed z3 ed_s (by first | decide | omega) (by first | decide | omega)) ?_
    rintro _ S8 G9 ⟨g10, z11, rfl, z11s, q12⟩
    have s13 : S8 this = 159 := gr_lab g10 hS (by decide)
    have s14 : S8 ed = 181 := gr_lab g10 ed_s (by decide)
    have e15 : ed = G9 159 this 1 := gr_val g10 ed_e hS (by decide) rfl
    have g16 : Gr [182] [(159, 1), (182, -1)] S G S8 G9 := gr_call g7 g10 rfl rfl
    refine r_ex hX hP 1 (pc' := 41) (st' := [(2, z11), (2, this), (2, z11)]) (lo' := [(0, (2, this)), (1, (0, 16)), (2, (0, 15)), (3, (0, z3))]) rfl ?_
    refine r_put5 hX hP rfl fp_Jx4a65c_9_159 s13 (by decide) (by rw [z11s]; decide) (by rw [z11s]; decide) (fun h17 => ?_)
    have g18 : Gr [182] [(159, 1), (182, -1)] S G S8 (up G9 159 this 1 z11) := (gr_up g16 rfl)
    exact r_retR hX hP rfl rfl (by first | exact Or.inl ⟨_, rfl⟩ | exact Or.inr ⟨_, rfl⟩) (by first | decide | omega) (by first | decide | omega) ⟨g18, z11, rfl, z11s, (h17).symm, q12⟩
  · skip
    exfalso; omega
set_option maxRecDepth 100000 in
set_option maxHeartbeats 4000000 in
theorem c_gr0_Lna_1 (E : En) (S : Sg) (G : Gh) (this : Int) (hS : S this = 159) (ed : Int) (ed_e : ed = G 159 this 1) (ed_s : S ed = 181) (sz_e : 15 = G 159 this 2) : Calls E mJx4a65c_grow_d5877 [(2, this)] S G 10 1 22 (fun r S' G' => Gr [182] [(159, 1), (182, -1)] S G S' G' ∧ ∃ z : Int, r = some (2, z) ∧ S' z = 182 ∧ G' 159 this 1 = z ∧ (∀ i : Int, 0 ≤ i → i < 15 → G' 182 z i = G 181 ed i)) := by
  refine calls_by [(0, (2, this))] rfl rfl (Nat.le_of_ble_eq_true rfl) (fun X hX => ?_)
  have hP := hPJx4a65c_grow_d5877
  refine r_ex hX hP 2 (pc' := 2) (st' := [(2, this), (2, this)]) (lo' := [(0, (2, this))]) rfl ?_
  refine r_getKI hX hP rfl fl_Jx4a65c_48_159 hS (x := 15) sz_e ?_
  refine r_ex hX hP 2 (pc' := 7) (st' := [(0, (15 + 1)), (2, this)]) (lo' := [(0, (2, this))]) rfl ?_
  refine r_callV gd hX hP rfl cv_Jx4a65c_69_159 hS (d' := 8) (mc' := 1) (ms' := 22) (as' := [(0, (15 + 1))]) (st := []) (by first | decide | omega) (by first | decide | omega) (by first | decide | omega) rfl rfl (Nat.le_of_ble_eq_true rfl) (c_gri_Lna_1 E S G this (15 + 1) hS (by first | decide | omega) (by first | decide | omega) ed ed_e ed_s) ?_
  rintro _ S1 G2 ⟨g3, z4, rfl, z4s, q5, q6⟩
  have s7 : S1 this = 159 := gr_lab g3 hS (by decide)
  have s8 : S1 ed = 181 := gr_lab g3 ed_s (by decide)
  have e9 : 15 = G2 159 this 2 := gr_val g3 sz_e hS (by decide) rfl
  have g10 : Gr [182] [(159, 1), (182, -1)] S G S1 G2 := gr_call (gr_refl [182] [(159, 1), (182, -1)] S G) g3 rfl rfl
  have e11 : z4 = G2 159 this 1 := q5.symm
  exact r_retR hX hP rfl rfl (by first | exact Or.inl ⟨_, rfl⟩ | exact Or.inr ⟨_, rfl⟩) (by first | decide | omega) (by first | decide | omega) ⟨g10, z4, rfl, z4s, q5, q6⟩
set_option maxRecDepth 100000 in
set_option maxHeartbeats 4000000 in
theorem c_gri_Lna_2 (E : En) (S : Sg) (G : Gh) (this : Int) (minCapacity : Int) (hS : S this = 159) (minCapacity_a : 23 ≤ minCapacity) (minCapacity_b : minCapacity ≤ 23) (ed : Int) (ed_e : ed = G 159 this 1) (ed_s : S ed = 182) : Calls E mJx4a65c_grow_92f84 [(2, this), (0, minCapacity)] S G 8 1 33 (fun r S' G' => Gr [183] [(159, 1), (183, -1)] S G S' G' ∧ ∃ z : Int, r = some (2, z) ∧ S' z = 183 ∧ G' 159 this 1 = z ∧ (∀ i : Int, 0 ≤ i → i < 22 → G' 183 z i = G 182 ed i)) := by
  refine calls_by [(0, (2, this)), (1, (0, minCapacity))] rfl rfl (Nat.le_of_ble_eq_true rfl) (fun X hX => ?_)
  have hP := hPJx4a65c_grow_92f84
  obtain rfl : minCapacity = 23 := by omega
  refine r_ex hX hP 1 (pc' := 1) (st' := [(2, this)]) (lo' := [(0, (2, this)), (1, (0, 23))]) rfl ?_
  refine r_getK5 hX hP rfl fl_Jx4a65c_9_159 hS (x := ed) ed_e ?_
  refine r_alen hX hP rfl al_182 ed_s ?_
  refine r_ex hX hP 2 (pc' := 7) (st' := [(0, 22)]) (lo' := [(0, (2, this)), (1, (0, 23)), (2, (0, 22))]) rfl ?_
  refine r_if_gt hX hP rfl (tgt := 20) rfl (by first | decide | omega) (by first | decide | omega) (fun c1 => ?_) (fun c1 => ?_)
  · skip
    refine r_ex hX hP 6 (pc' := 26) (st' := [(0, 1), (0, 22), (0, (23 - 22)), (0, 22)]) (lo' := [(0, (2, this)), (1, (0, 23)), (2, (0, 22))]) rfl ?_
    refine r_ishr hX hP rfl (fun b2 b2a b2b b2e => ?_)
    obtain rfl : b2 = 11 := sh1 b2e b2a b2b (by decide)
    refine r_callS gd hX hP rfl cs_Jx4a65c_73 (d' := 3) (mc' := 0) (ms' := 0) (as' := [(0, 22), (0, (23 - 22)), (0, 11)]) (st := []) (by first | decide | omega) (by first | decide | omega) (by first | decide | omega) rfl rfl (Nat.le_of_ble_eq_true rfl) (c_J8_newLength_cabcc E S G 22 (23 - 22) 11 (by first | decide | omega) (by first | decide | omega) (by first | decide | omega) (by first | decide | omega) (by first | decide | omega) (by first | decide | omega)) ?_
    rintro _ _ _ ⟨rfl, rfl, z3, rfl, z3a, z3b, f4, f5, f6⟩
    refine r_ex hX hP 3 (pc' := 33) (st' := [(2, this), (2, this)]) (lo' := [(0, (2, this)), (1, (0, 23)), (2, (0, 22)), (3, (0, z3))]) rfl ?_
    refine r_getK5 hX hP rfl fl_Jx4a65c_9_159 hS (x := ed) ed_e ?_
    refine r_ex hX hP 1 (pc' := 37) (st' := [(0, z3), (2, ed), (2, this)]) (lo' := [(0, (2, this)), (1, (0, 23)), (2, (0, 22)), (3, (0, z3))]) rfl ?_
    have g7 : Gr [183] [(159, 1), (183, -1)] S G S G := (gr_refl [183] [(159, 1), (183, -1)] S G)
    refine r_callS gd hX hP rfl cs_Jx4a65c_66 (d' := 6) (mc' := 1) (ms' := 33) (as' := [(2, ed), (0, z3)]) (st := [(2, this)]) (by first | decide | omega) (by first | decide | omega) (by first | decide | omega) rfl rfl (Nat.le_of_ble_eq_true rfl) (c_cp2_Lna_2 E S G ed z3 ed_s (by first | decide | omega) (by first | decide | omega)) ?_
    rintro _ S8 G9 ⟨g10, z11, rfl, z11s, q12⟩
    have s13 : S8 this = 159 := gr_lab g10 hS (by decide)
    have s14 : S8 ed = 182 := gr_lab g10 ed_s (by decide)
    have e15 : ed = G9 159 this 1 := gr_val g10 ed_e hS (by decide) rfl
    have g16 : Gr [183] [(159, 1), (183, -1)] S G S8 G9 := gr_call g7 g10 rfl rfl
    refine r_ex hX hP 1 (pc' := 41) (st' := [(2, z11), (2, this), (2, z11)]) (lo' := [(0, (2, this)), (1, (0, 23)), (2, (0, 22)), (3, (0, z3))]) rfl ?_
    refine r_put5 hX hP rfl fp_Jx4a65c_9_159 s13 (by decide) (by rw [z11s]; decide) (by rw [z11s]; decide) (fun h17 => ?_)
    have g18 : Gr [183] [(159, 1), (183, -1)] S G S8 (up G9 159 this 1 z11) := (gr_up g16 rfl)
    exact r_retR hX hP rfl rfl (by first | exact Or.inl ⟨_, rfl⟩ | exact Or.inr ⟨_, rfl⟩) (by first | decide | omega) (by first | decide | omega) ⟨g18, z11, rfl, z11s, (h17).symm, q12⟩
  · skip
    exfalso; omega
set_option maxRecDepth 100000 in
set_option maxHeartbeats 4000000 in
theorem c_gr0_Lna_2 (E : En) (S : Sg) (G : Gh) (this : Int) (hS : S this = 159) (ed : Int) (ed_e : ed = G 159 this 1) (ed_s : S ed = 182) (sz_e : 22 = G 159 this 2) : Calls E mJx4a65c_grow_d5877 [(2, this)] S G 10 1 33 (fun r S' G' => Gr [183] [(159, 1), (183, -1)] S G S' G' ∧ ∃ z : Int, r = some (2, z) ∧ S' z = 183 ∧ G' 159 this 1 = z ∧ (∀ i : Int, 0 ≤ i → i < 22 → G' 183 z i = G 182 ed i)) := by
  refine calls_by [(0, (2, this))] rfl rfl (Nat.le_of_ble_eq_true rfl) (fun X hX => ?_)
  have hP := hPJx4a65c_grow_d5877
  refine r_ex hX hP 2 (pc' := 2) (st' := [(2, this), (2, this)]) (lo' := [(0, (2, this))]) rfl ?_
  refine r_getKI hX hP rfl fl_Jx4a65c_48_159 hS (x := 22) sz_e ?_
  refine r_ex hX hP 2 (pc' := 7) (st' := [(0, (22 + 1)), (2, this)]) (lo' := [(0, (2, this))]) rfl ?_
  refine r_callV gd hX hP rfl cv_Jx4a65c_69_159 hS (d' := 8) (mc' := 1) (ms' := 33) (as' := [(0, (22 + 1))]) (st := []) (by first | decide | omega) (by first | decide | omega) (by first | decide | omega) rfl rfl (Nat.le_of_ble_eq_true rfl) (c_gri_Lna_2 E S G this (22 + 1) hS (by first | decide | omega) (by first | decide | omega) ed ed_e ed_s) ?_
  rintro _ S1 G2 ⟨g3, z4, rfl, z4s, q5, q6⟩
  have s7 : S1 this = 159 := gr_lab g3 hS (by decide)
  have s8 : S1 ed = 182 := gr_lab g3 ed_s (by decide)
  have e9 : 22 = G2 159 this 2 := gr_val g3 sz_e hS (by decide) rfl
  have g10 : Gr [183] [(159, 1), (183, -1)] S G S1 G2 := gr_call (gr_refl [183] [(159, 1), (183, -1)] S G) g3 rfl rfl
  have e11 : z4 = G2 159 this 1 := q5.symm
  exact r_retR hX hP rfl rfl (by first | exact Or.inl ⟨_, rfl⟩ | exact Or.inr ⟨_, rfl⟩) (by first | decide | omega) (by first | decide | omega) ⟨g10, z4, rfl, z4s, q5, q6⟩
set_option maxRecDepth 100000 in
set_option maxHeartbeats 4000000 in
theorem c_gri_Lna_3 (E : En) (S : Sg) (G : Gh) (this : Int) (minCapacity : Int) (hS : S this = 159) (minCapacity_a : 34 ≤ minCapacity) (minCapacity_b : minCapacity ≤ 34) (ed : Int) (ed_e : ed = G 159 this 1) (ed_s : S ed = 183) : Calls E mJx4a65c_grow_92f84 [(2, this), (0, minCapacity)] S G 8 1 49 (fun r S' G' => Gr [184] [(159, 1), (184, -1)] S G S' G' ∧ ∃ z : Int, r = some (2, z) ∧ S' z = 184 ∧ G' 159 this 1 = z ∧ (∀ i : Int, 0 ≤ i → i < 33 → G' 184 z i = G 183 ed i)) := by
  refine calls_by [(0, (2, this)), (1, (0, minCapacity))] rfl rfl (Nat.le_of_ble_eq_true rfl) (fun X hX => ?_)
  have hP := hPJx4a65c_grow_92f84
  obtain rfl : minCapacity = 34 := by omega
  refine r_ex hX hP 1 (pc' := 1) (st' := [(2, this)]) (lo' := [(0, (2, this)), (1, (0, 34))]) rfl ?_
  refine r_getK5 hX hP rfl fl_Jx4a65c_9_159 hS (x := ed) ed_e ?_
  refine r_alen hX hP rfl al_183 ed_s ?_
  refine r_ex hX hP 2 (pc' := 7) (st' := [(0, 33)]) (lo' := [(0, (2, this)), (1, (0, 34)), (2, (0, 33))]) rfl ?_
  refine r_if_gt hX hP rfl (tgt := 20) rfl (by first | decide | omega) (by first | decide | omega) (fun c1 => ?_) (fun c1 => ?_)
  · skip
    refine r_ex hX hP 6 (pc' := 26) (st' := [(0, 1), (0, 33), (0, (34 - 33)), (0, 33)]) (lo' := [(0, (2, this)), (1, (0, 34)), (2, (0, 33))]) rfl ?_
    refine r_ishr hX hP rfl (fun b2 b2a b2b b2e => ?_)
    obtain rfl : b2 = 16 := sh1 b2e b2a b2b (by decide)
    refine r_callS gd hX hP rfl cs_Jx4a65c_73 (d' := 3) (mc' := 0) (ms' := 0) (as' := [(0, 33), (0, (34 - 33)), (0, 16)]) (st := []) (by first | decide | omega) (by first | decide | omega) (by first | decide | omega) rfl rfl (Nat.le_of_ble_eq_true rfl) (c_J8_newLength_cabcc E S G 33 (34 - 33) 16 (by first | decide | omega) (by first | decide | omega) (by first | decide | omega) (by first | decide | omega) (by first | decide | omega) (by first | decide | omega)) ?_
    rintro _ _ _ ⟨rfl, rfl, z3, rfl, z3a, z3b, f4, f5, f6⟩
    refine r_ex hX hP 3 (pc' := 33) (st' := [(2, this), (2, this)]) (lo' := [(0, (2, this)), (1, (0, 34)), (2, (0, 33)), (3, (0, z3))]) rfl ?_
    refine r_getK5 hX hP rfl fl_Jx4a65c_9_159 hS (x := ed) ed_e ?_
    refine r_ex hX hP 1 (pc' := 37) (st' := [(0, z3), (2, ed), (2, this)]) (lo' := [(0, (2, this)), (1, (0, 34)), (2, (0, 33)), (3, (0, z3))]) rfl ?_
    have g7 : Gr [184] [(159, 1), (184, -1)] S G S G := (gr_refl [184] [(159, 1), (184, -1)] S G)
    refine r_callS gd hX hP rfl cs_Jx4a65c_66 (d' := 6) (mc' := 1) (ms' := 49) (as' := [(2, ed), (0, z3)]) (st := [(2, this)]) (by first | decide | omega) (by first | decide | omega) (by first | decide | omega) rfl rfl (Nat.le_of_ble_eq_true rfl) (c_cp2_Lna_3 E S G ed z3 ed_s (by first | decide | omega) (by first | decide | omega)) ?_
    rintro _ S8 G9 ⟨g10, z11, rfl, z11s, q12⟩
    have s13 : S8 this = 159 := gr_lab g10 hS (by decide)
    have s14 : S8 ed = 183 := gr_lab g10 ed_s (by decide)
    have e15 : ed = G9 159 this 1 := gr_val g10 ed_e hS (by decide) rfl
    have g16 : Gr [184] [(159, 1), (184, -1)] S G S8 G9 := gr_call g7 g10 rfl rfl
    refine r_ex hX hP 1 (pc' := 41) (st' := [(2, z11), (2, this), (2, z11)]) (lo' := [(0, (2, this)), (1, (0, 34)), (2, (0, 33)), (3, (0, z3))]) rfl ?_
    refine r_put5 hX hP rfl fp_Jx4a65c_9_159 s13 (by decide) (by rw [z11s]; decide) (by rw [z11s]; decide) (fun h17 => ?_)
    have g18 : Gr [184] [(159, 1), (184, -1)] S G S8 (up G9 159 this 1 z11) := (gr_up g16 rfl)
    exact r_retR hX hP rfl rfl (by first | exact Or.inl ⟨_, rfl⟩ | exact Or.inr ⟨_, rfl⟩) (by first | decide | omega) (by first | decide | omega) ⟨g18, z11, rfl, z11s, (h17).symm, q12⟩
  · skip
    exfalso; omega
set_option maxRecDepth 100000 in
set_option maxHeartbeats 4000000 in
theorem c_gr0_Lna_3 (E : En) (S : Sg) (G : Gh) (this : Int) (hS : S this = 159) (ed : Int) (ed_e : ed = G 159 this 1) (ed_s : S ed = 183) (sz_e : 33 = G 159 this 2) : Calls E mJx4a65c_grow_d5877 [(2, this)] S G 10 1 49 (fun r S' G' => Gr [184] [(159, 1), (184, -1)] S G S' G' ∧ ∃ z : Int, r = some (2, z) ∧ S' z = 184 ∧ G' 159 this 1 = z ∧ (∀ i : Int, 0 ≤ i → i < 33 → G' 184 z i = G 183 ed i)) := by
  refine calls_by [(0, (2, this))] rfl rfl (Nat.le_of_ble_eq_true rfl) (fun X hX => ?_)
  have hP := hPJx4a65c_grow_d5877
  refine r_ex hX hP 2 (pc' := 2) (st' := [(2, this), (2, this)]) (lo' := [(0, (2, this))]) rfl ?_
  refine r_getKI hX hP rfl fl_Jx4a65c_48_159 hS (x := 33) sz_e ?_
  refine r_ex hX hP 2 (pc' := 7) (st' := [(0, (33 + 1)), (2, this)]) (lo' := [(0, (2, this))]) rfl ?_
  refine r_callV gd hX hP rfl cv_Jx4a65c_69_159 hS (d' := 8) (mc' := 1) (ms' := 49) (as' := [(0, (33 + 1))]) (st := []) (by first | decide | omega) (by first | decide | omega) (by first | decide | omega) rfl rfl (Nat.le_of_ble_eq_true rfl) (c_gri_Lna_3 E S G this (33 + 1) hS (by first | decide | omega) (by first | decide | omega) ed ed_e ed_s) ?_
  rintro _ S1 G2 ⟨g3, z4, rfl, z4s, q5, q6⟩
  have s7 : S1 this = 159 := gr_lab g3 hS (by decide)
  have s8 : S1 ed = 183 := gr_lab g3 ed_s (by decide)
  have e9 : 33 = G2 159 this 2 := gr_val g3 sz_e hS (by decide) rfl
  have g10 : Gr [184] [(159, 1), (184, -1)] S G S1 G2 := gr_call (gr_refl [184] [(159, 1), (184, -1)] S G) g3 rfl rfl
  have e11 : z4 = G2 159 this 1 := q5.symm
  exact r_retR hX hP rfl rfl (by first | exact Or.inl ⟨_, rfl⟩ | exact Or.inr ⟨_, rfl⟩) (by first | decide | omega) (by first | decide | omega) ⟨g10, z4, rfl, z4s, q5, q6⟩
set_option maxRecDepth 100000 in
set_option maxHeartbeats 4000000 in
theorem c_gri_Lna_4 (E : En) (S : Sg) (G : Gh) (this : Int) (minCapacity : Int) (hS : S this = 159) (minCapacity_a : 50 ≤ minCapacity) (minCapacity_b : minCapacity ≤ 50) (ed : Int) (ed_e : ed = G 159 this 1) (ed_s : S ed = 184) : Calls E mJx4a65c_grow_92f84 [(2, this), (0, minCapacity)] S G 8 1 73 (fun r S' G' => Gr [185] [(159, 1), (185, -1)] S G S' G' ∧ ∃ z : Int, r = some (2, z) ∧ S' z = 185 ∧ G' 159 this 1 = z ∧ (∀ i : Int, 0 ≤ i → i < 49 → G' 185 z i = G 184 ed i)) := by
  refine calls_by [(0, (2, this)), (1, (0, minCapacity))] rfl rfl (Nat.le_of_ble_eq_true rfl) (fun X hX => ?_)
  have hP := hPJx4a65c_grow_92f84
  obtain rfl : minCapacity = 50 := by omega
  refine r_ex hX hP 1 (pc' := 1) (st' := [(2, this)]) (lo' := [(0, (2, this)), (1, (0, 50))]) rfl ?_
  refine r_getK5 hX hP rfl fl_Jx4a65c_9_159 hS (x := ed) ed_e ?_
  refine r_alen hX hP rfl al_184 ed_s ?_
  refine r_ex hX hP 2 (pc' := 7) (st' := [(0, 49)]) (lo' := [(0, (2, this)), (1, (0, 50)), (2, (0, 49))]) rfl ?_
  refine r_if_gt hX hP rfl (tgt := 20) rfl (by first | decide | omega) (by first | decide | omega) (fun c1 => ?_) (fun c1 => ?_)
  · skip
    refine r_ex hX hP 6 (pc' := 26) (st' := [(0, 1), (0, 49), (0, (50 - 49)), (0, 49)]) (lo' := [(0, (2, this)), (1, (0, 50)), (2, (0, 49))]) rfl ?_
    refine r_ishr hX hP rfl (fun b2 b2a b2b b2e => ?_)
    obtain rfl : b2 = 24 := sh1 b2e b2a b2b (by decide)
    refine r_callS gd hX hP rfl cs_Jx4a65c_73 (d' := 3) (mc' := 0) (ms' := 0) (as' := [(0, 49), (0, (50 - 49)), (0, 24)]) (st := []) (by first | decide | omega) (by first | decide | omega) (by first | decide | omega) rfl rfl (Nat.le_of_ble_eq_true rfl) (c_J8_newLength_cabcc E S G 49 (50 - 49) 24 (by first | decide | omega) (by first | decide | omega) (by first | decide | omega) (by first | decide | omega) (by first | decide | omega) (by first | decide | omega)) ?_
    rintro _ _ _ ⟨rfl, rfl, z3, rfl, z3a, z3b, f4, f5, f6⟩
    refine r_ex hX hP 3 (pc' := 33) (st' := [(2, this), (2, this)]) (lo' := [(0, (2, this)), (1, (0, 50)), (2, (0, 49)), (3, (0, z3))]) rfl ?_
    refine r_getK5 hX hP rfl fl_Jx4a65c_9_159 hS (x := ed) ed_e ?_
    refine r_ex hX hP 1 (pc' := 37) (st' := [(0, z3), (2, ed), (2, this)]) (lo' := [(0, (2, this)), (1, (0, 50)), (2, (0, 49)), (3, (0, z3))]) rfl ?_
    have g7 : Gr [185] [(159, 1), (185, -1)] S G S G := (gr_refl [185] [(159, 1), (185, -1)] S G)
    refine r_callS gd hX hP rfl cs_Jx4a65c_66 (d' := 6) (mc' := 1) (ms' := 73) (as' := [(2, ed), (0, z3)]) (st := [(2, this)]) (by first | decide | omega) (by first | decide | omega) (by first | decide | omega) rfl rfl (Nat.le_of_ble_eq_true rfl) (c_cp2_Lna_4 E S G ed z3 ed_s (by first | decide | omega) (by first | decide | omega)) ?_
    rintro _ S8 G9 ⟨g10, z11, rfl, z11s, q12⟩
    have s13 : S8 this = 159 := gr_lab g10 hS (by decide)
    have s14 : S8 ed = 184 := gr_lab g10 ed_s (by decide)
    have e15 : ed = G9 159 this 1 := gr_val g10 ed_e hS (by decide) rfl
    have g16 : Gr [185] [(159, 1), (185, -1)] S G S8 G9 := gr_call g7 g10 rfl rfl
    refine r_ex hX hP 1 (pc' := 41) (st' := [(2, z11), (2, this), (2, z11)]) (lo' := [(0, (2, this)), (1, (0, 50)), (2, (0, 49)), (3, (0, z3))]) rfl ?_
    refine r_put5 hX hP rfl fp_Jx4a65c_9_159 s13 (by decide) (by rw [z11s]; decide) (by rw [z11s]; decide) (fun h17 => ?_)
    have g18 : Gr [185] [(159, 1), (185, -1)] S G S8 (up G9 159 this 1 z11) := (gr_up g16 rfl)
    exact r_retR hX hP rfl rfl (by first | exact Or.inl ⟨_, rfl⟩ | exact Or.inr ⟨_, rfl⟩) (by first | decide | omega) (by first | decide | omega) ⟨g18, z11, rfl, z11s, (h17).symm, q12⟩
  · skip
    exfalso; omega
set_option maxRecDepth 100000 in
set_option maxHeartbeats 4000000 in
theorem c_gr0_Lna_4 (E : En) (S : Sg) (G : Gh) (this : Int) (hS : S this = 159) (ed : Int) (ed_e : ed = G 159 this 1) (ed_s : S ed = 184) (sz_e : 49 = G 159 this 2) : Calls E mJx4a65c_grow_d5877 [(2, this)] S G 10 1 73 (fun r S' G' => Gr [185] [(159, 1), (185, -1)] S G S' G' ∧ ∃ z : Int, r = some (2, z) ∧ S' z = 185 ∧ G' 159 this 1 = z ∧ (∀ i : Int, 0 ≤ i → i < 49 → G' 185 z i = G 184 ed i)) := by
  refine calls_by [(0, (2, this))] rfl rfl (Nat.le_of_ble_eq_true rfl) (fun X hX => ?_)
  have hP := hPJx4a65c_grow_d5877
  refine r_ex hX hP 2 (pc' := 2) (st' := [(2, this), (2, this)]) (lo' := [(0, (2, this))]) rfl ?_
  refine r_getKI hX hP rfl fl_Jx4a65c_48_159 hS (x := 49) sz_e ?_
  refine r_ex hX hP 2 (pc' := 7) (st' := [(0, (49 + 1)), (2, this)]) (lo' := [(0, (2, this))]) rfl ?_
  refine r_callV gd hX hP rfl cv_Jx4a65c_69_159 hS (d' := 8) (mc' := 1) (ms' := 73) (as' := [(0, (49 + 1))]) (st := []) (by first | decide | omega) (by first | decide | omega) (by first | decide | omega) rfl rfl (Nat.le_of_ble_eq_true rfl) (c_gri_Lna_4 E S G this (49 + 1) hS (by first | decide | omega) (by first | decide | omega) ed ed_e ed_s) ?_
  rintro _ S1 G2 ⟨g3, z4, rfl, z4s, q5, q6⟩
  have s7 : S1 this = 159 := gr_lab g3 hS (by decide)
  have s8 : S1 ed = 184 := gr_lab g3 ed_s (by decide)
  have e9 : 49 = G2 159 this 2 := gr_val g3 sz_e hS (by decide) rfl
  have g10 : Gr [185] [(159, 1), (185, -1)] S G S1 G2 := gr_call (gr_refl [185] [(159, 1), (185, -1)] S G) g3 rfl rfl
  have e11 : z4 = G2 159 this 1 := q5.symm
  exact r_retR hX hP rfl rfl (by first | exact Or.inl ⟨_, rfl⟩ | exact Or.inr ⟨_, rfl⟩) (by first | decide | omega) (by first | decide | omega) ⟨g10, z4, rfl, z4s, q5, q6⟩
