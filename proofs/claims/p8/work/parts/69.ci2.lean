set_option maxRecDepth 100000 in
set_option maxHeartbeats 4000000 in
theorem ci_st {E : En} {S : Sg} {G G' : Gh} {t ka qa ix w u : Int} (h : CI E S G) (ht : S t = 136) (hka : ka = G 136 t 3) (hqa : qa = G 136 t 5) (hc : (w ≠ 0 ∧ w ≠ 4) ∨ (0 ≤ u ∧ u ≤ 19)) (hk : ∀ a j : Int, G' 120 a j = up G 120 ka ix w 120 a j) (hq : ∀ a j : Int, G' 121 a j = up G 121 qa ix u 121 a j) (h136_3 : ∀ a : Int, G' 136 a 3 = G 136 a 3) (h136_5 : ∀ a : Int, G' 136 a 5 = G 136 a 5) (h138_2 : ∀ a : Int, G' 138 a 2 = G 138 a 2) (h154_1 : ∀ a : Int, G' 154 a 1 = G 154 a 1) (h154_2 : ∀ a : Int, G' 154 a 2 = G 154 a 2) (h155_1 : ∀ a : Int, G' 155 a 1 = G 155 a 1) (h155_2 : ∀ a : Int, G' 155 a 2 = G 155 a 2) (h156_1 : ∀ a : Int, G' 156 a 1 = G 156 a 1) (h156_2 : ∀ a : Int, G' 156 a 2 = G 156 a 2) (h157_1 : ∀ a : Int, G' 157 a 1 = G 157 a 1) (h157_2 : ∀ a : Int, G' 157 a 2 = G 157 a 2) (h158_1 : ∀ a : Int, G' 158 a 1 = G 158 a 1) (h158_2 : ∀ a : Int, G' 158 a 2 = G 158 a 2) (h159_1 : ∀ a : Int, G' 159 a 1 = G 159 a 1) (h159_2 : ∀ a : Int, G' 159 a 2 = G 159 a 2) (h160 : ∀ a j : Int, G' 160 a j = G 160 a j) (h161 : ∀ a j : Int, G' 161 a j = G 161 a j) (h162 : ∀ a j : Int, G' 162 a j = G 162 a j) (h163 : ∀ a j : Int, G' 163 a j = G 163 a j) (h164 : ∀ a j : Int, G' 164 a j = G 164 a j) (h165 : ∀ a j : Int, G' 165 a j = G 165 a j) (h166 : ∀ a j : Int, G' 166 a j = G 166 a j) (h167 : ∀ a j : Int, G' 167 a j = G 167 a j) (h168 : ∀ a j : Int, G' 168 a j = G 168 a j) (h169 : ∀ a j : Int, G' 169 a j = G 169 a j) (h170 : ∀ a j : Int, G' 170 a j = G 170 a j) (h171 : ∀ a j : Int, G' 171 a j = G 171 a j) (h172 : ∀ a j : Int, G' 172 a j = G 172 a j) (h173 : ∀ a j : Int, G' 173 a j = G 173 a j) (h174 : ∀ a j : Int, G' 174 a j = G 174 a j) (h175 : ∀ a j : Int, G' 175 a j = G 175 a j) (h176 : ∀ a j : Int, G' 176 a j = G 176 a j) (h177 : ∀ a j : Int, G' 177 a j = G 177 a j) (h178 : ∀ a j : Int, G' 178 a j = G 178 a j) (h179 : ∀ a j : Int, G' 179 a j = G 179 a j) (h180 : ∀ a j : Int, G' 180 a j = G 180 a j) (h181 : ∀ a j : Int, G' 181 a j = G 181 a j) (h182 : ∀ a j : Int, G' 182 a j = G 182 a j) (h183 : ∀ a j : Int, G' 183 a j = G 183 a j) (h184 : ∀ a j : Int, G' 184 a j = G 184 a j) (h185 : ∀ a j : Int, G' 185 a j = G 185 a j) : CI E S G' := by
  subst hka hqa
  unfold CI UQ CL0 CL1 CL2 CL3 CL4 CL5 CT CTI CP at *
  simp only [h136_3, h136_5, h138_2, h154_1, h154_2, h155_1, h155_2, h156_1, h156_2, h157_1, h157_2, h158_1, h158_2, h159_1, h159_2, h160, h161, h162, h163, h164, h165, h166, h167, h168, h169, h170, h171, h172, h173, h174, h175, h176, h177, h178, h179, h180, h181, h182, h183, h184, h185]
  obtain ⟨a0, a1, a2, a3, a4, a5, a6, a7, a8, a9⟩ := h
  refine ⟨a0, a1, a2, a3, a4, a5, a6, ?_, a8, a9⟩
  intro t' ht' i i0 i1 hh
  rw [hk] at hh
  rw [hq]
  by_cases e : i = ix
  · subst e
    by_cases et : t' = t
    · subst et
      rw [up_self] at hh
      rw [up_self]
      omega
    · rw [up_ne (fun z => et (a8 _ _ ht' ht (Or.inl z.2.1)))] at hh
      rw [up_ne (fun z => et (a8 _ _ ht' ht (Or.inr z.2.1)))]
      exact a7 t' ht' i i0 i1 hh
  · rw [up_ne (fun z => e z.2.2)] at hh
    rw [up_ne (fun z => e z.2.2)]
    exact a7 t' ht' i i0 i1 hh
