/-! THE REFERENCE'S TOLD OPERATIONS OVER WHAT IS TOLD -/
theorem l_issue (E : En) (S : Sg) (G : Gh) (a p d sh w k : Int) (hS : S (Ad E 1) = 1) (a_a : -2147483648 ≤ a) (a_b : a ≤ 2147483647) (p_a : -2147483648 ≤ p) (p_b : p ≤ 2147483647) (d_a : -2147483648 ≤ d) (d_b : d ≤ 2147483647) (sh_a : -2147483648 ≤ sh) (sh_b : sh ≤ 2147483647) (w_a : -2147483648 ≤ w) (w_b : w ≤ 2147483647) (k_a : -2147483648 ≤ k) (k_b : k ≤ 2147483647) (tz : Tz) (h : RelM E G tz) : Calls E mX12_issue [(2, (Ad E 1)), (0, a), (0, p), (0, d), (0, sh), (0, w), (0, k)] S G 2 0 0 (fun r S' G' => S = S' ∧ (∃ G1, hv [0, 1, 3, 7] [5, 6, 7, 8, 9, 10] G G1 = G') ∧ ∃ z : Int, r = some (0, z) ∧ 0 ≤ z ∧ z ≤ 1 ∧ z = (tIss tz a p d sh w k).2 ∧ RelM E G' (tIss tz a p d sh w k).1) := by
  obtain ⟨n0, n1, n2, n3, n4, n5⟩ := h
  obtain ⟨c0, c1, c2, c3, c4, c5, c6, c7, c8, c9, c10, c11⟩ := n0
  refine calls_mono (c_X12_issueT E S G a p d sh w k hS (G 1 (Ad E 1) 6) rfl (G 1 (Ad E 1) 7) rfl (G 1 (Ad E 1) 3) rfl a_a a_b p_a p_b d_a d_b sh_a sh_b w_a w_b k_a k_b) ?_
  rintro r S' G' ⟨rfl, ⟨g, rfl⟩, z, rfl, s2, x1, l2, x2, za, zb, hz⟩
  have io := oIss_iff tz a p d sh w k
  by_cases ho : oIss tz a p d sh w k = true
  · have hV : z = 1 ∧ s2 = tz 1 0 + 1 ∧ l2 = k := by
      have o := io.mp ho
      clear io ho
      omega
    have ev : tIss tz a p d sh w k = (tOne tz 1 k, 1) := if_pos ho
    clear hz io
    rw [ev]
    exact ⟨rfl, ⟨g, rfl⟩, z, rfl, za, zb, hV.1, ⟨⟨c0, (x1.symm.trans hV.2.1), c2, c3, c4, c5, c6, (x2.symm.trans hV.2.2), c8, c9, c10, c11⟩, (m1_keep n1 rfl (fun _ => rfl) : M1 E (hv [0, 1, 3, 7] [5, 6, 7, 8, 9, 10] G g) tz), (m2_keep n2 rfl (fun _ => rfl) (fun _ => rfl) : M2 E (hv [0, 1, 3, 7] [5, 6, 7, 8, 9, 10] G g) tz), (m3_keep n3 rfl (fun _ => rfl) : M3 E (hv [0, 1, 3, 7] [5, 6, 7, 8, 9, 10] G g) tz), (m4_keep n4 rfl (fun _ => rfl) (fun _ => rfl) (fun _ => rfl) (fun _ => rfl) : M4 E (hv [0, 1, 3, 7] [5, 6, 7, 8, 9, 10] G g) tz), (m5_keep n5 rfl (fun _ => rfl) : M5 E (hv [0, 1, 3, 7] [5, 6, 7, 8, 9, 10] G g) tz)⟩⟩
  · have hV : z = 0 ∧ s2 = tz 1 0 ∧ l2 = tz 7 0 := by
      have o := mt io.mpr ho
      clear io ho
      omega
    have ev : tIss tz a p d sh w k = (tz, 0) := if_neg ho
    clear hz io
    rw [ev]
    exact ⟨rfl, ⟨g, rfl⟩, z, rfl, za, zb, hV.1, ⟨⟨c0, (x1.symm.trans hV.2.1), c2, c3, c4, c5, c6, (x2.symm.trans hV.2.2), c8, c9, c10, c11⟩, (m1_keep n1 rfl (fun _ => rfl) : M1 E (hv [0, 1, 3, 7] [5, 6, 7, 8, 9, 10] G g) tz), (m2_keep n2 rfl (fun _ => rfl) (fun _ => rfl) : M2 E (hv [0, 1, 3, 7] [5, 6, 7, 8, 9, 10] G g) tz), (m3_keep n3 rfl (fun _ => rfl) : M3 E (hv [0, 1, 3, 7] [5, 6, 7, 8, 9, 10] G g) tz), (m4_keep n4 rfl (fun _ => rfl) (fun _ => rfl) (fun _ => rfl) (fun _ => rfl) : M4 E (hv [0, 1, 3, 7] [5, 6, 7, 8, 9, 10] G g) tz), (m5_keep n5 rfl (fun _ => rfl) : M5 E (hv [0, 1, 3, 7] [5, 6, 7, 8, 9, 10] G g) tz)⟩⟩
theorem l_trade (E : En) (S : Sg) (G : Gh) (f t p sh dl se k : Int) (hS : S (Ad E 1) = 1) (f_a : -2147483648 ≤ f) (f_b : f ≤ 2147483647) (t_a : -2147483648 ≤ t) (t_b : t ≤ 2147483647) (p_a : -2147483648 ≤ p) (p_b : p ≤ 2147483647) (sh_a : -2147483648 ≤ sh) (sh_b : sh ≤ 2147483647) (dl_a : -2147483648 ≤ dl) (dl_b : dl ≤ 2147483647) (se_a : -2147483648 ≤ se) (se_b : se ≤ 2147483647) (k_a : -2147483648 ≤ k) (k_b : k ≤ 2147483647) (mi : MI E G) (tz : Tz) (h : RelM E G tz) : Calls E mX12_trade [(2, (Ad E 1)), (0, f), (0, t), (0, p), (0, sh), (0, dl), (0, se), (0, k)] S G 2 0 0 (fun r S' G' => S = S' ∧ (∃ G1, hv [0, 1, 3, 8] [11, 12, 13, 14, 15, 16, 17, 18] G G1 = G') ∧ ∃ z : Int, r = some (0, z) ∧ (-2147483648) ≤ z ∧ z ≤ 2147483647 ∧ z = (tTrd tz f t p sh dl se k).2 ∧ RelM E G' (tTrd tz f t p sh dl se k).1 ∧ MI E G') := by
  obtain ⟨n0, n1, n2, n3, n4, n5⟩ := h
  obtain ⟨c0, c1, c2, c3, c4, c5, c6, c7, c8, c9, c10, c11⟩ := n0
  refine calls_mono (c_X12_tradeT E S G f t p sh dl se k hS (G 1 (Ad E 1) 6) rfl (G 1 (Ad E 1) 8) rfl (G 1 (Ad E 1) 3) rfl f_a f_b t_a t_b p_a p_b sh_a sh_b dl_a dl_b se_a se_b k_a k_b mi) ?_
  rintro r S' G' ⟨rfl, ⟨g, rfl⟩, z, rfl, s2, x1, l2, x2, za, zb, hz, kp, nw, mi'⟩
  rw [c2] at kp nw
  have io := oTrd_iff tz f t p sh dl se k
  by_cases ho : oTrd tz f t p sh dl se k = true
  · have hV : z = tz 2 0 ∧ s2 = tz 2 0 + 1 ∧ l2 = k := by
      have o := io.mp ho
      clear io ho
      omega
    have ev : tTrd tz f t p sh dl se k = (tOne (tu tz 20 (tz 2 0) (-1)) 2 k, tz 2 0) := if_pos ho
    clear hz io
    rw [ev]
    have m1 : M1 E (hv [0, 1, 3, 8] [11, 12, 13, 14, 15, 16, 17, 18] G g) (tOne (tu tz 20 (tz 2 0) (-1)) 2 k) := by
      intro i i0 i1
      rw [← x1] at i1
      by_cases cc : i = tz 2 0
      · rw [cc]
        exact Or.inl ⟨tu_at tz 20 (tz 2 0) (-1), nw.resolve_left (by first | decide | omega)⟩
      · have q := n1 i i0 (by first | decide | omega)
        rw [← kp i cc, ← tu_ni (t := tz) (c := 20) (v := -1) (c' := 20) cc] at q
        exact q
    exact ⟨rfl, ⟨g, rfl⟩, z, rfl, za, zb, hV.1, ⟨⟨c0, c1, (x1.symm.trans hV.2.1), c3, c4, c5, c6, (x2.symm.trans hV.2.2), c8, c9, c10, c11⟩, m1, (m2_keep n2 rfl (fun _ => rfl) (fun _ => rfl) : M2 E (hv [0, 1, 3, 8] [11, 12, 13, 14, 15, 16, 17, 18] G g) tz), (m3_keep n3 rfl (fun _ => rfl) : M3 E (hv [0, 1, 3, 8] [11, 12, 13, 14, 15, 16, 17, 18] G g) tz), (m4_keep n4 rfl (fun _ => rfl) (fun _ => rfl) (fun _ => rfl) (fun _ => rfl) : M4 E (hv [0, 1, 3, 8] [11, 12, 13, 14, 15, 16, 17, 18] G g) tz), (m5_keep n5 rfl (fun _ => rfl) : M5 E (hv [0, 1, 3, 8] [11, 12, 13, 14, 15, 16, 17, 18] G g) tz)⟩, mi'⟩
  · have hV : z = -1 ∧ s2 = tz 2 0 ∧ l2 = tz 7 0 := by
      have o := mt io.mpr ho
      clear io ho
      omega
    have ev : tTrd tz f t p sh dl se k = (tz, -1) := if_neg ho
    clear hz io
    rw [ev]
    have m1 : M1 E (hv [0, 1, 3, 8] [11, 12, 13, 14, 15, 16, 17, 18] G g) (tz) := by
      intro i i0 i1
      rw [← x1] at i1
      have q := n1 i i0 (by first | decide | omega)
      rw [← kp i (by first | decide | omega)] at q
      exact q
    exact ⟨rfl, ⟨g, rfl⟩, z, rfl, za, zb, hV.1, ⟨⟨c0, c1, (x1.symm.trans hV.2.1), c3, c4, c5, c6, (x2.symm.trans hV.2.2), c8, c9, c10, c11⟩, m1, (m2_keep n2 rfl (fun _ => rfl) (fun _ => rfl) : M2 E (hv [0, 1, 3, 8] [11, 12, 13, 14, 15, 16, 17, 18] G g) tz), (m3_keep n3 rfl (fun _ => rfl) : M3 E (hv [0, 1, 3, 8] [11, 12, 13, 14, 15, 16, 17, 18] G g) tz), (m4_keep n4 rfl (fun _ => rfl) (fun _ => rfl) (fun _ => rfl) (fun _ => rfl) : M4 E (hv [0, 1, 3, 8] [11, 12, 13, 14, 15, 16, 17, 18] G g) tz), (m5_keep n5 rfl (fun _ => rfl) : M5 E (hv [0, 1, 3, 8] [11, 12, 13, 14, 15, 16, 17, 18] G g) tz)⟩, mi'⟩
theorem l_option (E : En) (S : Sg) (G : Gh) (p d s n k : Int) (hS : S (Ad E 1) = 1) (p_a : -2147483648 ≤ p) (p_b : p ≤ 2147483647) (d_a : -2147483648 ≤ d) (d_b : d ≤ 2147483647) (s_a : -2147483648 ≤ s) (s_b : s ≤ 2147483647) (n_a : -2147483648 ≤ n) (n_b : n ≤ 2147483647) (k_a : -2147483648 ≤ k) (k_b : k ≤ 2147483647) (mi : MI E G) (tz : Tz) (h : RelM E G tz) : Calls E mX12_option [(2, (Ad E 1)), (0, p), (0, d), (0, s), (0, n), (0, k)] S G 2 0 0 (fun r S' G' => S = S' ∧ (∃ G1, hv [0, 1, 3, 11] [44, 45, 46, 47, 48] G G1 = G') ∧ ∃ z : Int, r = some (0, z) ∧ (-2147483648) ≤ z ∧ z ≤ 2147483647 ∧ z = (tOpt tz p d s n k).2 ∧ RelM E G' (tOpt tz p d s n k).1 ∧ MI E G') := by
  obtain ⟨n0, n1, n2, n3, n4, n5⟩ := h
  obtain ⟨c0, c1, c2, c3, c4, c5, c6, c7, c8, c9, c10, c11⟩ := n0
  refine calls_mono (c_X12_optionT E S G p d s n k hS (G 1 (Ad E 1) 11) rfl (G 1 (Ad E 1) 3) rfl p_a p_b d_a d_b s_a s_b n_a n_b k_a k_b mi) ?_
  rintro r S' G' ⟨rfl, ⟨g, rfl⟩, z, rfl, s2, x1, l2, x2, za, zb, hz, mi'⟩
  have io := oOpt_iff tz p d s n k
  by_cases ho : oOpt tz p d s n k = true
  · have hV : z = tz 5 0 ∧ s2 = tz 5 0 + 1 ∧ l2 = k := by
      have o := io.mp ho
      clear io ho
      omega
    have ev : tOpt tz p d s n k = (tOne tz 5 k, tz 5 0) := if_pos ho
    clear hz io
    rw [ev]
    exact ⟨rfl, ⟨g, rfl⟩, z, rfl, za, zb, hV.1, ⟨⟨c0, c1, c2, c3, c4, (x1.symm.trans hV.2.1), c6, (x2.symm.trans hV.2.2), c8, c9, c10, c11⟩, (m1_keep n1 rfl (fun _ => rfl) : M1 E (hv [0, 1, 3, 11] [44, 45, 46, 47, 48] G g) tz), (m2_keep n2 rfl (fun _ => rfl) (fun _ => rfl) : M2 E (hv [0, 1, 3, 11] [44, 45, 46, 47, 48] G g) tz), (m3_keep n3 rfl (fun _ => rfl) : M3 E (hv [0, 1, 3, 11] [44, 45, 46, 47, 48] G g) tz), (m4_keep n4 rfl (fun _ => rfl) (fun _ => rfl) (fun _ => rfl) (fun _ => rfl) : M4 E (hv [0, 1, 3, 11] [44, 45, 46, 47, 48] G g) tz), (m5_keep n5 rfl (fun _ => rfl) : M5 E (hv [0, 1, 3, 11] [44, 45, 46, 47, 48] G g) tz)⟩, mi'⟩
  · have hV : z = -1 ∧ s2 = tz 5 0 ∧ l2 = tz 7 0 := by
      have o := mt io.mpr ho
      clear io ho
      omega
    have ev : tOpt tz p d s n k = (tz, -1) := if_neg ho
    clear hz io
    rw [ev]
    exact ⟨rfl, ⟨g, rfl⟩, z, rfl, za, zb, hV.1, ⟨⟨c0, c1, c2, c3, c4, (x1.symm.trans hV.2.1), c6, (x2.symm.trans hV.2.2), c8, c9, c10, c11⟩, (m1_keep n1 rfl (fun _ => rfl) : M1 E (hv [0, 1, 3, 11] [44, 45, 46, 47, 48] G g) tz), (m2_keep n2 rfl (fun _ => rfl) (fun _ => rfl) : M2 E (hv [0, 1, 3, 11] [44, 45, 46, 47, 48] G g) tz), (m3_keep n3 rfl (fun _ => rfl) : M3 E (hv [0, 1, 3, 11] [44, 45, 46, 47, 48] G g) tz), (m4_keep n4 rfl (fun _ => rfl) (fun _ => rfl) (fun _ => rfl) (fun _ => rfl) : M4 E (hv [0, 1, 3, 11] [44, 45, 46, 47, 48] G g) tz), (m5_keep n5 rfl (fun _ => rfl) : M5 E (hv [0, 1, 3, 11] [44, 45, 46, 47, 48] G g) tz)⟩, mi'⟩
theorem l_name (E : En) (S : Sg) (G : Gh) (p n d k : Int) (hS : S (Ad E 1) = 1) (p_a : -2147483648 ≤ p) (p_b : p ≤ 2147483647) (n_a : -2147483648 ≤ n) (n_b : n ≤ 2147483647) (d_a : -2147483648 ≤ d) (d_b : d ≤ 2147483647) (k_a : -2147483648 ≤ k) (k_b : k ≤ 2147483647) (tz : Tz) (h : RelM E G tz) : Calls E mX12_name [(2, (Ad E 1)), (0, p), (0, n), (0, d), (0, k)] S G 2 0 0 (fun r S' G' => S = S' ∧ (∃ G1, hv [0, 1, 3, 12] [50, 51, 52, 53] G G1 = G') ∧ ∃ z : Int, r = some (0, z) ∧ 0 ≤ z ∧ z ≤ 1 ∧ z = (tNam tz p n d k).2 ∧ RelM E G' (tNam tz p n d k).1) := by
  obtain ⟨n0, n1, n2, n3, n4, n5⟩ := h
  obtain ⟨c0, c1, c2, c3, c4, c5, c6, c7, c8, c9, c10, c11⟩ := n0
  refine calls_mono (c_X12_nameT E S G p n d k hS (G 1 (Ad E 1) 12) rfl (G 1 (Ad E 1) 3) rfl p_a p_b n_a n_b d_a d_b k_a k_b) ?_
  rintro r S' G' ⟨rfl, ⟨g, rfl⟩, z, rfl, s2, x1, l2, x2, za, zb, hz, kp, nw⟩
  rw [c6] at kp nw
  have io := oNam_iff tz p n d k
  by_cases ho : oNam tz p n d k = true
  · have hV : z = 1 ∧ s2 = tz 6 0 + 1 ∧ l2 = k := by
      have o := io.mp ho
      clear io ho
      omega
    have ev : tNam tz p n d k = (tOne (tu (tu (tu (tu tz 30 (tz 6 0) p) 31 (tz 6 0) d) 32 (tz 6 0) n) 33 (tz 6 0) k) 6 k, 1) := if_pos ho
    clear hz io
    rw [ev]
    have m4 : M4 E (hv [0, 1, 3, 12] [50, 51, 52, 53] G g) (tOne (tu (tu (tu (tu tz 30 (tz 6 0) p) 31 (tz 6 0) d) 32 (tz 6 0) n) 33 (tz 6 0) k) 6 k) := by
      intro i i0 i1
      rw [← x1] at i1
      by_cases cc : i = tz 6 0
      · rw [cc]
        obtain ⟨y1, y2, y3, y4⟩ := nw.resolve_left (by first | decide | omega)
        exact ⟨y1.trans (tu_at tz 30 (tz 6 0) p).symm, y2.trans (tu_at (tu tz 30 (tz 6 0) p) 31 (tz 6 0) d).symm, y3.trans (tu_at (tu (tu tz 30 (tz 6 0) p) 31 (tz 6 0) d) 32 (tz 6 0) n).symm, y4.trans (tu_at (tu (tu (tu tz 30 (tz 6 0) p) 31 (tz 6 0) d) 32 (tz 6 0) n) 33 (tz 6 0) k).symm⟩
      · obtain ⟨y1, y2, y3, y4⟩ := n4 i i0 (by first | decide | omega)
        obtain ⟨z1, z2, z3, z4⟩ := kp i cc
        exact ⟨z1.trans (y1.trans (tu_ni (t := tz) (c := 30) (v := p) (c' := 30) cc).symm), z2.trans (y2.trans (tu_ni (t := (tu tz 30 (tz 6 0) p)) (c := 31) (v := d) (c' := 31) cc).symm), z3.trans (y3.trans (tu_ni (t := (tu (tu tz 30 (tz 6 0) p) 31 (tz 6 0) d)) (c := 32) (v := n) (c' := 32) cc).symm), z4.trans (y4.trans (tu_ni (t := (tu (tu (tu tz 30 (tz 6 0) p) 31 (tz 6 0) d) 32 (tz 6 0) n)) (c := 33) (v := k) (c' := 33) cc).symm)⟩
    exact ⟨rfl, ⟨g, rfl⟩, z, rfl, za, zb, hV.1, ⟨⟨c0, c1, c2, c3, c4, c5, (x1.symm.trans hV.2.1), (x2.symm.trans hV.2.2), c8, c9, c10, c11⟩, (m1_keep n1 rfl (fun _ => rfl) : M1 E (hv [0, 1, 3, 12] [50, 51, 52, 53] G g) tz), (m2_keep n2 rfl (fun _ => rfl) (fun _ => rfl) : M2 E (hv [0, 1, 3, 12] [50, 51, 52, 53] G g) tz), (m3_keep n3 rfl (fun _ => rfl) : M3 E (hv [0, 1, 3, 12] [50, 51, 52, 53] G g) tz), m4, (m5_keep n5 rfl (fun _ => rfl) : M5 E (hv [0, 1, 3, 12] [50, 51, 52, 53] G g) tz)⟩⟩
  · have hV : z = 0 ∧ s2 = tz 6 0 ∧ l2 = tz 7 0 := by
      have o := mt io.mpr ho
      clear io ho
      omega
    have ev : tNam tz p n d k = (tz, 0) := if_neg ho
    clear hz io
    rw [ev]
    have m4 : M4 E (hv [0, 1, 3, 12] [50, 51, 52, 53] G g) (tz) := by
      intro i i0 i1
      rw [← x1] at i1
      obtain ⟨y1, y2, y3, y4⟩ := n4 i i0 (by first | decide | omega)
      obtain ⟨z1, z2, z3, z4⟩ := kp i (by first | decide | omega)
      exact ⟨z1.trans y1, z2.trans y2, z3.trans y3, z4.trans y4⟩
    exact ⟨rfl, ⟨g, rfl⟩, z, rfl, za, zb, hV.1, ⟨⟨c0, c1, c2, c3, c4, c5, (x1.symm.trans hV.2.1), (x2.symm.trans hV.2.2), c8, c9, c10, c11⟩, (m1_keep n1 rfl (fun _ => rfl) : M1 E (hv [0, 1, 3, 12] [50, 51, 52, 53] G g) tz), (m2_keep n2 rfl (fun _ => rfl) (fun _ => rfl) : M2 E (hv [0, 1, 3, 12] [50, 51, 52, 53] G g) tz), (m3_keep n3 rfl (fun _ => rfl) : M3 E (hv [0, 1, 3, 12] [50, 51, 52, 53] G g) tz), m4, (m5_keep n5 rfl (fun _ => rfl) : M5 E (hv [0, 1, 3, 12] [50, 51, 52, 53] G g) tz)⟩⟩
theorem l_choose (E : En) (S : Sg) (G : Gh) (e a ch d k : Int) (hS : S (Ad E 1) = 1) (e_a : -2147483648 ≤ e) (e_b : e ≤ 2147483647) (a_a : -2147483648 ≤ a) (a_b : a ≤ 2147483647) (ch_a : -2147483648 ≤ ch) (ch_b : ch ≤ 2147483647) (d_a : -2147483648 ≤ d) (d_b : d ≤ 2147483647) (k_a : -2147483648 ≤ k) (k_b : k ≤ 2147483647) (mi : MI E G) (tz : Tz) (h : RelM E G tz) : Calls E mX12_choose [(2, (Ad E 1)), (0, e), (0, a), (0, ch), (0, d), (0, k)] S G 2 0 0 (fun r S' G' => S = S' ∧ (∃ G1, hv [0, 1, 3, 10] [38, 39, 40, 41, 42, 43] G G1 = G') ∧ ∃ z : Int, r = some (0, z) ∧ (-2147483648) ≤ z ∧ z ≤ 2147483647 ∧ z = (tChs tz e a ch d k).2 ∧ RelM E G' (tChs tz e a ch d k).1 ∧ MI E G') := by
  obtain ⟨n0, n1, n2, n3, n4, n5⟩ := h
  obtain ⟨c0, c1, c2, c3, c4, c5, c6, c7, c8, c9, c10, c11⟩ := n0
  refine calls_mono (c_X12_chooseT E S G e a ch d k hS (G 1 (Ad E 1) 10) rfl (G 1 (Ad E 1) 6) rfl (G 1 (Ad E 1) 9) rfl (G 1 (Ad E 1) 3) rfl e_a e_b a_a a_b ch_a ch_b d_a d_b k_a k_b mi) ?_
  rintro r S' G' ⟨rfl, ⟨g, rfl⟩, z, rfl, s2, x1, l2, x2, za, zb, hz, kp, nw, mi'⟩
  have lk : ¬ (0 ≤ e ∧ e < tz 3 0) ∨ G 27 (Ad E 27) e = tz 23 e := by
    by_cases he : 0 ≤ e ∧ e < tz 3 0
    · exact Or.inr (n2 e he.1 (by first | decide | omega)).2
    · exact Or.inl he
  rw [c4] at kp nw
  have io := oChs_iff tz e a ch d k
  by_cases ho : oChs tz e a ch d k = true
  · have hV : z = tz 4 0 ∧ s2 = tz 4 0 + 1 ∧ l2 = k := by
      have o := io.mp ho
      clear io ho
      omega
    have ev : tChs tz e a ch d k = (tOne (tu tz 22 (tz 4 0) (-1)) 4 k, tz 4 0) := if_pos ho
    clear hz io
    rw [ev]
    have m3 : M3 E (hv [0, 1, 3, 10] [38, 39, 40, 41, 42, 43] G g) (tOne (tu tz 22 (tz 4 0) (-1)) 4 k) := by
      intro i i0 i1
      rw [← x1] at i1
      by_cases cc : i = tz 4 0
      · rw [cc]
        exact Or.inl ⟨tu_at tz 22 (tz 4 0) (-1), nw.resolve_left (by first | decide | omega)⟩
      · have q := n3 i i0 (by first | decide | omega)
        rw [← kp i cc, ← tu_ni (t := tz) (c := 22) (v := -1) (c' := 22) cc] at q
        exact q
    exact ⟨rfl, ⟨g, rfl⟩, z, rfl, za, zb, hV.1, ⟨⟨c0, c1, c2, c3, (x1.symm.trans hV.2.1), c5, c6, (x2.symm.trans hV.2.2), c8, c9, c10, c11⟩, (m1_keep n1 rfl (fun _ => rfl) : M1 E (hv [0, 1, 3, 10] [38, 39, 40, 41, 42, 43] G g) tz), (m2_keep n2 rfl (fun _ => rfl) (fun _ => rfl) : M2 E (hv [0, 1, 3, 10] [38, 39, 40, 41, 42, 43] G g) tz), m3, (m4_keep n4 rfl (fun _ => rfl) (fun _ => rfl) (fun _ => rfl) (fun _ => rfl) : M4 E (hv [0, 1, 3, 10] [38, 39, 40, 41, 42, 43] G g) tz), (m5_keep n5 rfl (fun _ => rfl) : M5 E (hv [0, 1, 3, 10] [38, 39, 40, 41, 42, 43] G g) tz)⟩, mi'⟩
  · have hV : z = -1 ∧ s2 = tz 4 0 ∧ l2 = tz 7 0 := by
      have o := mt io.mpr ho
      clear io ho
      omega
    have ev : tChs tz e a ch d k = (tz, -1) := if_neg ho
    clear hz io
    rw [ev]
    have m3 : M3 E (hv [0, 1, 3, 10] [38, 39, 40, 41, 42, 43] G g) (tz) := by
      intro i i0 i1
      rw [← x1] at i1
      have q := n3 i i0 (by first | decide | omega)
      rw [← kp i (by first | decide | omega)] at q
      exact q
    exact ⟨rfl, ⟨g, rfl⟩, z, rfl, za, zb, hV.1, ⟨⟨c0, c1, c2, c3, (x1.symm.trans hV.2.1), c5, c6, (x2.symm.trans hV.2.2), c8, c9, c10, c11⟩, (m1_keep n1 rfl (fun _ => rfl) : M1 E (hv [0, 1, 3, 10] [38, 39, 40, 41, 42, 43] G g) tz), (m2_keep n2 rfl (fun _ => rfl) (fun _ => rfl) : M2 E (hv [0, 1, 3, 10] [38, 39, 40, 41, 42, 43] G g) tz), m3, (m4_keep n4 rfl (fun _ => rfl) (fun _ => rfl) (fun _ => rfl) (fun _ => rfl) : M4 E (hv [0, 1, 3, 10] [38, 39, 40, 41, 42, 43] G g) tz), (m5_keep n5 rfl (fun _ => rfl) : M5 E (hv [0, 1, 3, 10] [38, 39, 40, 41, 42, 43] G g) tz)⟩, mi'⟩
theorem l_account (E : En) (S : Sg) (G : Gh) (u l d : Int) (hS : S (Ad E 1) = 1) (u_a : -2147483648 ≤ u) (u_b : u ≤ 2147483647) (l_a : -2147483648 ≤ l) (l_b : l ≤ 2147483647) (d_a : -2147483648 ≤ d) (d_b : d ≤ 2147483647) (mi : MI E G) (tz : Tz) (h : RelM E G tz) : Calls E mX12_account [(2, (Ad E 1)), (0, u), (0, l), (0, d)] S G 2 0 0 (fun r S' G' => S = S' ∧ (∃ G1, hv [0, 1, 6] [2, 3, 4] G G1 = G') ∧ ∃ z : Int, r = some (0, z) ∧ -1 ≤ z ∧ z ≤ 19 ∧ z = (tAcc tz u l d).2 ∧ RelM E G' (tAcc tz u l d).1 ∧ MI E G') := by
  obtain ⟨n0, n1, n2, n3, n4, n5⟩ := h
  obtain ⟨c0, c1, c2, c3, c4, c5, c6, c7, c8, c9, c10, c11⟩ := n0
  refine calls_mono (c_X12_accountX E S G u l d hS (G 1 (Ad E 1) 6) rfl u_a u_b l_a l_b d_a d_b mi) ?_
  rintro r S' G' ⟨rfl, ⟨g, rfl⟩, z, rfl, s2, x1, hz, mi'⟩
  have io := oAcc_iff tz u l d
  by_cases ho : oAcc tz u l d = true
  · have hV : z = tz 0 0 ∧ s2 = tz 0 0 + 1 ∧ -1 ≤ z ∧ z ≤ 19 := by
      have o := io.mp ho
      clear io ho
      omega
    have ev : tAcc tz u l d = (tu tz 0 0 (tz 0 0 + 1), tz 0 0) := if_pos ho
    clear hz io
    rw [ev]
    exact ⟨rfl, ⟨g, rfl⟩, z, rfl, hV.2.2.1, hV.2.2.2, hV.1, ⟨⟨(x1.symm.trans hV.2.1), c1, c2, c3, c4, c5, c6, c7, c8, c9, c10, c11⟩, (m1_keep n1 rfl (fun _ => rfl) : M1 E (hv [0, 1, 6] [2, 3, 4] G g) tz), (m2_keep n2 rfl (fun _ => rfl) (fun _ => rfl) : M2 E (hv [0, 1, 6] [2, 3, 4] G g) tz), (m3_keep n3 rfl (fun _ => rfl) : M3 E (hv [0, 1, 6] [2, 3, 4] G g) tz), (m4_keep n4 rfl (fun _ => rfl) (fun _ => rfl) (fun _ => rfl) (fun _ => rfl) : M4 E (hv [0, 1, 6] [2, 3, 4] G g) tz), (m5_keep n5 rfl (fun _ => rfl) : M5 E (hv [0, 1, 6] [2, 3, 4] G g) tz)⟩, mi'⟩
  · have hV : z = -1 ∧ s2 = tz 0 0 ∧ -1 ≤ z ∧ z ≤ 19 := by
      have o := mt io.mpr ho
      clear io ho
      omega
    have ev : tAcc tz u l d = (tz, -1) := if_neg ho
    clear hz io
    rw [ev]
    exact ⟨rfl, ⟨g, rfl⟩, z, rfl, hV.2.2.1, hV.2.2.2, hV.1, ⟨⟨(x1.symm.trans hV.2.1), c1, c2, c3, c4, c5, c6, c7, c8, c9, c10, c11⟩, (m1_keep n1 rfl (fun _ => rfl) : M1 E (hv [0, 1, 6] [2, 3, 4] G g) tz), (m2_keep n2 rfl (fun _ => rfl) (fun _ => rfl) : M2 E (hv [0, 1, 6] [2, 3, 4] G g) tz), (m3_keep n3 rfl (fun _ => rfl) : M3 E (hv [0, 1, 6] [2, 3, 4] G g) tz), (m4_keep n4 rfl (fun _ => rfl) (fun _ => rfl) (fun _ => rfl) (fun _ => rfl) : M4 E (hv [0, 1, 6] [2, 3, 4] G g) tz), (m5_keep n5 rfl (fun _ => rfl) : M5 E (hv [0, 1, 6] [2, 3, 4] G g) tz)⟩, mi'⟩
theorem l_asof (E : En) (S : Sg) (G : Gh) (d : Int) (hS : S (Ad E 1) = 1) (d_a : -2147483648 ≤ d) (d_b : d ≤ 2147483647) (tz : Tz) (h : RelM E G tz) : Calls E mX12_asof [(2, (Ad E 1)), (0, d)] S G 2 0 0 (fun r S' G' => S = S' ∧ (∃ G1, hv [0, 1, 2] [] G G1 = G') ∧ ∃ z : Int, r = some (0, z) ∧ 0 ≤ z ∧ z ≤ 1 ∧ z = (tAso tz d).2 ∧ RelM E G' (tAso tz d).1) := by
  obtain ⟨n0, n1, n2, n3, n4, n5⟩ := h
  obtain ⟨c0, c1, c2, c3, c4, c5, c6, c7, c8, c9, c10, c11⟩ := n0
  refine calls_mono (c_X12_asofT E S G d hS (G 1 (Ad E 1) 2) rfl d_a d_b) ?_
  rintro r S' G' ⟨rfl, ⟨g, rfl⟩, z, rfl, a2, x1, za, zb, hz⟩
  by_cases ho : iDay d = true
  · have o : 0 ≤ d ∧ d ≤ 40000 := of_decide_eq_true ho
    have hV : z = 1 ∧ a2 = d := by
      clear ho
      omega
    have ev : tAso tz d = (tu tz 9 0 d, 1) := if_pos ho
    rw [ev]
    exact ⟨rfl, ⟨g, rfl⟩, z, rfl, za, zb, hV.1, ⟨⟨c0, c1, c2, c3, c4, c5, c6, c7, c8, (x1.symm.trans hV.2), c10, c11⟩, (m1_keep n1 rfl (fun _ => rfl) : M1 E (hv [0, 1, 2] [] G g) tz), (m2_keep n2 rfl (fun _ => rfl) (fun _ => rfl) : M2 E (hv [0, 1, 2] [] G g) tz), (m3_keep n3 rfl (fun _ => rfl) : M3 E (hv [0, 1, 2] [] G g) tz), (m4_keep n4 rfl (fun _ => rfl) (fun _ => rfl) (fun _ => rfl) (fun _ => rfl) : M4 E (hv [0, 1, 2] [] G g) tz), (m5_keep n5 rfl (fun _ => rfl) : M5 E (hv [0, 1, 2] [] G g) tz)⟩⟩
  · have o : ¬ (0 ≤ d ∧ d ≤ 40000) := fun q => ho (decide_eq_true q)
    have hV : z = 0 ∧ a2 = tz 9 0 := by
      clear ho
      omega
    have ev : tAso tz d = (tz, 0) := if_neg ho
    rw [ev]
    exact ⟨rfl, ⟨g, rfl⟩, z, rfl, za, zb, hV.1, ⟨⟨c0, c1, c2, c3, c4, c5, c6, c7, c8, (x1.symm.trans hV.2), c10, c11⟩, (m1_keep n1 rfl (fun _ => rfl) : M1 E (hv [0, 1, 2] [] G g) tz), (m2_keep n2 rfl (fun _ => rfl) (fun _ => rfl) : M2 E (hv [0, 1, 2] [] G g) tz), (m3_keep n3 rfl (fun _ => rfl) : M3 E (hv [0, 1, 2] [] G g) tz), (m4_keep n4 rfl (fun _ => rfl) (fun _ => rfl) (fun _ => rfl) (fun _ => rfl) : M4 E (hv [0, 1, 2] [] G g) tz), (m5_keep n5 rfl (fun _ => rfl) : M5 E (hv [0, 1, 2] [] G g) tz)⟩⟩
theorem l_fault (E : En) (S : Sg) (G : Gh) (w : Int) (hS : S (Ad E 1) = 1) (w_a : -2147483648 ≤ w) (w_b : w ≤ 2147483647) (tz : Tz) (h : RelM E G tz) : Calls E mX12_fault [(2, (Ad E 1)), (0, w)] S G 0 0 0 (fun r S' G' => S = S' ∧ (∃ G1, hv [1] [] G G1 = G') ∧ ∃ z : Int, r = some (0, z) ∧ (-2147483648) ≤ z ∧ z ≤ 2147483647 ∧ z = ((tz, tFau tz w)).2 ∧ RelM E G' ((tz, tFau tz w)).1) := by
  obtain ⟨n0, n1, n2, n3, n4, n5⟩ := h
  obtain ⟨c0, c1, c2, c3, c4, c5, c6, c7, c8, c9, c10, c11⟩ := n0
  refine calls_mono (c_X12_faultT E S G w hS (G 1 (Ad E 1) 78) rfl (G 1 (Ad E 1) 79) rfl w_a w_b) ?_
  rintro r S' G' ⟨rfl, ⟨g, rfl⟩, z, rfl, za, zb, hz⟩
  have hV : z = tFau tz w := by
    unfold tFau
    rcases hz with ⟨q, hz⟩ | ⟨q, hz⟩ | ⟨q, q2, hz⟩
    · rw [if_pos q]
      exact hz.trans c10
    · rw [if_neg (by first | decide | omega), if_pos q]
      exact hz.trans c11
    · rw [if_neg q, if_neg q2]
      exact hz
  exact ⟨rfl, ⟨g, rfl⟩, z, rfl, za, zb, hV, ⟨⟨c0, c1, c2, c3, c4, c5, c6, c7, c8, c9, c10, c11⟩, (m1_keep n1 rfl (fun _ => rfl) : M1 E (hv [1] [] G g) tz), (m2_keep n2 rfl (fun _ => rfl) (fun _ => rfl) : M2 E (hv [1] [] G g) tz), (m3_keep n3 rfl (fun _ => rfl) : M3 E (hv [1] [] G g) tz), (m4_keep n4 rfl (fun _ => rfl) (fun _ => rfl) (fun _ => rfl) (fun _ => rfl) : M4 E (hv [1] [] G g) tz), (m5_keep n5 rfl (fun _ => rfl) : M5 E (hv [1] [] G g) tz)⟩⟩
theorem l_choices (E : En) (S : Sg) (G : Gh) (e : Int) (hS : S (Ad E 1) = 1) (e_a : -2147483648 ≤ e) (e_b : e ≤ 2147483647) (tz : Tz) (h : RelM E G tz) : Calls E mX12_choices [(2, (Ad E 1)), (0, e)] S G 2 0 0 (fun r S' G' => S = S' ∧ (∃ G1, hv [0, 1] [] G G1 = G') ∧ ∃ z : Int, r = some (0, z) ∧ (-2147483648) ≤ z ∧ z ≤ 2147483647 ∧ z = ((tz, tCho tz e)).2 ∧ RelM E G' ((tz, tCho tz e)).1) := by
  obtain ⟨n0, n1, n2, n3, n4, n5⟩ := h
  obtain ⟨c0, c1, c2, c3, c4, c5, c6, c7, c8, c9, c10, c11⟩ := n0
  refine calls_mono (c_X12_choicesT E S G e hS (G 1 (Ad E 1) 9) rfl e_a e_b) ?_
  rintro r S' G' ⟨rfl, ⟨g, rfl⟩, z, rfl, za, zb, hz⟩
  have hV : z = tCho tz e := by
    unfold tCho iIn
    rcases hz with ⟨w1, w2, hz⟩ | ⟨hz, w⟩
    · rw [if_pos (decide_eq_true ⟨w1, by omega⟩)]
      exact hz.trans (n2 e w1 w2).2
    · rw [if_neg (fun q => w (by have := of_decide_eq_true q; omega))]
      exact hz
  exact ⟨rfl, ⟨g, rfl⟩, z, rfl, za, zb, hV, ⟨⟨c0, c1, c2, c3, c4, c5, c6, c7, c8, c9, c10, c11⟩, (m1_keep n1 rfl (fun _ => rfl) : M1 E (hv [0, 1] [] G g) tz), (m2_keep n2 rfl (fun _ => rfl) (fun _ => rfl) : M2 E (hv [0, 1] [] G g) tz), (m3_keep n3 rfl (fun _ => rfl) : M3 E (hv [0, 1] [] G g) tz), (m4_keep n4 rfl (fun _ => rfl) (fun _ => rfl) (fun _ => rfl) (fun _ => rfl) : M4 E (hv [0, 1] [] G g) tz), (m5_keep n5 rfl (fun _ => rfl) : M5 E (hv [0, 1] [] G g) tz)⟩⟩
theorem l_called (E : En) (S : Sg) (G : Gh) (p d : Int) (hS : S (Ad E 1) = 1) (p_a : -2147483648 ≤ p) (p_b : p ≤ 2147483647) (d_a : -2147483648 ≤ d) (d_b : d ≤ 2147483647) (tz : Tz) (h : RelM E G tz) : Calls E mX12_called [(2, (Ad E 1)), (0, p), (0, d)] S G 2 0 0 (fun r S' G' => S = S' ∧ (∃ G1, hv [0, 1] [] G G1 = G') ∧ ∃ z : Int, r = some (0, z) ∧ (-2147483648) ≤ z ∧ z ≤ 2147483647 ∧ z = ((tz, tCld tz p d)).2 ∧ RelM E G' ((tz, tCld tz p d)).1) := by
  obtain ⟨n0, n1, n2, n3, n4, n5⟩ := h
  obtain ⟨c0, c1, c2, c3, c4, c5, c6, c7, c8, c9, c10, c11⟩ := n0
  refine calls_mono (c_X12_calledT E S G p d hS (G 1 (Ad E 1) 12) rfl (G 1 (Ad E 1) 2) rfl p_a p_b d_a d_b tz n4 c6.symm c9) ?_
  rintro r S' G' ⟨rfl, ⟨g, rfl⟩, z, rfl, za, zb, hz⟩
  exact ⟨rfl, ⟨g, rfl⟩, z, rfl, za, zb, hz, ⟨⟨c0, c1, c2, c3, c4, c5, c6, c7, c8, c9, c10, c11⟩, (m1_keep n1 rfl (fun _ => rfl) : M1 E (hv [0, 1] [] G g) tz), (m2_keep n2 rfl (fun _ => rfl) (fun _ => rfl) : M2 E (hv [0, 1] [] G g) tz), (m3_keep n3 rfl (fun _ => rfl) : M3 E (hv [0, 1] [] G g) tz), (m4_keep n4 rfl (fun _ => rfl) (fun _ => rfl) (fun _ => rfl) (fun _ => rfl) : M4 E (hv [0, 1] [] G g) tz), (m5_keep n5 rfl (fun _ => rfl) : M5 E (hv [0, 1] [] G g) tz)⟩⟩
theorem l_find (E : En) (S : Sg) (G : Gh) (n d k : Int) (hS : S (Ad E 1) = 1) (n_a : -2147483648 ≤ n) (n_b : n ≤ 2147483647) (d_a : -2147483648 ≤ d) (d_b : d ≤ 2147483647) (k_a : -2147483648 ≤ k) (k_b : k ≤ 2147483647) (tz : Tz) (h : RelM E G tz) : Calls E mX12_find [(2, (Ad E 1)), (0, n), (0, d), (0, k)] S G 2 0 0 (fun r S' G' => S = S' ∧ (∃ G1, hv [0, 1] [] G G1 = G') ∧ ∃ z : Int, r = some (0, z) ∧ (-2147483648) ≤ z ∧ z ≤ 2147483647 ∧ z = ((tz, tFnd tz n d k)).2 ∧ RelM E G' ((tz, tFnd tz n d k)).1) := by
  obtain ⟨n0, n1, n2, n3, n4, n5⟩ := h
  obtain ⟨c0, c1, c2, c3, c4, c5, c6, c7, c8, c9, c10, c11⟩ := n0
  refine calls_mono (c_X12_findT E S G n d k hS (G 1 (Ad E 1) 12) rfl (G 1 (Ad E 1) 2) rfl n_a n_b d_a d_b k_a k_b tz n4 c6.symm c9) ?_
  rintro r S' G' ⟨rfl, ⟨g, rfl⟩, z, rfl, za, zb, hz⟩
  exact ⟨rfl, ⟨g, rfl⟩, z, rfl, za, zb, hz, ⟨⟨c0, c1, c2, c3, c4, c5, c6, c7, c8, c9, c10, c11⟩, (m1_keep n1 rfl (fun _ => rfl) : M1 E (hv [0, 1] [] G g) tz), (m2_keep n2 rfl (fun _ => rfl) (fun _ => rfl) : M2 E (hv [0, 1] [] G g) tz), (m3_keep n3 rfl (fun _ => rfl) : M3 E (hv [0, 1] [] G g) tz), (m4_keep n4 rfl (fun _ => rfl) (fun _ => rfl) (fun _ => rfl) (fun _ => rfl) : M4 E (hv [0, 1] [] G g) tz), (m5_keep n5 rfl (fun _ => rfl) : M5 E (hv [0, 1] [] G g) tz)⟩⟩
theorem l_feed (E : En) (S : Sg) (G : Gh) (a b c d e : Int) (hS : S (Ad E 1) = 1) (a_a : -2147483648 ≤ a) (a_b : a ≤ 2147483647) (b_a : -2147483648 ≤ b) (b_b : b ≤ 2147483647) (c_a : -2147483648 ≤ c) (c_b : c ≤ 2147483647) (d_a : -2147483648 ≤ d) (d_b : d ≤ 2147483647) (e_a : -2147483648 ≤ e) (e_b : e ≤ 2147483647) (tz : Tz) (h : RelM E G tz) : Calls E mX12_feed [(2, (Ad E 1)), (0, a), (0, b), (0, c), (0, d), (0, e)] S G 1 0 0 (fun r S' G' => S = S' ∧ (∃ G1, hv [1, 76] [61] G G1 = G') ∧ ∃ z : Int, r = some (0, z) ∧ (-2147483648) ≤ z ∧ z ≤ 2147483647 ∧ z = (tFed tz a b c d e).2 ∧ RelM E G' (tFed tz a b c d e).1) := by
  obtain ⟨n0, n1, n2, n3, n4, n5⟩ := h
  obtain ⟨c0, c1, c2, c3, c4, c5, c6, c7, c8, c9, c10, c11⟩ := n0
  refine calls_mono (c_X12_feedT E S G a b c d e hS (G 1 (Ad E 1) 76) rfl a_a a_b b_a b_b c_a c_b d_a d_b e_a e_b) ?_
  rintro r S' G' ⟨rfl, ⟨g, rfl⟩, z, rfl, n2_, x1, za, zb, hz, hy⟩
  obtain ⟨l8, l40⟩ := lay_5 (T := fun j => G 61 (Ad E 61) j % 256) (t := tz) (fun i i0 i1 => n5 i i0 (by first | decide | omega)) c8 a b c d e
  rw [tFed_if]
  by_cases ho : 400 < tz 8 0 + 20
  · have hV : z = -1 ∧ n2_ = tz 8 0 := by omega
    rw [if_pos ho]
    have m5 : M5 E (hv [1, 76] [61] G g) tz := by
      intro i i0 i1
      rw [← x1] at i1
      rw [(hy.resolve_right (fun q => by omega)).2 i]
      exact n5 i i0 (by first | decide | omega)
    exact ⟨rfl, ⟨g, rfl⟩, z, rfl, za, zb, hV.1, ⟨⟨c0, c1, c2, c3, c4, c5, c6, c7, (x1.symm.trans hV.2), c9, c10, c11⟩, (m1_keep n1 rfl (fun _ => rfl) : M1 E (hv [1, 76] [61] G g) tz), (m2_keep n2 rfl (fun _ => rfl) (fun _ => rfl) : M2 E (hv [1, 76] [61] G g) tz), (m3_keep n3 rfl (fun _ => rfl) : M3 E (hv [1, 76] [61] G g) tz), (m4_keep n4 rfl (fun _ => rfl) (fun _ => rfl) (fun _ => rfl) (fun _ => rfl) : M4 E (hv [1, 76] [61] G g) tz), m5⟩⟩
  · have hV : z = tz 8 0 + 20 ∧ n2_ = tz 8 0 + 20 := by omega
    rw [if_neg ho]
    have m5 : M5 E (hv [1, 76] [61] G g) (tL5 tz a b c d e) := by
      intro i i0 i1
      rw [← x1] at i1
      exact ((hy.resolve_left (fun q => by omega)).2 i).trans (l40 i i0 (by first | decide | omega))
    exact ⟨rfl, ⟨g, rfl⟩, z, rfl, za, zb, hV.1, ⟨⟨c0, c1, c2, c3, c4, c5, c6, c7, (x1.symm.trans (hV.2.trans l8.symm)), c9, c10, c11⟩, (m1_keep n1 rfl (fun _ => rfl) : M1 E (hv [1, 76] [61] G g) tz), (m2_keep n2 rfl (fun _ => rfl) (fun _ => rfl) : M2 E (hv [1, 76] [61] G g) tz), (m3_keep n3 rfl (fun _ => rfl) : M3 E (hv [1, 76] [61] G g) tz), (m4_keep n4 rfl (fun _ => rfl) (fun _ => rfl) (fun _ => rfl) (fun _ => rfl) : M4 E (hv [1, 76] [61] G g) tz), m5⟩⟩
theorem l_strike (E : En) (S : Sg) (G : Gh) (w i k : Int) (hS : S (Ad E 1) = 1) (w_a : -2147483648 ≤ w) (w_b : w ≤ 2147483647) (i_a : -2147483648 ≤ i) (i_b : i ≤ 2147483647) (k_a : -2147483648 ≤ k) (k_b : k ≤ 2147483647) (tz : Tz) (h : RelM E G tz) : Calls E mX12_strike [(2, (Ad E 1)), (0, w), (0, i), (0, k)] S G 2 0 0 (fun r S' G' => S = S' ∧ (∃ G1, hv [0, 1, 3] [18, 25, 43] G G1 = G') ∧ ∃ z : Int, r = some (0, z) ∧ 0 ≤ z ∧ z ≤ 1 ∧ z = (tStk tz w i k).2 ∧ RelM E G' (tStk tz w i k).1) := by
  obtain ⟨n0, n1, n2, n3, n4, n5⟩ := h
  obtain ⟨c0, c1, c2, c3, c4, c5, c6, c7, c8, c9, c10, c11⟩ := n0
  refine calls_mono (c_X12_strikeT E S G w i k hS (G 1 (Ad E 1) 8) rfl (G 1 (Ad E 1) 9) rfl (G 1 (Ad E 1) 10) rfl (G 1 (Ad E 1) 3) rfl w_a w_b i_a i_b k_a k_b) ?_
  rintro r S' G' ⟨rfl, ⟨g, rfl⟩, z, rfl, l2, x1, za, zb, hz⟩
  have io := oStk_iff tz w i k
  by_cases ho : oStk tz w i k = true
  · have o := io.mp ho
    have ev : tStk tz w i k = (tu (tu tz (20 + w) i k) 7 0 k, 1) := if_pos ho
    rw [ev]
    clear io ho ev
    obtain ⟨o1, o2, o3, o4, o5, o6, o7, o8⟩ := o
    rcases hz with ⟨z1, z2, z3, z4, hz⟩ | ⟨-, -, -, hz⟩
    rotate_left
    · exfalso
      apply hz
      refine ⟨o5, o6, by omega, ?_⟩
      rcases (by omega : w = 0 ∨ w = 1 ∨ w = 2) with cw | cw | cw
      · subst cw
        rw [if_pos rfl] at o4
        have q := n1 i o3 (by first | decide | omega)
        rw [show tz 20 i = -1 from o8] at q
        exact Or.inl ⟨rfl, o3, by omega, by omega⟩
      · subst cw
        rw [if_neg (by decide), if_pos rfl] at o4
        have q := (n2 i o3 (by first | decide | omega)).1
        rw [show tz 21 i = -1 from o8] at q
        exact Or.inr (Or.inl ⟨rfl, o3, by omega, by omega⟩)
      · subst cw
        rw [if_neg (by decide), if_neg (by decide)] at o4
        have q := n3 i o3 (by first | decide | omega)
        rw [show tz 22 i = -1 from o8] at q
        exact Or.inr (Or.inr ⟨rfl, o3, by omega, by omega⟩)
    rcases hz with ⟨v1, v2, v3, v4, v5, s1, s2, s3⟩ | ⟨v1, v2, v3, v4, v5, s1, s2, s3⟩ | ⟨v1, v2, v3, v4, v5, s1, s2, s3⟩
    · subst v2
      rw [show (20 : Int) + 0 = 20 from rfl]
      obtain ⟨i_, ei⟩ : ∃ j : Int, j = i := ⟨i, rfl⟩
      obtain ⟨k_, ek⟩ : ∃ j : Int, j = k := ⟨k, rfl⟩
      rw [← ei] at s1 s2 ⊢
      rw [← ek] at s1 z1 z2 z4 ⊢
      have m1 : M1 E (hv [0, 1, 3] [18, 25, 43] G g) (tu (tu tz 20 i_ k_) 7 0 k_) := by
        intro i i0 i1
        have q := n1 i i0 i1
        by_cases cc : i = i_
        · have s1 := s1
          rw [← cc] at s1
          have e : tu tz 20 i_ k_ 20 i = k_ := by rw [cc]; exact tu_at tz 20 i_ k_
          exact Or.inr ⟨Int.le_trans z1 (Int.le_of_eq e.symm), Int.le_trans (Int.le_of_eq e) z2, s1.trans e.symm⟩
        · rw [← s2 i cc, ← tu_ni (t := tz) (c := 20) (v := k_) (c' := 20) cc] at q
          exact q
      have m2 : M2 E (hv [0, 1, 3] [18, 25, 43] G g) (tu (tu tz 20 i_ k_) 7 0 k_) := by
        intro i i0 i1
        have q := n2 i i0 i1
        rw [← (s3 i).1] at q
        exact q
      have m3 : M3 E (hv [0, 1, 3] [18, 25, 43] G g) (tu (tu tz 20 i_ k_) 7 0 k_) := by
        intro i i0 i1
        have q := n3 i i0 i1
        rw [← (s3 i).2] at q
        exact q
      exact ⟨rfl, ⟨g, rfl⟩, z, rfl, za, zb, v1, ⟨⟨c0, c1, c2, c3, c4, c5, c6, (x1.symm.trans z4), c8, c9, c10, c11⟩, m1, m2, m3, (m4_keep n4 rfl (fun _ => rfl) (fun _ => rfl) (fun _ => rfl) (fun _ => rfl) : M4 E (hv [0, 1, 3] [18, 25, 43] G g) tz), (m5_keep n5 rfl (fun _ => rfl) : M5 E (hv [0, 1, 3] [18, 25, 43] G g) tz)⟩⟩
    · subst v2
      rw [show (20 : Int) + 1 = 21 from rfl]
      obtain ⟨i_, ei⟩ : ∃ j : Int, j = i := ⟨i, rfl⟩
      obtain ⟨k_, ek⟩ : ∃ j : Int, j = k := ⟨k, rfl⟩
      rw [← ei] at s1 s2 ⊢
      rw [← ek] at s1 z1 z2 z4 ⊢
      have m1 : M1 E (hv [0, 1, 3] [18, 25, 43] G g) (tu (tu tz 21 i_ k_) 7 0 k_) := by
        intro i i0 i1
        have q := n1 i i0 i1
        rw [← (s3 i).1] at q
        exact q
      have m2 : M2 E (hv [0, 1, 3] [18, 25, 43] G g) (tu (tu tz 21 i_ k_) 7 0 k_) := by
        intro i i0 i1
        have q := n2 i i0 i1
        by_cases cc : i = i_
        · have s1 := s1
          rw [← cc] at s1
          have e : tu tz 21 i_ k_ 21 i = k_ := by rw [cc]; exact tu_at tz 21 i_ k_
          exact ⟨Or.inr ⟨Int.le_trans z1 (Int.le_of_eq e.symm), Int.le_trans (Int.le_of_eq e) z2, s1.trans e.symm⟩, (q.2)⟩
        · rw [← s2 i cc, ← tu_ni (t := tz) (c := 21) (v := k_) (c' := 21) cc] at q
          exact q
      have m3 : M3 E (hv [0, 1, 3] [18, 25, 43] G g) (tu (tu tz 21 i_ k_) 7 0 k_) := by
        intro i i0 i1
        have q := n3 i i0 i1
        rw [← (s3 i).2] at q
        exact q
      exact ⟨rfl, ⟨g, rfl⟩, z, rfl, za, zb, v1, ⟨⟨c0, c1, c2, c3, c4, c5, c6, (x1.symm.trans z4), c8, c9, c10, c11⟩, m1, m2, m3, (m4_keep n4 rfl (fun _ => rfl) (fun _ => rfl) (fun _ => rfl) (fun _ => rfl) : M4 E (hv [0, 1, 3] [18, 25, 43] G g) tz), (m5_keep n5 rfl (fun _ => rfl) : M5 E (hv [0, 1, 3] [18, 25, 43] G g) tz)⟩⟩
    · subst v2
      rw [show (20 : Int) + 2 = 22 from rfl]
      obtain ⟨i_, ei⟩ : ∃ j : Int, j = i := ⟨i, rfl⟩
      obtain ⟨k_, ek⟩ : ∃ j : Int, j = k := ⟨k, rfl⟩
      rw [← ei] at s1 s2 ⊢
      rw [← ek] at s1 z1 z2 z4 ⊢
      have m1 : M1 E (hv [0, 1, 3] [18, 25, 43] G g) (tu (tu tz 22 i_ k_) 7 0 k_) := by
        intro i i0 i1
        have q := n1 i i0 i1
        rw [← (s3 i).1] at q
        exact q
      have m2 : M2 E (hv [0, 1, 3] [18, 25, 43] G g) (tu (tu tz 22 i_ k_) 7 0 k_) := by
        intro i i0 i1
        have q := n2 i i0 i1
        rw [← (s3 i).2] at q
        exact q
      have m3 : M3 E (hv [0, 1, 3] [18, 25, 43] G g) (tu (tu tz 22 i_ k_) 7 0 k_) := by
        intro i i0 i1
        have q := n3 i i0 i1
        by_cases cc : i = i_
        · have s1 := s1
          rw [← cc] at s1
          have e : tu tz 22 i_ k_ 22 i = k_ := by rw [cc]; exact tu_at tz 22 i_ k_
          exact Or.inr ⟨Int.le_trans z1 (Int.le_of_eq e.symm), Int.le_trans (Int.le_of_eq e) z2, s1.trans e.symm⟩
        · rw [← s2 i cc, ← tu_ni (t := tz) (c := 22) (v := k_) (c' := 22) cc] at q
          exact q
      exact ⟨rfl, ⟨g, rfl⟩, z, rfl, za, zb, v1, ⟨⟨c0, c1, c2, c3, c4, c5, c6, (x1.symm.trans z4), c8, c9, c10, c11⟩, m1, m2, m3, (m4_keep n4 rfl (fun _ => rfl) (fun _ => rfl) (fun _ => rfl) (fun _ => rfl) : M4 E (hv [0, 1, 3] [18, 25, 43] G g) tz), (m5_keep n5 rfl (fun _ => rfl) : M5 E (hv [0, 1, 3] [18, 25, 43] G g) tz)⟩⟩
  · have ev : tStk tz w i k = (tz, 0) := if_neg ho
    rw [ev]
    rcases hz with ⟨z1, z2, z3, z4, hz⟩ | ⟨z1, z2, sm, -⟩
    · exfalso
      apply ho
      apply io.mpr
      rcases hz with ⟨v1, v2, v3, v4, v5, -⟩ | ⟨v1, v2, v3, v4, v5, -⟩ | ⟨v1, v2, v3, v4, v5, -⟩
      · subst v2
        have q := n1 i v3 v4
        exact ⟨by decide, by decide, v3, by rw [if_pos rfl]; omega, z1, z2, by omega, show tz 20 i = -1 from by omega⟩
      · subst v2
        have q := (n2 i v3 v4).1
        exact ⟨by decide, by decide, v3, by rw [if_neg (by decide), if_pos rfl]; omega, z1, z2, by omega, show tz 21 i = -1 from by omega⟩
      · subst v2
        have q := n3 i v3 v4
        exact ⟨by decide, by decide, v3, by rw [if_neg (by decide), if_neg (by decide)]; omega, z1, z2, by omega, show tz 22 i = -1 from by omega⟩
    · skip
      have m1 : M1 E (hv [0, 1, 3] [18, 25, 43] G g) (tz) := by
        intro i i0 i1
        have q := n1 i i0 i1
        rw [← (sm i).1] at q
        exact q
      have m2 : M2 E (hv [0, 1, 3] [18, 25, 43] G g) (tz) := by
        intro i i0 i1
        have q := n2 i i0 i1
        rw [← (sm i).2.1] at q
        exact q
      have m3 : M3 E (hv [0, 1, 3] [18, 25, 43] G g) (tz) := by
        intro i i0 i1
        have q := n3 i i0 i1
        rw [← (sm i).2.2] at q
        exact q
      exact ⟨rfl, ⟨g, rfl⟩, z, rfl, za, zb, z1, ⟨⟨c0, c1, c2, c3, c4, c5, c6, (x1.symm.trans (z2.trans c7)), c8, c9, c10, c11⟩, m1, m2, m3, (m4_keep n4 rfl (fun _ => rfl) (fun _ => rfl) (fun _ => rfl) (fun _ => rfl) : M4 E (hv [0, 1, 3] [18, 25, 43] G g) tz), (m5_keep n5 rfl (fun _ => rfl) : M5 E (hv [0, 1, 3] [18, 25, 43] G g) tz)⟩⟩
theorem l_event (E : En) (S : Sg) (G : Gh) (p nn ex rec last known : Int) (hS : S (Ad E 1) = 1) (p_a : -2147483648 ≤ p) (p_b : p ≤ 2147483647) (nn_a : -2147483648 ≤ nn) (nn_b : nn ≤ 2147483647) (ex_a : -2147483648 ≤ ex) (ex_b : ex ≤ 2147483647) (rec_a : -2147483648 ≤ rec) (rec_b : rec ≤ 2147483647) (last_a : -2147483648 ≤ last) (last_b : last ≤ 2147483647) (known_a : -2147483648 ≤ known) (known_b : known ≤ 2147483647) (mi : MI E G) (tz : Tz) (h : RelM E G tz) (TT : Tp) (tp : ∀ i : Int, 0 ≤ i → i < tz 8 0 → tz 40 i = TT i) : Calls E mX12_event [(2, (Ad E 1)), (0, p), (0, nn), (0, ex), (0, rec), (0, last), (0, known)] S G 40 0 0 (fun r S' G' => S = S' ∧ (∃ G1, hv [0, 1, 3, 9, 76, 77, 78, 79, 80, 81, 82, 83, 84, 85, 86, 87, 88, 89, 90, 91, 92] [20, 21, 22, 23, 24, 25, 26, 27, 28, 29, 30, 31, 32, 33, 34, 35, 36, 37, 62, 63, 64, 65, 66, 67, 68, 69, 70, 71] G G1 = G') ∧ ∃ z : Int, r = some (0, z) ∧ (-2147483648) ≤ z ∧ z ≤ 2147483647 ∧ z = (tEvt tz (pIt TT nn 401 (ud pS0 0 0)) p nn ex rec last known).2 ∧ RelM E G' (tEvt tz (pIt TT nn 401 (ud pS0 0 0)) p nn ex rec last known).1 ∧ MI E G') := by
  obtain ⟨n0, n1, n2, n3, n4, n5⟩ := h
  obtain ⟨c0, c1, c2, c3, c4, c5, c6, c7, c8, c9, c10, c11⟩ := n0
  refine calls_mono (c_X12_eventT E S G p nn ex rec last known hS (G 1 (Ad E 1) 9) rfl (G 1 (Ad E 1) 3) rfl (G 1 (Ad E 1) 76) rfl (G 1 (Ad E 1) 78) rfl (G 1 (Ad E 1) 79) rfl p_a p_b nn_a nn_b ex_a ex_b rec_a rec_b last_a last_b known_a known_b mi TT (fun i i0 i1 => (n5 i i0 i1).trans (tp i i0 (by first | decide | omega)))) ?_
  rintro r S' G' ⟨rfl, ⟨g, rfl⟩, z, rfl, s2, x1, l2, x2, n2_, x3, f2, x4, p2, x5, za, zb, hz, kp, nw, mi'⟩
  generalize (pIt TT nn 401 (ud pS0 0 0)) = Fz at hz nw ⊢
  rw [c3] at kp nw
  have io := oEvt_iff tz p nn ex rec last known
  by_cases ho : oEvt tz p nn ex rec last known = true
  · have o := io.mp ho
    have hV : n2_ = 0 ∧ f2 = Fz 1 ∧ p2 = Fz 2 ∧ ((Fz 1 ≠ 0 ∧ z = -1 ∧ s2 = tz 3 0 ∧ l2 = tz 7 0) ∨ (Fz 1 = 0 ∧ z = tz 3 0 ∧ s2 = tz 3 0 + 1 ∧ l2 = known)) := by
      clear io ho
      rcases hz with ⟨-, -, -, -, -, -, -, -, -, -, -, -, -, -, -, -, -, w1, w2, w3, w4⟩ | ⟨-, -, -, -, -, -, w⟩
      · exact ⟨w1, w2, w3, by omega⟩
      · exfalso
        omega
    clear hz io
    have m5 : ∀ u : Tz, M5 E (hv [0, 1, 3, 9, 76, 77, 78, 79, 80, 81, 82, 83, 84, 85, 86, 87, 88, 89, 90, 91, 92] [20, 21, 22, 23, 24, 25, 26, 27, 28, 29, 30, 31, 32, 33, 34, 35, 36, 37, 62, 63, 64, 65, 66, 67, 68, 69, 70, 71] G g) u := by
      intro u i i0 i1
      rw [← x3] at i1
      omega
    rcases hV with ⟨v1, v2, v3, ⟨v4, v5, v6, v7⟩ | ⟨v4, v5, v6, v7⟩⟩
    · have ev : tEvt tz Fz p nn ex rec last known = (tRed tz Fz, -1) := by unfold tEvt; rw [if_pos ho, if_neg v4]
      rw [ev]
      have m2 : M2 E (hv [0, 1, 3, 9, 76, 77, 78, 79, 80, 81, 82, 83, 84, 85, 86, 87, 88, 89, 90, 91, 92] [20, 21, 22, 23, 24, 25, 26, 27, 28, 29, 30, 31, 32, 33, 34, 35, 36, 37, 62, 63, 64, 65, 66, 67, 68, 69, 70, 71] G g) (tRed tz Fz) := by
        intro i i0 i1
        rw [← x1] at i1
        have q := n2 i i0 (by first | decide | omega)
        rw [← (kp i (by first | decide | omega)).1, ← (kp i (by first | decide | omega)).2] at q
        exact q
      exact ⟨rfl, ⟨g, rfl⟩, z, rfl, za, zb, v5, ⟨⟨c0, c1, c2, (x1.symm.trans v6), c4, c5, c6, (x2.symm.trans v7), (x3.symm.trans v1), c9, (x4.symm.trans (v2.trans (tRed_10 tz Fz).symm)), (x5.symm.trans (v3.trans (tRed_11 tz Fz).symm))⟩, (m1_keep n1 rfl (fun _ => rfl) : M1 E (hv [0, 1, 3, 9, 76, 77, 78, 79, 80, 81, 82, 83, 84, 85, 86, 87, 88, 89, 90, 91, 92] [20, 21, 22, 23, 24, 25, 26, 27, 28, 29, 30, 31, 32, 33, 34, 35, 36, 37, 62, 63, 64, 65, 66, 67, 68, 69, 70, 71] G g) tz), m2, (m3_keep n3 rfl (fun _ => rfl) : M3 E (hv [0, 1, 3, 9, 76, 77, 78, 79, 80, 81, 82, 83, 84, 85, 86, 87, 88, 89, 90, 91, 92] [20, 21, 22, 23, 24, 25, 26, 27, 28, 29, 30, 31, 32, 33, 34, 35, 36, 37, 62, 63, 64, 65, 66, 67, 68, 69, 70, 71] G g) tz), (m4_keep n4 rfl (fun _ => rfl) (fun _ => rfl) (fun _ => rfl) (fun _ => rfl) : M4 E (hv [0, 1, 3, 9, 76, 77, 78, 79, 80, 81, 82, 83, 84, 85, 86, 87, 88, 89, 90, 91, 92] [20, 21, 22, 23, 24, 25, 26, 27, 28, 29, 30, 31, 32, 33, 34, 35, 36, 37, 62, 63, 64, 65, 66, 67, 68, 69, 70, 71] G g) tz), m5 _⟩, mi'⟩
    · have ev : tEvt tz Fz p nn ex rec last known = (tOne (tu (tu (tu (tRed tz Fz) 21 (tz 3 0) (-1)) 23 (tz 3 0) (Fz 4)) 24 (tz 3 0) (Fz 5)) 3 known, tz 3 0) := by unfold tEvt; rw [if_pos ho, if_pos v4]
      rw [ev]
      have m2 : M2 E (hv [0, 1, 3, 9, 76, 77, 78, 79, 80, 81, 82, 83, 84, 85, 86, 87, 88, 89, 90, 91, 92] [20, 21, 22, 23, 24, 25, 26, 27, 28, 29, 30, 31, 32, 33, 34, 35, 36, 37, 62, 63, 64, 65, 66, 67, 68, 69, 70, 71] G g) (tOne (tu (tu (tu (tRed tz Fz) 21 (tz 3 0) (-1)) 23 (tz 3 0) (Fz 4)) 24 (tz 3 0) (Fz 5)) 3 known) := by
        intro i i0 i1
        rw [← x1] at i1
        by_cases cc : i = tz 3 0
        · rw [cc]
          obtain ⟨y1, y2⟩ := nw.resolve_left (by first | decide | omega)
          exact ⟨Or.inl ⟨tu_at (tRed tz Fz) 21 (tz 3 0) (-1), y1⟩, y2.trans (tu_at (tu (tRed tz Fz) 21 (tz 3 0) (-1)) 23 (tz 3 0) (Fz 4)).symm⟩
        · have q := n2 i i0 (by first | decide | omega)
          rw [← (kp i cc).1, ← (kp i cc).2] at q
          have e1 : tz 21 i = (tu (tRed tz Fz) 21 (tz 3 0) (-1)) 21 i := (tu_ni (t := (tRed tz Fz)) (c := 21) (v := -1) (c' := 21) cc).symm
          have e2 : tz 23 i = (tu (tu (tRed tz Fz) 21 (tz 3 0) (-1)) 23 (tz 3 0) (Fz 4)) 23 i := (tu_ni (t := (tu (tRed tz Fz) 21 (tz 3 0) (-1))) (c := 23) (v := Fz 4) (c' := 23) cc).symm
          rw [e1, e2] at q
          exact q
      exact ⟨rfl, ⟨g, rfl⟩, z, rfl, za, zb, v5, ⟨⟨c0, c1, c2, (x1.symm.trans v6), c4, c5, c6, (x2.symm.trans v7), (x3.symm.trans v1), c9, (x4.symm.trans (v2.trans (tOn_10 tz Fz (tz 3 0) (-1) (Fz 4) (Fz 5) known).symm)), (x5.symm.trans (v3.trans (tOn_11 tz Fz (tz 3 0) (-1) (Fz 4) (Fz 5) known).symm))⟩, (m1_keep n1 rfl (fun _ => rfl) : M1 E (hv [0, 1, 3, 9, 76, 77, 78, 79, 80, 81, 82, 83, 84, 85, 86, 87, 88, 89, 90, 91, 92] [20, 21, 22, 23, 24, 25, 26, 27, 28, 29, 30, 31, 32, 33, 34, 35, 36, 37, 62, 63, 64, 65, 66, 67, 68, 69, 70, 71] G g) tz), m2, (m3_keep n3 rfl (fun _ => rfl) : M3 E (hv [0, 1, 3, 9, 76, 77, 78, 79, 80, 81, 82, 83, 84, 85, 86, 87, 88, 89, 90, 91, 92] [20, 21, 22, 23, 24, 25, 26, 27, 28, 29, 30, 31, 32, 33, 34, 35, 36, 37, 62, 63, 64, 65, 66, 67, 68, 69, 70, 71] G g) tz), (m4_keep n4 rfl (fun _ => rfl) (fun _ => rfl) (fun _ => rfl) (fun _ => rfl) : M4 E (hv [0, 1, 3, 9, 76, 77, 78, 79, 80, 81, 82, 83, 84, 85, 86, 87, 88, 89, 90, 91, 92] [20, 21, 22, 23, 24, 25, 26, 27, 28, 29, 30, 31, 32, 33, 34, 35, 36, 37, 62, 63, 64, 65, 66, 67, 68, 69, 70, 71] G g) tz), m5 _⟩, mi'⟩
  · have hV : z = -1 ∧ s2 = tz 3 0 ∧ l2 = tz 7 0 ∧ n2_ = tz 8 0 ∧ f2 = tz 10 0 ∧ p2 = tz 11 0 := by
      have o := mt io.mpr ho
      clear io ho
      rcases hz with ⟨a1, a2, a3, a4, a5, a6, a7, a8, a9, a10, a11, a12, a13, a14, a15, a16, a17, -⟩ | ⟨w1, w2, w3, w4, w5, w6, -⟩
      · exfalso
        omega
      · omega
    clear hz io
    have ev : tEvt tz Fz p nn ex rec last known = (tz, -1) := if_neg ho
    rw [ev]
    have m2 : M2 E (hv [0, 1, 3, 9, 76, 77, 78, 79, 80, 81, 82, 83, 84, 85, 86, 87, 88, 89, 90, 91, 92] [20, 21, 22, 23, 24, 25, 26, 27, 28, 29, 30, 31, 32, 33, 34, 35, 36, 37, 62, 63, 64, 65, 66, 67, 68, 69, 70, 71] G g) tz := by
      intro i i0 i1
      rw [← x1] at i1
      have q := n2 i i0 (by first | decide | omega)
      rw [← (kp i (by first | decide | omega)).1, ← (kp i (by first | decide | omega)).2] at q
      exact q
    have m5 : M5 E (hv [0, 1, 3, 9, 76, 77, 78, 79, 80, 81, 82, 83, 84, 85, 86, 87, 88, 89, 90, 91, 92] [20, 21, 22, 23, 24, 25, 26, 27, 28, 29, 30, 31, 32, 33, 34, 35, 36, 37, 62, 63, 64, 65, 66, 67, 68, 69, 70, 71] G g) tz := by
      intro i i0 i1
      rw [← x3] at i1
      exact n5 i i0 (by first | decide | omega)
    exact ⟨rfl, ⟨g, rfl⟩, z, rfl, za, zb, hV.1, ⟨⟨c0, c1, c2, (x1.symm.trans hV.2.1), c4, c5, c6, (x2.symm.trans hV.2.2.1), (x3.symm.trans hV.2.2.2.1), c9, (x4.symm.trans hV.2.2.2.2.1), (x5.symm.trans hV.2.2.2.2.2)⟩, (m1_keep n1 rfl (fun _ => rfl) : M1 E (hv [0, 1, 3, 9, 76, 77, 78, 79, 80, 81, 82, 83, 84, 85, 86, 87, 88, 89, 90, 91, 92] [20, 21, 22, 23, 24, 25, 26, 27, 28, 29, 30, 31, 32, 33, 34, 35, 36, 37, 62, 63, 64, 65, 66, 67, 68, 69, 70, 71] G g) tz), m2, (m3_keep n3 rfl (fun _ => rfl) : M3 E (hv [0, 1, 3, 9, 76, 77, 78, 79, 80, 81, 82, 83, 84, 85, 86, 87, 88, 89, 90, 91, 92] [20, 21, 22, 23, 24, 25, 26, 27, 28, 29, 30, 31, 32, 33, 34, 35, 36, 37, 62, 63, 64, 65, 66, 67, 68, 69, 70, 71] G g) tz), (m4_keep n4 rfl (fun _ => rfl) (fun _ => rfl) (fun _ => rfl) (fun _ => rfl) : M4 E (hv [0, 1, 3, 9, 76, 77, 78, 79, 80, 81, 82, 83, 84, 85, 86, 87, 88, 89, 90, 91, 92] [20, 21, 22, 23, 24, 25, 26, 27, 28, 29, 30, 31, 32, 33, 34, 35, 36, 37, 62, 63, 64, 65, 66, 67, 68, 69, 70, 71] G g) tz), m5⟩, mi'⟩
