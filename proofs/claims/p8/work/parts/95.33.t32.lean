theorem k_event (E : En) (S : Sg) (G : Gh) (this paper n ex record last known : Int) (hS : S this = 128) (paper_a : -2147483648 ≤ paper) (paper_b : paper ≤ 2147483647) (n_a : -2147483648 ≤ n) (n_b : n ≤ 2147483647) (ex_a : -2147483648 ≤ ex) (ex_b : ex ≤ 2147483647) (record_a : -2147483648 ≤ record) (record_b : record ≤ 2147483647) (last_a : -2147483648 ≤ last) (last_b : last ≤ 2147483647) (known_a : -2147483648 ≤ known) (known_b : known ≤ 2147483647) (ci : CI E S G) (t : Tz) (h : RelC S G this t) (na_s : S (G 131 (G 128 this 16) 15) = 107) (nb_s : S (G 131 (G 128 this 16) 16) = 107) : Calls E mX11_event [(2, this), (0, paper), (0, n), (0, ex), (0, record), (0, last), (0, known)] S G 15 16 406 (fun r S' G' => Gr [119, 120, 121, 122, 123, 124, 125, 126, 127, 136, 137, 149, 150, 160, 161, 162, 163, 164, 165, 166, 167, 168, 169, 170, 171, 172, 173, 174, 175, 176, 177, 178, 179, 180, 181, 182, 183, 184, 185] [(106, -1), (107, -1), (119, -1), (120, -1), (121, -1), (122, -1), (123, -1), (124, -1), (128, 0), (128, 1), (129, 1), (131, 0), (131, 1), (131, 2), (131, 4), (131, 5), (131, 6), (131, 7), (131, 8), (131, 9), (131, 10), (131, 11), (131, 13), (131, 14), (136, 0), (136, 1), (136, 2), (149, 2), (149, 3), (149, 4), (149, 5), (149, 6), (149, 7), (149, 8), (149, 9), (149, 10), (149, 11), (149, 12), (149, 13), (149, 14), (149, 15), (150, 0), (150, 1), (150, 2), (150, 3), (150, 4), (150, 5), (150, 6), (156, 0), (156, 1), (156, 2), (170, -1), (171, -1), (172, -1)] S G S' G' ∧ RelC S' G' this (tEvt t (pIt (fun i => G 105 (G 131 (G 128 this 16) 3) i) n 401 (ud pS0 0 0)) paper n ex record last known).1 ∧ ∃ z : Int, r = some (0, z) ∧ (-2147483648) ≤ z ∧ z ≤ 2147483647 ∧ z = (tEvt t (pIt (fun i => G 105 (G 131 (G 128 this 16) 3) i) n 401 (ud pS0 0 0)) paper n ex record last known).2 ∧ CI E S' G') := by
  obtain ⟨h6, h0, h1, h2, h3, h4, h5, h7, d1, d2, d3⟩ := h
  obtain ⟨c0, c1, c2, c3, c4, c5, c6, c7, c8, c9, c10, c11⟩ := h0
  refine calls_mono (c_X11_eventT E S G this paper n ex record last known hS (G 128 this 8) rfl (q6_events h6) (G 156 (G 128 this 8) 2) rfl (G 128 this 16) rfl (q6_reader h6) (G 131 (G 128 this 16) 0) rfl (G 131 (G 128 this 16) 1) rfl (G 131 (G 128 this 16) 2) rfl (G 131 (G 128 this 16) 3) rfl (q6_tape h6) (G 131 (G 128 this 16) 15) rfl na_s (G 131 (G 128 this 16) 16) rfl nb_s (G 128 this 1) rfl paper_a paper_b n_a n_b ex_a ex_b record_a record_b last_a last_b known_a known_b ci (fun i => G 105 (G 131 (G 128 this 16) 3) i) (fun i => rfl) h7.1 (fun p => (h7.2 p).2)) ?_
  rintro r S' G' ⟨g, z, rfl, s2, x1, l2, x2, n2, x3, f2, x4, p2, x5, za, zb, hz, ci', old, nw, rt, r9⟩
  generalize (pIt (fun i => G 105 (G 131 (G 128 this 16) 3) i) n 401 (ud pS0 0 0)) = Fz at hz nw ⊢
  have f : ∀ gs : List (Int × Int), djg [(106, -1), (107, -1), (119, -1), (120, -1), (121, -1), (122, -1), (123, -1), (124, -1), (128, 0), (128, 1), (129, 1), (131, 0), (131, 1), (131, 2), (131, 4), (131, 5), (131, 6), (131, 7), (131, 8), (131, 9), (131, 10), (131, 11), (131, 13), (131, 14), (136, 0), (136, 1), (136, 2), (149, 2), (149, 3), (149, 4), (149, 5), (149, 6), (149, 7), (149, 8), (149, 9), (149, 10), (149, 11), (149, 12), (149, 13), (149, 14), (149, 15), (150, 0), (150, 1), (150, 2), (150, 3), (150, 4), (150, 5), (150, 6), (156, 0), (156, 1), (156, 2), (170, -1), (171, -1), (172, -1)] gs = true → Frm gs S G S' G' := fun gs c => frm_gr g c
  have eF : G' 128 this 8 = G 128 this 8 := fr1 (L := 128) (j := 8) f rfl h6.1 (by decide)
  have eR : G' 128 this 16 = G 128 this 16 := fr1 (L := 128) (j := 16) f rfl h6.1 (by decide)
  rw [c3] at old nw
  have q6 := q6_frm h6 (f _ rfl)
  have q1 := q1_frm ci h6 h1 (f _ rfl)
  have q3 := q3_frm ci h6 h3 (f _ rfl)
  have q4 := q4_frm ci h6 h4 (f _ rfl)
  have e1 := d1_frm ci h6 d1 (f _ rfl)
  have e3 := d3_frm ci h6 d3 (f _ rfl)
  have q7 : Q7 S' G' this := by
    unfold Q7
    rw [eR, fr1 (L := 131) (j := 15) f rfl (q6_reader h6) (by decide), fr1 (L := 131) (j := 16) f rfl (q6_reader h6) (by decide)]
    exact ⟨h7.1, r9⟩
  have od : ∀ i : Int, 0 ≤ i → i < t 3 0 → G' 137 (elm S' G' 156 (G 128 this 8) i) 1 = t 21 i ∧ S' (G' 137 (elm S' G' 156 (G 128 this 8) i) 3) = 136 ∧ G' 136 (G' 137 (elm S' G' 156 (G 128 this 8) i) 3) 1 = t 23 i ∧ G' 136 (G' 137 (elm S' G' 156 (G 128 this 8) i) 3) 2 = t 24 i ∧ G' 137 (elm S' G' 156 (G 128 this 8) i) 3 ≠ G' 131 (G 128 this 16) 9 ∧ 0 ≤ G' 137 (elm S' G' 156 (G 128 this 8) i) 3 := by
    intro i i0 i1
    rw [old i i0 i1]
    have lb : S (elm S G 156 (G 128 this 8) i) = 137 := ell_156 ci (q6_events h6) i0 (by first | decide | omega)
    obtain ⟨y1, y2, y3, y4, y5, y6⟩ := h2 i i0 (by first | decide | omega)
    rw [fr1 (L := 137) (j := 3) f rfl lb (by decide), fr1 (L := 137) (j := 1) f rfl lb (by decide)]
    obtain ⟨w1, w2, w3⟩ := rt _ y6 y2 y5
    exact ⟨y1, gr_lab g y2 (by decide), w2.trans y3, w3.trans y4, w1, y6⟩
  have io := oEvt_iff t paper n ex record last known
  by_cases ho : oEvt t paper n ex record last known = true
  · have o := io.mp ho
    have hv : n2 = 0 ∧ f2 = Fz 1 ∧ p2 = Fz 2 ∧ ((Fz 1 ≠ 0 ∧ z = -1 ∧ s2 = t 3 0 ∧ l2 = t 7 0) ∨ (Fz 1 = 0 ∧ z = t 3 0 ∧ s2 = t 3 0 + 1 ∧ l2 = known)) := by
      clear io ho
      rcases hz with ⟨-, -, -, -, -, -, -, -, -, -, -, -, -, -, -, -, -, w1, w2, w3, w4⟩ | ⟨-, -, -, -, -, -, w⟩
      · exact ⟨w1, w2, w3, by omega⟩
      · exfalso
        omega
    clear hz io
    have q5 : ∀ u : Tz, Q5 G' this u := by
      intro u i i0 i1
      rw [eR, ← x3] at i1
      omega
    rcases hv with ⟨v1, v2, v3, ⟨v4, v5, v6, v7⟩ | ⟨v4, v5, v6, v7⟩⟩
    · have ev : tEvt t Fz paper n ex record last known = (tRed t Fz, -1) := by unfold tEvt; rw [if_pos ho, if_neg v4]
      rw [ev]
      have q2 : Q2 S' G' this (tRed t Fz) := by
        intro i i0 i1
        rw [eF] at i1 ⊢
        rw [← x1] at i1
        rw [eR]
        exact od i i0 (by first | decide | omega)
      have e2 : D2 S' G' this := by
        intro i j i0 ij j1
        rw [eF] at j1 ⊢
        rw [← x1] at j1
        rw [old i i0 (by first | decide | omega), old j (by first | decide | omega) (by first | decide | omega)]
        exact d2 i j i0 ij (by first | decide | omega)
      exact ⟨g, ⟨q6, (q0_mk (t := t) h6 (f _ rfl) ((fr1 (L := 130) (j := 0) f rfl (q6_accounts h6) (by decide)).trans c0) ((fr1 (L := 154) (j := 2) f rfl (q6_issues h6) (by decide)).trans c1) ((fr1 (L := 155) (j := 2) f rfl (q6_trades h6) (by decide)).trans c2) (x1.symm.trans v6) ((fr1 (L := 157) (j := 2) f rfl (q6_picks h6) (by decide)).trans c4) ((fr1 (L := 158) (j := 2) f rfl (q6_options h6) (by decide)).trans c5) ((fr1 (L := 159) (j := 2) f rfl (q6_names h6) (by decide)).trans c6) (x2.symm.trans v7) (x3.symm.trans v1) ((fr1 (L := 129) (j := 0) f rfl (q6_run h6) (by decide)).trans c9) (x4.symm.trans (v2.trans (tRed_10 t Fz).symm)) (x5.symm.trans (v3.trans (tRed_11 t Fz).symm))), q1, q2, q3, q4, q5 _, q7, e1, e2, e3⟩, z, rfl, za, zb, v5, ci'⟩
    · have ev : tEvt t Fz paper n ex record last known = (tOne (tu (tu (tu (tRed t Fz) 21 (t 3 0) (-1)) 23 (t 3 0) (Fz 4)) 24 (t 3 0) (Fz 5)) 3 known, t 3 0) := by unfold tEvt; rw [if_pos ho, if_pos v4]
      rw [ev]
      have q2 : Q2 S' G' this (tOne (tu (tu (tu (tRed t Fz) 21 (t 3 0) (-1)) 23 (t 3 0) (Fz 4)) 24 (t 3 0) (Fz 5)) 3 known) := by
        intro i i0 i1
        rw [eF] at i1 ⊢
        rw [← x1] at i1
        rw [eR]
        by_cases cc : i = t 3 0
        · rw [cc]
          obtain ⟨-, -, y1, y2, y6, y3, y4, y5⟩ := nw.resolve_left (by first | decide | omega)
          exact ⟨y1.trans (tu_at (tRed t Fz) 21 (t 3 0) (-1)).symm, y2, y3.trans (tu_at (tu (tRed t Fz) 21 (t 3 0) (-1)) 23 (t 3 0) (Fz 4)).symm, y4.trans (tu_at (tu (tu (tRed t Fz) 21 (t 3 0) (-1)) 23 (t 3 0) (Fz 4)) 24 (t 3 0) (Fz 5)).symm, y5, y6⟩
        · obtain ⟨y1, y2, y3, y4, y5, y6⟩ := od i i0 (by first | decide | omega)
          exact ⟨y1.trans (tu_ni (t := tRed t Fz) (c := 21) (v := -1) (c' := 21) cc).symm, y2, y3.trans (tu_ni (t := tu (tRed t Fz) 21 (t 3 0) (-1)) (c := 23) (v := Fz 4) (c' := 23) cc).symm, y4.trans (tu_ni (t := tu (tu (tRed t Fz) 21 (t 3 0) (-1)) 23 (t 3 0) (Fz 4)) (c := 24) (v := Fz 5) (c' := 24) cc).symm, y5, y6⟩
      have e2 : D2 S' G' this := by
        intro i j i0 ij j1
        rw [eF] at j1 ⊢
        rw [← x1] at j1
        by_cases cc : j = t 3 0
        · have lb : S (elm S G 156 (G 128 this 8) i) = 137 := ell_156 ci (q6_events h6) i0 (by first | decide | omega)
          rw [cc, old i i0 (by first | decide | omega)]
          intro w
          have nz := (nw.resolve_left (by first | decide | omega)).1
          rw [← w, lb] at nz
          exact absurd nz (by decide)
        · rw [old i i0 (by first | decide | omega), old j (by first | decide | omega) (by first | decide | omega)]
          exact d2 i j i0 ij (by first | decide | omega)
      exact ⟨g, ⟨q6, (q0_mk (t := t) h6 (f _ rfl) ((fr1 (L := 130) (j := 0) f rfl (q6_accounts h6) (by decide)).trans c0) ((fr1 (L := 154) (j := 2) f rfl (q6_issues h6) (by decide)).trans c1) ((fr1 (L := 155) (j := 2) f rfl (q6_trades h6) (by decide)).trans c2) (x1.symm.trans v6) ((fr1 (L := 157) (j := 2) f rfl (q6_picks h6) (by decide)).trans c4) ((fr1 (L := 158) (j := 2) f rfl (q6_options h6) (by decide)).trans c5) ((fr1 (L := 159) (j := 2) f rfl (q6_names h6) (by decide)).trans c6) (x2.symm.trans v7) (x3.symm.trans v1) ((fr1 (L := 129) (j := 0) f rfl (q6_run h6) (by decide)).trans c9) (x4.symm.trans (v2.trans (tOn_10 t Fz (t 3 0) (-1) (Fz 4) (Fz 5) known).symm)) (x5.symm.trans (v3.trans (tOn_11 t Fz (t 3 0) (-1) (Fz 4) (Fz 5) known).symm))), q1, q2, q3, q4, q5 _, q7, e1, e2, e3⟩, z, rfl, za, zb, v5, ci'⟩
  · have hv : z = -1 ∧ s2 = t 3 0 ∧ l2 = t 7 0 ∧ n2 = t 8 0 ∧ f2 = t 10 0 ∧ p2 = t 11 0 := by
      have o := mt io.mpr ho
      clear io ho
      rcases hz with ⟨a1, a2, a3, a4, a5, a6, a7, a8, a9, a10, a11, a12, a13, a14, a15, a16, a17, -⟩ | ⟨w1, w2, w3, w4, w5, w6, -⟩
      · exfalso
        omega
      · omega
    clear hz io
    have ev : tEvt t Fz paper n ex record last known = (t, -1) := if_neg ho
    rw [ev]
    have q5 : Q5 G' this t := by
      intro i i0 i1
      rw [eR, ← x3] at i1
      rw [eR, fr1 (L := 131) (j := 3) f rfl (q6_reader h6) (by decide), (f [(105, -1)] rfl).2 105 _ i (by rfl) (q6_tape h6) (by decide)]
      exact h5 i i0 (by first | decide | omega)
    have q2 : Q2 S' G' this t := by
      intro i i0 i1
      rw [eF] at i1 ⊢
      rw [← x1] at i1
      rw [eR]
      exact od i i0 (by first | decide | omega)
    have e2 : D2 S' G' this := by
      intro i j i0 ij j1
      rw [eF] at j1 ⊢
      rw [← x1] at j1
      rw [old i i0 (by first | decide | omega), old j (by first | decide | omega) (by first | decide | omega)]
      exact d2 i j i0 ij (by first | decide | omega)
    exact ⟨g, ⟨q6, (q0_mk (t := t) h6 (f _ rfl) ((fr1 (L := 130) (j := 0) f rfl (q6_accounts h6) (by decide)).trans c0) ((fr1 (L := 154) (j := 2) f rfl (q6_issues h6) (by decide)).trans c1) ((fr1 (L := 155) (j := 2) f rfl (q6_trades h6) (by decide)).trans c2) (x1.symm.trans hv.2.1) ((fr1 (L := 157) (j := 2) f rfl (q6_picks h6) (by decide)).trans c4) ((fr1 (L := 158) (j := 2) f rfl (q6_options h6) (by decide)).trans c5) ((fr1 (L := 159) (j := 2) f rfl (q6_names h6) (by decide)).trans c6) (x2.symm.trans hv.2.2.1) (x3.symm.trans hv.2.2.2.1) ((fr1 (L := 129) (j := 0) f rfl (q6_run h6) (by decide)).trans c9) (x4.symm.trans hv.2.2.2.2.1) (x5.symm.trans hv.2.2.2.2.2)), q1, q2, q3, q4, q5, q7, e1, e2, e3⟩, z, rfl, za, zb, hv.1, ci'⟩
