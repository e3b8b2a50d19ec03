/-! THE CLASS'S TOLD OPERATIONS OVER WHAT IS TOLD -/
theorem fr1 {ws : List (Int × Int)} {S S' : Sg} {G G' : Gh} {L j a : Int} (f : ∀ gs : List (Int × Int), djg ws gs = true → Frm gs S G S' G') (c : djg ws [(L, j)] = true) (hs : S a = L) (h0 : L ≠ 0) : G' L a j = G L a j := (f _ c).2 L a j (inm_iff.mpr ⟨(L, j), List.mem_singleton.mpr rfl, rfl, Or.inr rfl⟩) hs h0
theorem q0_mk {S S' : Sg} {G G' : Gh} {this : Int} {t u : Tz} (h6 : Q6 S G this) (f6 : Frm gs6 S G S' G') (a0 : G' 130 (G 128 this 5) 0 = u 0 0) (a1 : G' 154 (G 128 this 6) 2 = u 1 0) (a2 : G' 155 (G 128 this 7) 2 = u 2 0) (a3 : G' 156 (G 128 this 8) 2 = u 3 0) (a4 : G' 157 (G 128 this 9) 2 = u 4 0) (a5 : G' 158 (G 128 this 10) 2 = u 5 0) (a6 : G' 159 (G 128 this 11) 2 = u 6 0) (a7 : G' 128 this 1 = u 7 0) (a8 : G' 131 (G 128 this 16) 0 = u 8 0) (a9 : G' 129 (G 128 this 17) 0 = u 9 0) (a10 : G' 131 (G 128 this 16) 1 = u 10 0) (a11 : G' 131 (G 128 this 16) 2 = u 11 0) : Q0 G' this u := by
  obtain ⟨e0, e1, e2, e3, e4, e5, e6, e7, e8, -⟩ := q6_at h6 f6
  unfold Q0
  rw [e0, e1, e2, e3, e4, e5, e6, e7, e8]
  exact ⟨a0, a1, a2, a3, a4, a5, a6, a7, a8, a9, a10, a11⟩
theorem tRed_10 (t : Tz) (s : Rg) : tRed t s 10 0 = s 1 := rfl
theorem tRed_11 (t : Tz) (s : Rg) : tRed t s 11 0 = s 2 := rfl
theorem tOn_10 (t : Tz) (s : Rg) (n a b c k : Int) : tOne (tu (tu (tu (tRed t s) 21 n a) 23 n b) 24 n c) 3 k 10 0 = s 1 := rfl
theorem tOn_11 (t : Tz) (s : Rg) (n a b c k : Int) : tOne (tu (tu (tu (tRed t s) 21 n a) 23 n b) 24 n c) 3 k 11 0 = s 2 := rfl
theorem oIss_iff (t : Tz) (a p d s w k : Int) : oIss t a p d s w k = true ↔ (0 ≤ a ∧ a < t 0 0 ∧ 0 ≤ p ∧ p ≤ 19 ∧ 0 ≤ d ∧ d ≤ 40000 ∧ 1 ≤ s ∧ s ≤ 1000000 ∧ 0 ≤ w ∧ w ≤ 100000000 ∧ 0 ≤ k ∧ k ≤ 40000 ∧ t 1 0 < 40 ∧ t 7 0 ≤ k) := by
  simp only [oIss, iIn, iPap, iDay, Bool.and_eq_true, Bool.or_eq_true, decide_eq_true_eq, and_assoc]
theorem oTrd_iff (t : Tz) (f g p s d e k : Int) : oTrd t f g p s d e k = true ↔ (0 ≤ f ∧ f < t 0 0 ∧ 0 ≤ g ∧ g < t 0 0 ∧ f ≠ g ∧ 0 ≤ p ∧ p ≤ 19 ∧ 1 ≤ s ∧ s ≤ 1000000 ∧ 0 ≤ d ∧ d ≤ 40000 ∧ 0 ≤ e ∧ e ≤ 40000 ∧ d ≤ e ∧ 0 ≤ k ∧ k ≤ 40000 ∧ t 2 0 < 40 ∧ t 7 0 ≤ k) := by
  simp only [oTrd, iIn, iPap, iDay, Bool.and_eq_true, Bool.or_eq_true, decide_eq_true_eq, and_assoc]
theorem oOpt_iff (t : Tz) (p d s n k : Int) : oOpt t p d s n k = true ↔ (0 ≤ p ∧ p ≤ 19 ∧ 0 ≤ d ∧ d ≤ 40000 ∧ 1 ≤ s ∧ s ≤ 1000000 ∧ 1 ≤ n ∧ n ≤ 10000 ∧ 0 ≤ k ∧ k ≤ 40000 ∧ t 5 0 < 10 ∧ t 7 0 ≤ k) := by
  simp only [oOpt, iIn, iPap, iDay, Bool.and_eq_true, Bool.or_eq_true, decide_eq_true_eq, and_assoc]
theorem oNam_iff (t : Tz) (p n d k : Int) : oNam t p n d k = true ↔ (0 ≤ p ∧ p ≤ 19 ∧ 0 ≤ n ∧ n ≤ 9999 ∧ 0 ≤ d ∧ d ≤ 40000 ∧ 0 ≤ k ∧ k ≤ 40000 ∧ t 6 0 < 60 ∧ t 7 0 ≤ k) := by
  simp only [oNam, iIn, iPap, iDay, Bool.and_eq_true, Bool.or_eq_true, decide_eq_true_eq, and_assoc]
theorem oChs_iff (t : Tz) (e a c d k : Int) : oChs t e a c d k = true ↔ (0 ≤ e ∧ e < t 3 0 ∧ 0 ≤ c ∧ c < t 23 e ∧ 0 ≤ a ∧ a < t 0 0 ∧ 0 ≤ d ∧ d ≤ 40000 ∧ 0 ≤ k ∧ k ≤ 40000 ∧ t 4 0 < 60 ∧ t 7 0 ≤ k) := by
  simp only [oChs, iIn, iPap, iDay, Bool.and_eq_true, Bool.or_eq_true, decide_eq_true_eq, and_assoc]
theorem oStk_iff (t : Tz) (w i k : Int) : oStk t w i k = true ↔ (0 ≤ w ∧ w ≤ 2 ∧ 0 ≤ i ∧ i < (if w = 0 then t 2 0 else if w = 1 then t 3 0 else t 4 0) ∧ 0 ≤ k ∧ k ≤ 40000 ∧ t 7 0 ≤ k ∧ t (20 + w) i = -1) := by
  simp only [oStk, iIn, iPap, iDay, Bool.and_eq_true, Bool.or_eq_true, decide_eq_true_eq, and_assoc]
theorem oAcc_iff (t : Tz) (u l d : Int) : oAcc t u l d = true ↔ ((u = -1 ∨ (0 ≤ u ∧ u < t 0 0)) ∧ 0 ≤ l ∧ l ≤ 30 ∧ 0 ≤ d ∧ d ≤ 30 ∧ t 0 0 < 20) := by
  simp only [oAcc, iIn, iPap, iDay, Bool.and_eq_true, Bool.or_eq_true, decide_eq_true_eq, and_assoc]
theorem oEvt_iff (t : Tz) (p n ex rec last k : Int) : oEvt t p n ex rec last k = true ↔ (0 ≤ p ∧ p ≤ 19 ∧ 0 ≤ n ∧ n ≤ t 8 0 ∧ 0 ≤ ex ∧ ex ≤ 40000 ∧ 0 ≤ rec ∧ rec ≤ 40000 ∧ 0 ≤ last ∧ last ≤ 40000 ∧ rec - ex ≤ 10 ∧ ex - rec ≤ 10 ∧ rec ≤ last ∧ 0 ≤ k ∧ k ≤ 40000 ∧ t 3 0 < 16 ∧ t 7 0 ≤ k) := by
  simp only [oEvt, iIn, iPap, iDay, Bool.and_eq_true, Bool.or_eq_true, decide_eq_true_eq, and_assoc]
theorem k_issue (E : En) (S : Sg) (G : Gh) (this account paper day shares worth known : Int) (hS : S this = 128) (account_a : -2147483648 ≤ account) (account_b : account ≤ 2147483647) (paper_a : -2147483648 ≤ paper) (paper_b : paper ≤ 2147483647) (day_a : -2147483648 ≤ day) (day_b : day ≤ 2147483647) (shares_a : -2147483648 ≤ shares) (shares_b : shares ≤ 2147483647) (worth_a : -2147483648 ≤ worth) (worth_b : worth ≤ 2147483647) (known_a : -2147483648 ≤ known) (known_b : known ≤ 2147483647) (ci : CI E S G) (t : Tz) (h : RelC S G this t) : Calls E mX11_issue [(2, this), (0, account), (0, paper), (0, day), (0, shares), (0, worth), (0, known)] S G 15 2 82 (fun r S' G' => Gr [139, 152, 160, 161, 162, 163, 164, 165, 166, 167, 168, 169, 170, 171, 172, 173, 174, 175, 176, 177, 178, 179, 180, 181, 182, 183, 184, 185] [(128, 0), (128, 1), (129, 1), (152, 0), (152, 1), (152, 2), (152, 3), (152, 4), (152, 5), (152, 6), (152, 8), (154, 0), (154, 1), (154, 2), (160, -1), (161, -1), (162, -1), (163, -1), (164, -1)] S G S' G' ∧ RelC S' G' this (tIss t account paper day shares worth known).1 ∧ ∃ z : Int, r = some (0, z) ∧ 0 ≤ z ∧ z ≤ 1 ∧ z = (tIss t account paper day shares worth known).2 ∧ CI E S' G') := by
  obtain ⟨h6, h0, h1, h2, h3, h4, h5, h7, d1, d2, d3⟩ := h
  obtain ⟨c0, c1, c2, c3, c4, c5, c6, c7, c8, c9, c10, c11⟩ := h0
  refine calls_mono (c_X11_issueT E S G this account paper day shares worth known hS (G 128 this 5) rfl (q6_accounts h6) (G 130 (G 128 this 5) 0) rfl (G 128 this 6) rfl (q6_issues h6) (G 154 (G 128 this 6) 2) rfl (G 128 this 1) rfl account_a account_b paper_a paper_b day_a day_b shares_a shares_b worth_a worth_b known_a known_b ci) ?_
  rintro r S' G' ⟨g, z, rfl, s2, x1, l2, x2, za, zb, hz, ci'⟩
  have f : ∀ gs : List (Int × Int), djg [(128, 0), (128, 1), (129, 1), (152, 0), (152, 1), (152, 2), (152, 3), (152, 4), (152, 5), (152, 6), (152, 8), (154, 0), (154, 1), (154, 2), (160, -1), (161, -1), (162, -1), (163, -1), (164, -1)] gs = true → Frm gs S G S' G' := fun gs c => frm_gr g c
  have q6 := q6_frm h6 (f _ rfl)
  have q1 := q1_frm ci h6 h1 (f _ rfl)
  have q2 := q2_frm ci h6 h2 (f _ rfl)
  have q3 := q3_frm ci h6 h3 (f _ rfl)
  have q4 := q4_frm ci h6 h4 (f _ rfl)
  have q5 := q5_frm h6 h5 (f _ rfl)
  have q7 := q7_frm h6 h7 (f _ rfl)
  have e1 := d1_frm ci h6 d1 (f _ rfl)
  have e2 := d2_frm ci h6 d2 (f _ rfl)
  have e3 := d3_frm ci h6 d3 (f _ rfl)
  have io := oIss_iff t account paper day shares worth known
  by_cases ho : oIss t account paper day shares worth known = true
  · have hv : z = 1 ∧ s2 = t 1 0 + 1 ∧ l2 = known := by
      have o := io.mp ho
      clear io ho
      omega
    have ev : tIss t account paper day shares worth known = (tOne t 1 known, 1) := if_pos ho
    clear hz
    rw [ev]
    exact ⟨g, ⟨q6, (q0_mk (t := t) h6 (f _ rfl) ((fr1 (L := 130) (j := 0) f rfl (q6_accounts h6) (by decide)).trans c0) (x1.symm.trans hv.2.1) ((fr1 (L := 155) (j := 2) f rfl (q6_trades h6) (by decide)).trans c2) ((fr1 (L := 156) (j := 2) f rfl (q6_events h6) (by decide)).trans c3) ((fr1 (L := 157) (j := 2) f rfl (q6_picks h6) (by decide)).trans c4) ((fr1 (L := 158) (j := 2) f rfl (q6_options h6) (by decide)).trans c5) ((fr1 (L := 159) (j := 2) f rfl (q6_names h6) (by decide)).trans c6) (x2.symm.trans hv.2.2) ((fr1 (L := 131) (j := 0) f rfl (q6_reader h6) (by decide)).trans c8) ((fr1 (L := 129) (j := 0) f rfl (q6_run h6) (by decide)).trans c9) ((fr1 (L := 131) (j := 1) f rfl (q6_reader h6) (by decide)).trans c10) ((fr1 (L := 131) (j := 2) f rfl (q6_reader h6) (by decide)).trans c11)), q1, q2, q3, q4, q5, q7, e1, e2, e3⟩, z, rfl, za, zb, hv.1, ci'⟩
  · have hv : z = 0 ∧ s2 = t 1 0 ∧ l2 = t 7 0 := by
      have o := mt io.mpr ho
      clear io ho
      omega
    have ev : tIss t account paper day shares worth known = (t, 0) := if_neg ho
    clear hz
    rw [ev]
    exact ⟨g, ⟨q6, (q0_mk (t := t) h6 (f _ rfl) ((fr1 (L := 130) (j := 0) f rfl (q6_accounts h6) (by decide)).trans c0) (x1.symm.trans hv.2.1) ((fr1 (L := 155) (j := 2) f rfl (q6_trades h6) (by decide)).trans c2) ((fr1 (L := 156) (j := 2) f rfl (q6_events h6) (by decide)).trans c3) ((fr1 (L := 157) (j := 2) f rfl (q6_picks h6) (by decide)).trans c4) ((fr1 (L := 158) (j := 2) f rfl (q6_options h6) (by decide)).trans c5) ((fr1 (L := 159) (j := 2) f rfl (q6_names h6) (by decide)).trans c6) (x2.symm.trans hv.2.2) ((fr1 (L := 131) (j := 0) f rfl (q6_reader h6) (by decide)).trans c8) ((fr1 (L := 129) (j := 0) f rfl (q6_run h6) (by decide)).trans c9) ((fr1 (L := 131) (j := 1) f rfl (q6_reader h6) (by decide)).trans c10) ((fr1 (L := 131) (j := 2) f rfl (q6_reader h6) (by decide)).trans c11)), q1, q2, q3, q4, q5, q7, e1, e2, e3⟩, z, rfl, za, zb, hv.1, ci'⟩
theorem k_trade (E : En) (S : Sg) (G : Gh) (this frm to_ paper shares dealt settled known : Int) (hS : S this = 128) (frm_a : -2147483648 ≤ frm) (frm_b : frm ≤ 2147483647) (to__a : -2147483648 ≤ to_) (to__b : to_ ≤ 2147483647) (paper_a : -2147483648 ≤ paper) (paper_b : paper ≤ 2147483647) (shares_a : -2147483648 ≤ shares) (shares_b : shares ≤ 2147483647) (dealt_a : -2147483648 ≤ dealt) (dealt_b : dealt ≤ 2147483647) (settled_a : -2147483648 ≤ settled) (settled_b : settled ≤ 2147483647) (known_a : -2147483648 ≤ known) (known_b : known ≤ 2147483647) (ci : CI E S G) (t : Tz) (h : RelC S G this t) : Calls E mX11_trade [(2, this), (0, frm), (0, to_), (0, paper), (0, shares), (0, dealt), (0, settled), (0, known)] S G 15 2 82 (fun r S' G' => Gr [140, 152, 160, 161, 162, 163, 164, 165, 166, 167, 168, 169, 170, 171, 172, 173, 174, 175, 176, 177, 178, 179, 180, 181, 182, 183, 184, 185] [(128, 0), (128, 1), (129, 1), (152, 0), (152, 1), (152, 2), (152, 3), (152, 4), (152, 5), (152, 6), (152, 7), (155, 0), (155, 1), (155, 2), (165, -1), (166, -1), (167, -1), (168, -1), (169, -1)] S G S' G' ∧ RelC S' G' this (tTrd t frm to_ paper shares dealt settled known).1 ∧ ∃ z : Int, r = some (0, z) ∧ (-2147483648) ≤ z ∧ z ≤ 2147483647 ∧ z = (tTrd t frm to_ paper shares dealt settled known).2 ∧ CI E S' G') := by
  obtain ⟨h6, h0, h1, h2, h3, h4, h5, h7, d1, d2, d3⟩ := h
  obtain ⟨c0, c1, c2, c3, c4, c5, c6, c7, c8, c9, c10, c11⟩ := h0
  refine calls_mono (c_X11_tradeT E S G this frm to_ paper shares dealt settled known hS (G 128 this 5) rfl (q6_accounts h6) (G 130 (G 128 this 5) 0) rfl (G 128 this 7) rfl (q6_trades h6) (G 155 (G 128 this 7) 2) rfl (G 128 this 1) rfl frm_a frm_b to__a to__b paper_a paper_b shares_a shares_b dealt_a dealt_b settled_a settled_b known_a known_b ci) ?_
  rintro r S' G' ⟨g, z, rfl, s2, x1, l2, x2, za, zb, hz, ci', old, nw⟩
  have f : ∀ gs : List (Int × Int), djg [(128, 0), (128, 1), (129, 1), (152, 0), (152, 1), (152, 2), (152, 3), (152, 4), (152, 5), (152, 6), (152, 7), (155, 0), (155, 1), (155, 2), (165, -1), (166, -1), (167, -1), (168, -1), (169, -1)] gs = true → Frm gs S G S' G' := fun gs c => frm_gr g c
  have eF : G' 128 this 7 = G 128 this 7 := fr1 (L := 128) (j := 7) f rfl h6.1 (by decide)
  rw [c2] at old nw
  have q6 := q6_frm h6 (f _ rfl)
  have q2 := q2_frm ci h6 h2 (f _ rfl)
  have q3 := q3_frm ci h6 h3 (f _ rfl)
  have q4 := q4_frm ci h6 h4 (f _ rfl)
  have q5 := q5_frm h6 h5 (f _ rfl)
  have q7 := q7_frm h6 h7 (f _ rfl)
  have e2 := d2_frm ci h6 d2 (f _ rfl)
  have e3 := d3_frm ci h6 d3 (f _ rfl)
  have io := oTrd_iff t frm to_ paper shares dealt settled known
  by_cases ho : oTrd t frm to_ paper shares dealt settled known = true
  · have hv : z = t 2 0 ∧ s2 = t 2 0 + 1 ∧ l2 = known := by
      have o := io.mp ho
      clear io ho
      omega
    have ev : tTrd t frm to_ paper shares dealt settled known = (tOne (tu t 20 (t 2 0) (-1)) 2 known, t 2 0) := if_pos ho
    clear hz
    rw [ev]
    have q1 : Q1 S' G' this (tOne (tu t 20 (t 2 0) (-1)) 2 known) := by
      intro i i0 i1
      rw [eF] at i1 ⊢
      rw [← x1] at i1
      by_cases cc : i = t 2 0
      · skip
        rw [cc]
        exact (nw.resolve_left (by first | decide | omega)).2.2.trans (tu_at t 20 (t 2 0) (-1)).symm
      · skip
        rw [(old i i0 (by first | decide | omega))]
        have lb : S (elm S G 155 (G 128 this 7) i) = 140 := ell_155 ci (q6_trades h6) i0 (by first | decide | omega)
        exact (fr1 (L := 140) (j := 1) f rfl lb (by decide)).trans ((h1 i i0 (by first | decide | omega)).trans (tu_ni (t := t) (c := 20) (v := -1) (c' := 20) (by omega : i ≠ t 2 0)).symm)
    have e1 : D1 S' G' this := by
      intro i j i0 ij j1
      rw [eF] at j1 ⊢
      rw [← x1] at j1
      by_cases cc : j = t 2 0
      · skip
        have lb : S (elm S G 155 (G 128 this 7) i) = 140 := ell_155 ci (q6_trades h6) i0 (by first | decide | omega)
        rw [cc, old i i0 (by first | decide | omega)]
        intro w
        have nz := (nw.resolve_left (by first | decide | omega)).1
        rw [← w, lb] at nz
        exact absurd nz (by decide)
      · skip
        rw [old i i0 (by first | decide | omega), old j (by first | decide | omega) (by first | decide | omega)]
        exact d1 i j i0 ij (by first | decide | omega)
    exact ⟨g, ⟨q6, (q0_mk (t := t) h6 (f _ rfl) ((fr1 (L := 130) (j := 0) f rfl (q6_accounts h6) (by decide)).trans c0) ((fr1 (L := 154) (j := 2) f rfl (q6_issues h6) (by decide)).trans c1) (x1.symm.trans hv.2.1) ((fr1 (L := 156) (j := 2) f rfl (q6_events h6) (by decide)).trans c3) ((fr1 (L := 157) (j := 2) f rfl (q6_picks h6) (by decide)).trans c4) ((fr1 (L := 158) (j := 2) f rfl (q6_options h6) (by decide)).trans c5) ((fr1 (L := 159) (j := 2) f rfl (q6_names h6) (by decide)).trans c6) (x2.symm.trans hv.2.2) ((fr1 (L := 131) (j := 0) f rfl (q6_reader h6) (by decide)).trans c8) ((fr1 (L := 129) (j := 0) f rfl (q6_run h6) (by decide)).trans c9) ((fr1 (L := 131) (j := 1) f rfl (q6_reader h6) (by decide)).trans c10) ((fr1 (L := 131) (j := 2) f rfl (q6_reader h6) (by decide)).trans c11)), q1, q2, q3, q4, q5, q7, e1, e2, e3⟩, z, rfl, za, zb, hv.1, ci'⟩
  · have hv : z = -1 ∧ s2 = t 2 0 ∧ l2 = t 7 0 := by
      have o := mt io.mpr ho
      clear io ho
      omega
    have ev : tTrd t frm to_ paper shares dealt settled known = (t, -1) := if_neg ho
    clear hz
    rw [ev]
    have q1 : Q1 S' G' this (t) := by
      intro i i0 i1
      rw [eF] at i1 ⊢
      rw [← x1] at i1
      rw [(old i i0 (by first | decide | omega))]
      have lb : S (elm S G 155 (G 128 this 7) i) = 140 := ell_155 ci (q6_trades h6) i0 (by first | decide | omega)
      exact (fr1 (L := 140) (j := 1) f rfl lb (by decide)).trans ((h1 i i0 (by first | decide | omega)).trans rfl)
    have e1 : D1 S' G' this := by
      intro i j i0 ij j1
      rw [eF] at j1 ⊢
      rw [← x1] at j1
      rw [old i i0 (by first | decide | omega), old j (by first | decide | omega) (by first | decide | omega)]
      exact d1 i j i0 ij (by first | decide | omega)
    exact ⟨g, ⟨q6, (q0_mk (t := t) h6 (f _ rfl) ((fr1 (L := 130) (j := 0) f rfl (q6_accounts h6) (by decide)).trans c0) ((fr1 (L := 154) (j := 2) f rfl (q6_issues h6) (by decide)).trans c1) (x1.symm.trans hv.2.1) ((fr1 (L := 156) (j := 2) f rfl (q6_events h6) (by decide)).trans c3) ((fr1 (L := 157) (j := 2) f rfl (q6_picks h6) (by decide)).trans c4) ((fr1 (L := 158) (j := 2) f rfl (q6_options h6) (by decide)).trans c5) ((fr1 (L := 159) (j := 2) f rfl (q6_names h6) (by decide)).trans c6) (x2.symm.trans hv.2.2) ((fr1 (L := 131) (j := 0) f rfl (q6_reader h6) (by decide)).trans c8) ((fr1 (L := 129) (j := 0) f rfl (q6_run h6) (by decide)).trans c9) ((fr1 (L := 131) (j := 1) f rfl (q6_reader h6) (by decide)).trans c10) ((fr1 (L := 131) (j := 2) f rfl (q6_reader h6) (by decide)).trans c11)), q1, q2, q3, q4, q5, q7, e1, e2, e3⟩, z, rfl, za, zb, hv.1, ci'⟩
theorem k_option (E : En) (S : Sg) (G : Gh) (this paper day strike number known : Int) (hS : S this = 128) (paper_a : -2147483648 ≤ paper) (paper_b : paper ≤ 2147483647) (day_a : -2147483648 ≤ day) (day_b : day ≤ 2147483647) (strike_a : -2147483648 ≤ strike) (strike_b : strike ≤ 2147483647) (number_a : -2147483648 ≤ number) (number_b : number ≤ 2147483647) (known_a : -2147483648 ≤ known) (known_b : known ≤ 2147483647) (ci : CI E S G) (t : Tz) (h : RelC S G this t) : Calls E mX11_option [(2, this), (0, paper), (0, day), (0, strike), (0, number), (0, known)] S G 15 2 82 (fun r S' G' => Gr [141, 152, 160, 161, 162, 163, 164, 165, 166, 167, 168, 169, 170, 171, 172, 173, 174, 175, 176, 177, 178, 179, 180, 181, 182, 183, 184, 185] [(128, 0), (128, 1), (129, 1), (152, 0), (152, 1), (152, 2), (152, 3), (152, 4), (152, 5), (152, 6), (152, 8), (158, 0), (158, 1), (158, 2), (179, -1)] S G S' G' ∧ RelC S' G' this (tOpt t paper day strike number known).1 ∧ ∃ z : Int, r = some (0, z) ∧ (-2147483648) ≤ z ∧ z ≤ 2147483647 ∧ z = (tOpt t paper day strike number known).2 ∧ CI E S' G') := by
  obtain ⟨h6, h0, h1, h2, h3, h4, h5, h7, d1, d2, d3⟩ := h
  obtain ⟨c0, c1, c2, c3, c4, c5, c6, c7, c8, c9, c10, c11⟩ := h0
  refine calls_mono (c_X11_optionT E S G this paper day strike number known hS (G 128 this 10) rfl (q6_options h6) (G 158 (G 128 this 10) 2) rfl (G 128 this 1) rfl paper_a paper_b day_a day_b strike_a strike_b number_a number_b known_a known_b ci) ?_
  rintro r S' G' ⟨g, z, rfl, s2, x1, l2, x2, za, zb, hz, ci'⟩
  have f : ∀ gs : List (Int × Int), djg [(128, 0), (128, 1), (129, 1), (152, 0), (152, 1), (152, 2), (152, 3), (152, 4), (152, 5), (152, 6), (152, 8), (158, 0), (158, 1), (158, 2), (179, -1)] gs = true → Frm gs S G S' G' := fun gs c => frm_gr g c
  have q6 := q6_frm h6 (f _ rfl)
  have q1 := q1_frm ci h6 h1 (f _ rfl)
  have q2 := q2_frm ci h6 h2 (f _ rfl)
  have q3 := q3_frm ci h6 h3 (f _ rfl)
  have q4 := q4_frm ci h6 h4 (f _ rfl)
  have q5 := q5_frm h6 h5 (f _ rfl)
  have q7 := q7_frm h6 h7 (f _ rfl)
  have e1 := d1_frm ci h6 d1 (f _ rfl)
  have e2 := d2_frm ci h6 d2 (f _ rfl)
  have e3 := d3_frm ci h6 d3 (f _ rfl)
  have io := oOpt_iff t paper day strike number known
  by_cases ho : oOpt t paper day strike number known = true
  · have hv : z = t 5 0 ∧ s2 = t 5 0 + 1 ∧ l2 = known := by
      have o := io.mp ho
      clear io ho
      omega
    have ev : tOpt t paper day strike number known = (tOne t 5 known, t 5 0) := if_pos ho
    clear hz
    rw [ev]
    exact ⟨g, ⟨q6, (q0_mk (t := t) h6 (f _ rfl) ((fr1 (L := 130) (j := 0) f rfl (q6_accounts h6) (by decide)).trans c0) ((fr1 (L := 154) (j := 2) f rfl (q6_issues h6) (by decide)).trans c1) ((fr1 (L := 155) (j := 2) f rfl (q6_trades h6) (by decide)).trans c2) ((fr1 (L := 156) (j := 2) f rfl (q6_events h6) (by decide)).trans c3) ((fr1 (L := 157) (j := 2) f rfl (q6_picks h6) (by decide)).trans c4) (x1.symm.trans hv.2.1) ((fr1 (L := 159) (j := 2) f rfl (q6_names h6) (by decide)).trans c6) (x2.symm.trans hv.2.2) ((fr1 (L := 131) (j := 0) f rfl (q6_reader h6) (by decide)).trans c8) ((fr1 (L := 129) (j := 0) f rfl (q6_run h6) (by decide)).trans c9) ((fr1 (L := 131) (j := 1) f rfl (q6_reader h6) (by decide)).trans c10) ((fr1 (L := 131) (j := 2) f rfl (q6_reader h6) (by decide)).trans c11)), q1, q2, q3, q4, q5, q7, e1, e2, e3⟩, z, rfl, za, zb, hv.1, ci'⟩
  · have hv : z = -1 ∧ s2 = t 5 0 ∧ l2 = t 7 0 := by
      have o := mt io.mpr ho
      clear io ho
      omega
    have ev : tOpt t paper day strike number known = (t, -1) := if_neg ho
    clear hz
    rw [ev]
    exact ⟨g, ⟨q6, (q0_mk (t := t) h6 (f _ rfl) ((fr1 (L := 130) (j := 0) f rfl (q6_accounts h6) (by decide)).trans c0) ((fr1 (L := 154) (j := 2) f rfl (q6_issues h6) (by decide)).trans c1) ((fr1 (L := 155) (j := 2) f rfl (q6_trades h6) (by decide)).trans c2) ((fr1 (L := 156) (j := 2) f rfl (q6_events h6) (by decide)).trans c3) ((fr1 (L := 157) (j := 2) f rfl (q6_picks h6) (by decide)).trans c4) (x1.symm.trans hv.2.1) ((fr1 (L := 159) (j := 2) f rfl (q6_names h6) (by decide)).trans c6) (x2.symm.trans hv.2.2) ((fr1 (L := 131) (j := 0) f rfl (q6_reader h6) (by decide)).trans c8) ((fr1 (L := 129) (j := 0) f rfl (q6_run h6) (by decide)).trans c9) ((fr1 (L := 131) (j := 1) f rfl (q6_reader h6) (by decide)).trans c10) ((fr1 (L := 131) (j := 2) f rfl (q6_reader h6) (by decide)).trans c11)), q1, q2, q3, q4, q5, q7, e1, e2, e3⟩, z, rfl, za, zb, hv.1, ci'⟩
theorem k_name (E : En) (S : Sg) (G : Gh) (this paper name_ day known : Int) (hS : S this = 128) (paper_a : -2147483648 ≤ paper) (paper_b : paper ≤ 2147483647) (name__a : -2147483648 ≤ name_) (name__b : name_ ≤ 2147483647) (day_a : -2147483648 ≤ day) (day_b : day ≤ 2147483647) (known_a : -2147483648 ≤ known) (known_b : known ≤ 2147483647) (ci : CI E S G) (t : Tz) (h : RelC S G this t) : Calls E mX11_name [(2, this), (0, paper), (0, name_), (0, day), (0, known)] S G 15 2 82 (fun r S' G' => Gr [141, 152, 160, 161, 162, 163, 164, 165, 166, 167, 168, 169, 170, 171, 172, 173, 174, 175, 176, 177, 178, 179, 180, 181, 182, 183, 184, 185] [(128, 0), (128, 1), (129, 1), (152, 0), (152, 1), (152, 2), (152, 3), (152, 4), (152, 5), (152, 6), (159, 0), (159, 1), (159, 2), (180, -1), (181, -1), (182, -1), (183, -1), (184, -1), (185, -1)] S G S' G' ∧ RelC S' G' this (tNam t paper name_ day known).1 ∧ ∃ z : Int, r = some (0, z) ∧ 0 ≤ z ∧ z ≤ 1 ∧ z = (tNam t paper name_ day known).2 ∧ CI E S' G') := by
  obtain ⟨h6, h0, h1, h2, h3, h4, h5, h7, d1, d2, d3⟩ := h
  obtain ⟨c0, c1, c2, c3, c4, c5, c6, c7, c8, c9, c10, c11⟩ := h0
  refine calls_mono (c_X11_nameT E S G this paper name_ day known hS (G 128 this 11) rfl (q6_names h6) (G 159 (G 128 this 11) 2) rfl (G 128 this 1) rfl paper_a paper_b name__a name__b day_a day_b known_a known_b ci) ?_
  rintro r S' G' ⟨g, z, rfl, s2, x1, l2, x2, za, zb, hz, ci', old, nw⟩
  have f : ∀ gs : List (Int × Int), djg [(128, 0), (128, 1), (129, 1), (152, 0), (152, 1), (152, 2), (152, 3), (152, 4), (152, 5), (152, 6), (159, 0), (159, 1), (159, 2), (180, -1), (181, -1), (182, -1), (183, -1), (184, -1), (185, -1)] gs = true → Frm gs S G S' G' := fun gs c => frm_gr g c
  have eF : G' 128 this 11 = G 128 this 11 := fr1 (L := 128) (j := 11) f rfl h6.1 (by decide)
  rw [c6] at old nw
  have q6 := q6_frm h6 (f _ rfl)
  have q1 := q1_frm ci h6 h1 (f _ rfl)
  have q2 := q2_frm ci h6 h2 (f _ rfl)
  have q3 := q3_frm ci h6 h3 (f _ rfl)
  have q5 := q5_frm h6 h5 (f _ rfl)
  have q7 := q7_frm h6 h7 (f _ rfl)
  have e1 := d1_frm ci h6 d1 (f _ rfl)
  have e2 := d2_frm ci h6 d2 (f _ rfl)
  have e3 := d3_frm ci h6 d3 (f _ rfl)
  have io := oNam_iff t paper name_ day known
  by_cases ho : oNam t paper name_ day known = true
  · have hv : z = 1 ∧ s2 = t 6 0 + 1 ∧ l2 = known := by
      have o := io.mp ho
      clear io ho
      omega
    have ev : tNam t paper name_ day known = (tOne (tu (tu (tu (tu t 30 (t 6 0) paper) 31 (t 6 0) day) 32 (t 6 0) name_) 33 (t 6 0) known) 6 known, 1) := if_pos ho
    clear hz
    rw [ev]
    have q4 : Q4 S' G' this (tOne (tu (tu (tu (tu t 30 (t 6 0) paper) 31 (t 6 0) day) 32 (t 6 0) name_) 33 (t 6 0) known) 6 known) := by
      intro i i0 i1
      rw [eF] at i1 ⊢
      rw [← x1] at i1
      by_cases cc : i = t 6 0
      · skip
        rw [cc]
        obtain ⟨-, -, y2, y3, y4, y0, y1⟩ := nw.resolve_left (by first | decide | omega)
        exact ⟨y2.trans (tu_at t 30 (t 6 0) paper).symm, y3.trans (tu_at (tu t 30 (t 6 0) paper) 31 (t 6 0) day).symm, y4.trans (tu_at (tu (tu t 30 (t 6 0) paper) 31 (t 6 0) day) 32 (t 6 0) name_).symm, y0.trans (tu_at (tu (tu (tu t 30 (t 6 0) paper) 31 (t 6 0) day) 32 (t 6 0) name_) 33 (t 6 0) known).symm, y1⟩
      · skip
        rw [(old i i0 (by first | decide | omega))]
        have lb : S (elm S G 159 (G 128 this 11) i) = 141 := ell_159 ci (q6_names h6) i0 (by first | decide | omega)
        obtain ⟨y2, y3, y4, y0, y1⟩ := h4 i i0 (by first | decide | omega)
        exact ⟨(fr1 (L := 141) (j := 2) f rfl lb (by decide)).trans (y2.trans (tu_ni (t := t) (c := 30) (v := paper) (c' := 30) (by omega : i ≠ t 6 0)).symm), (fr1 (L := 141) (j := 3) f rfl lb (by decide)).trans (y3.trans (tu_ni (t := (tu t 30 (t 6 0) paper)) (c := 31) (v := day) (c' := 31) (by omega : i ≠ t 6 0)).symm), (fr1 (L := 141) (j := 4) f rfl lb (by decide)).trans (y4.trans (tu_ni (t := (tu (tu t 30 (t 6 0) paper) 31 (t 6 0) day)) (c := 32) (v := name_) (c' := 32) (by omega : i ≠ t 6 0)).symm), (fr1 (L := 141) (j := 0) f rfl lb (by decide)).trans (y0.trans (tu_ni (t := (tu (tu (tu t 30 (t 6 0) paper) 31 (t 6 0) day) 32 (t 6 0) name_)) (c := 33) (v := known) (c' := 33) (by omega : i ≠ t 6 0)).symm), (fr1 (L := 141) (j := 1) f rfl lb (by decide)).trans y1⟩
    exact ⟨g, ⟨q6, (q0_mk (t := t) h6 (f _ rfl) ((fr1 (L := 130) (j := 0) f rfl (q6_accounts h6) (by decide)).trans c0) ((fr1 (L := 154) (j := 2) f rfl (q6_issues h6) (by decide)).trans c1) ((fr1 (L := 155) (j := 2) f rfl (q6_trades h6) (by decide)).trans c2) ((fr1 (L := 156) (j := 2) f rfl (q6_events h6) (by decide)).trans c3) ((fr1 (L := 157) (j := 2) f rfl (q6_picks h6) (by decide)).trans c4) ((fr1 (L := 158) (j := 2) f rfl (q6_options h6) (by decide)).trans c5) (x1.symm.trans hv.2.1) (x2.symm.trans hv.2.2) ((fr1 (L := 131) (j := 0) f rfl (q6_reader h6) (by decide)).trans c8) ((fr1 (L := 129) (j := 0) f rfl (q6_run h6) (by decide)).trans c9) ((fr1 (L := 131) (j := 1) f rfl (q6_reader h6) (by decide)).trans c10) ((fr1 (L := 131) (j := 2) f rfl (q6_reader h6) (by decide)).trans c11)), q1, q2, q3, q4, q5, q7, e1, e2, e3⟩, z, rfl, za, zb, hv.1, ci'⟩
  · have hv : z = 0 ∧ s2 = t 6 0 ∧ l2 = t 7 0 := by
      have o := mt io.mpr ho
      clear io ho
      omega
    have ev : tNam t paper name_ day known = (t, 0) := if_neg ho
    clear hz
    rw [ev]
    have q4 : Q4 S' G' this (t) := by
      intro i i0 i1
      rw [eF] at i1 ⊢
      rw [← x1] at i1
      rw [(old i i0 (by first | decide | omega))]
      have lb : S (elm S G 159 (G 128 this 11) i) = 141 := ell_159 ci (q6_names h6) i0 (by first | decide | omega)
      obtain ⟨y2, y3, y4, y0, y1⟩ := h4 i i0 (by first | decide | omega)
      exact ⟨(fr1 (L := 141) (j := 2) f rfl lb (by decide)).trans y2, (fr1 (L := 141) (j := 3) f rfl lb (by decide)).trans y3, (fr1 (L := 141) (j := 4) f rfl lb (by decide)).trans y4, (fr1 (L := 141) (j := 0) f rfl lb (by decide)).trans y0, (fr1 (L := 141) (j := 1) f rfl lb (by decide)).trans y1⟩
    exact ⟨g, ⟨q6, (q0_mk (t := t) h6 (f _ rfl) ((fr1 (L := 130) (j := 0) f rfl (q6_accounts h6) (by decide)).trans c0) ((fr1 (L := 154) (j := 2) f rfl (q6_issues h6) (by decide)).trans c1) ((fr1 (L := 155) (j := 2) f rfl (q6_trades h6) (by decide)).trans c2) ((fr1 (L := 156) (j := 2) f rfl (q6_events h6) (by decide)).trans c3) ((fr1 (L := 157) (j := 2) f rfl (q6_picks h6) (by decide)).trans c4) ((fr1 (L := 158) (j := 2) f rfl (q6_options h6) (by decide)).trans c5) (x1.symm.trans hv.2.1) (x2.symm.trans hv.2.2) ((fr1 (L := 131) (j := 0) f rfl (q6_reader h6) (by decide)).trans c8) ((fr1 (L := 129) (j := 0) f rfl (q6_run h6) (by decide)).trans c9) ((fr1 (L := 131) (j := 1) f rfl (q6_reader h6) (by decide)).trans c10) ((fr1 (L := 131) (j := 2) f rfl (q6_reader h6) (by decide)).trans c11)), q1, q2, q3, q4, q5, q7, e1, e2, e3⟩, z, rfl, za, zb, hv.1, ci'⟩
theorem k_choose (E : En) (S : Sg) (G : Gh) (this event account choice day known : Int) (hS : S this = 128) (event_a : -2147483648 ≤ event) (event_b : event ≤ 2147483647) (account_a : -2147483648 ≤ account) (account_b : account ≤ 2147483647) (choice_a : -2147483648 ≤ choice) (choice_b : choice ≤ 2147483647) (day_a : -2147483648 ≤ day) (day_b : day ≤ 2147483647) (known_a : -2147483648 ≤ known) (known_b : known ≤ 2147483647) (ci : CI E S G) (t : Tz) (h : RelC S G this t) : Calls E mX11_choose [(2, this), (0, event), (0, account), (0, choice), (0, day), (0, known)] S G 15 2 79 (fun r S' G' => Gr [138, 151, 160, 161, 162, 163, 164, 165, 166, 167, 168, 169, 170, 171, 172, 173, 174, 175, 176, 177, 178, 179, 180, 181, 182, 183, 184, 185] [(128, 0), (128, 1), (129, 1), (151, 0), (151, 1), (151, 2), (151, 3), (151, 4), (151, 5), (157, 0), (157, 1), (157, 2), (173, -1), (174, -1), (175, -1), (176, -1), (177, -1), (178, -1)] S G S' G' ∧ RelC S' G' this (tChs t event account choice day known).1 ∧ ∃ z : Int, r = some (0, z) ∧ (-2147483648) ≤ z ∧ z ≤ 2147483647 ∧ z = (tChs t event account choice day known).2 ∧ CI E S' G') := by
  obtain ⟨h6, h0, h1, h2, h3, h4, h5, h7, d1, d2, d3⟩ := h
  obtain ⟨c0, c1, c2, c3, c4, c5, c6, c7, c8, c9, c10, c11⟩ := h0
  refine calls_mono (c_X11_chooseT E S G this event account choice day known hS (G 128 this 8) rfl (q6_events h6) (G 156 (G 128 this 8) 2) rfl (G 128 this 5) rfl (q6_accounts h6) (G 130 (G 128 this 5) 0) rfl (G 128 this 9) rfl (q6_picks h6) (G 157 (G 128 this 9) 2) rfl (G 128 this 1) rfl event_a event_b account_a account_b choice_a choice_b day_a day_b known_a known_b ci) ?_
  rintro r S' G' ⟨g, z, rfl, s2, x1, l2, x2, za, zb, hz, ci', old, nw⟩
  have f : ∀ gs : List (Int × Int), djg [(128, 0), (128, 1), (129, 1), (151, 0), (151, 1), (151, 2), (151, 3), (151, 4), (151, 5), (157, 0), (157, 1), (157, 2), (173, -1), (174, -1), (175, -1), (176, -1), (177, -1), (178, -1)] gs = true → Frm gs S G S' G' := fun gs c => frm_gr g c
  have eF : G' 128 this 9 = G 128 this 9 := fr1 (L := 128) (j := 9) f rfl h6.1 (by decide)
  rw [c4] at old nw
  have q6 := q6_frm h6 (f _ rfl)
  have q1 := q1_frm ci h6 h1 (f _ rfl)
  have q2 := q2_frm ci h6 h2 (f _ rfl)
  have q4 := q4_frm ci h6 h4 (f _ rfl)
  have q5 := q5_frm h6 h5 (f _ rfl)
  have q7 := q7_frm h6 h7 (f _ rfl)
  have e1 := d1_frm ci h6 d1 (f _ rfl)
  have e2 := d2_frm ci h6 d2 (f _ rfl)
  have lk : ¬ (0 ≤ event ∧ event < t 3 0) ∨ G 136 (G 137 (elm S G 156 (G 128 this 8) event) 3) 1 = t 23 event := by
    by_cases he : 0 ≤ event ∧ event < t 3 0
    · exact Or.inr (h2 event he.1 (by first | decide | omega)).2.2.1
    · exact Or.inl he
  have io := oChs_iff t event account choice day known
  by_cases ho : oChs t event account choice day known = true
  · have hv : z = t 4 0 ∧ s2 = t 4 0 + 1 ∧ l2 = known := by
      have o := io.mp ho
      clear io ho
      omega
    have ev : tChs t event account choice day known = (tOne (tu t 22 (t 4 0) (-1)) 4 known, t 4 0) := if_pos ho
    clear hz
    rw [ev]
    have q3 : Q3 S' G' this (tOne (tu t 22 (t 4 0) (-1)) 4 known) := by
      intro i i0 i1
      rw [eF] at i1 ⊢
      rw [← x1] at i1
      by_cases cc : i = t 4 0
      · skip
        rw [cc]
        exact (nw.resolve_left (by first | decide | omega)).2.2.trans (tu_at t 22 (t 4 0) (-1)).symm
      · skip
        rw [(old i i0 (by first | decide | omega))]
        have lb : S (elm S G 157 (G 128 this 9) i) = 138 := ell_157 ci (q6_picks h6) i0 (by first | decide | omega)
        exact (fr1 (L := 138) (j := 1) f rfl lb (by decide)).trans ((h3 i i0 (by first | decide | omega)).trans (tu_ni (t := t) (c := 22) (v := -1) (c' := 22) (by omega : i ≠ t 4 0)).symm)
    have e3 : D3 S' G' this := by
      intro i j i0 ij j1
      rw [eF] at j1 ⊢
      rw [← x1] at j1
      by_cases cc : j = t 4 0
      · skip
        have lb : S (elm S G 157 (G 128 this 9) i) = 138 := ell_157 ci (q6_picks h6) i0 (by first | decide | omega)
        rw [cc, old i i0 (by first | decide | omega)]
        intro w
        have nz := (nw.resolve_left (by first | decide | omega)).1
        rw [← w, lb] at nz
        exact absurd nz (by decide)
      · skip
        rw [old i i0 (by first | decide | omega), old j (by first | decide | omega) (by first | decide | omega)]
        exact d3 i j i0 ij (by first | decide | omega)
    exact ⟨g, ⟨q6, (q0_mk (t := t) h6 (f _ rfl) ((fr1 (L := 130) (j := 0) f rfl (q6_accounts h6) (by decide)).trans c0) ((fr1 (L := 154) (j := 2) f rfl (q6_issues h6) (by decide)).trans c1) ((fr1 (L := 155) (j := 2) f rfl (q6_trades h6) (by decide)).trans c2) ((fr1 (L := 156) (j := 2) f rfl (q6_events h6) (by decide)).trans c3) (x1.symm.trans hv.2.1) ((fr1 (L := 158) (j := 2) f rfl (q6_options h6) (by decide)).trans c5) ((fr1 (L := 159) (j := 2) f rfl (q6_names h6) (by decide)).trans c6) (x2.symm.trans hv.2.2) ((fr1 (L := 131) (j := 0) f rfl (q6_reader h6) (by decide)).trans c8) ((fr1 (L := 129) (j := 0) f rfl (q6_run h6) (by decide)).trans c9) ((fr1 (L := 131) (j := 1) f rfl (q6_reader h6) (by decide)).trans c10) ((fr1 (L := 131) (j := 2) f rfl (q6_reader h6) (by decide)).trans c11)), q1, q2, q3, q4, q5, q7, e1, e2, e3⟩, z, rfl, za, zb, hv.1, ci'⟩
  · have hv : z = -1 ∧ s2 = t 4 0 ∧ l2 = t 7 0 := by
      have o := mt io.mpr ho
      clear io ho
      omega
    have ev : tChs t event account choice day known = (t, -1) := if_neg ho
    clear hz
    rw [ev]
    have q3 : Q3 S' G' this (t) := by
      intro i i0 i1
      rw [eF] at i1 ⊢
      rw [← x1] at i1
      rw [(old i i0 (by first | decide | omega))]
      have lb : S (elm S G 157 (G 128 this 9) i) = 138 := ell_157 ci (q6_picks h6) i0 (by first | decide | omega)
      exact (fr1 (L := 138) (j := 1) f rfl lb (by decide)).trans ((h3 i i0 (by first | decide | omega)).trans rfl)
    have e3 : D3 S' G' this := by
      intro i j i0 ij j1
      rw [eF] at j1 ⊢
      rw [← x1] at j1
      rw [old i i0 (by first | decide | omega), old j (by first | decide | omega) (by first | decide | omega)]
      exact d3 i j i0 ij (by first | decide | omega)
    exact ⟨g, ⟨q6, (q0_mk (t := t) h6 (f _ rfl) ((fr1 (L := 130) (j := 0) f rfl (q6_accounts h6) (by decide)).trans c0) ((fr1 (L := 154) (j := 2) f rfl (q6_issues h6) (by decide)).trans c1) ((fr1 (L := 155) (j := 2) f rfl (q6_trades h6) (by decide)).trans c2) ((fr1 (L := 156) (j := 2) f rfl (q6_events h6) (by decide)).trans c3) (x1.symm.trans hv.2.1) ((fr1 (L := 158) (j := 2) f rfl (q6_options h6) (by decide)).trans c5) ((fr1 (L := 159) (j := 2) f rfl (q6_names h6) (by decide)).trans c6) (x2.symm.trans hv.2.2) ((fr1 (L := 131) (j := 0) f rfl (q6_reader h6) (by decide)).trans c8) ((fr1 (L := 129) (j := 0) f rfl (q6_run h6) (by decide)).trans c9) ((fr1 (L := 131) (j := 1) f rfl (q6_reader h6) (by decide)).trans c10) ((fr1 (L := 131) (j := 2) f rfl (q6_reader h6) (by decide)).trans c11)), q1, q2, q3, q4, q5, q7, e1, e2, e3⟩, z, rfl, za, zb, hv.1, ci'⟩
theorem k_asof (E : En) (S : Sg) (G : Gh) (this day : Int) (hS : S this = 128) (day_a : -2147483648 ≤ day) (day_b : day ≤ 2147483647) (ci : CI E S G) (t : Tz) (h : RelC S G this t) : Calls E mX11_asof [(2, this), (0, day)] S G 2 0 0 (fun r S' G' => S = S' ∧ (∃ G1, hw [(128, 0), (129, 0), (129, 1)] G G1 = G') ∧ RelC S' G' this (tAso t day).1 ∧ ∃ z : Int, r = some (0, z) ∧ 0 ≤ z ∧ z ≤ 1 ∧ z = (tAso t day).2) := by
  obtain ⟨h6, h0, h1, h2, h3, h4, h5, h7, d1, d2, d3⟩ := h
  obtain ⟨c0, c1, c2, c3, c4, c5, c6, c7, c8, c9, c10, c11⟩ := h0
  refine calls_mono (c_X11_asofT E S G this day hS (G 128 this 17) rfl (q6_run h6) (G 129 (G 128 this 17) 0) rfl day_a day_b) ?_
  rintro r S' G' ⟨rfl, ⟨g, rfl⟩, z, rfl, a2, x1, za, zb, hz⟩
  have f : ∀ gs : List (Int × Int), djg [(128, 0), (129, 0), (129, 1)] gs = true → Frm gs S G S (hw [(128, 0), (129, 0), (129, 1)] G g) := fun gs c => frm_hw c
  have q6 := q6_frm h6 (f _ rfl)
  have q1 := q1_frm ci h6 h1 (f _ rfl)
  have q2 := q2_frm ci h6 h2 (f _ rfl)
  have q3 := q3_frm ci h6 h3 (f _ rfl)
  have q4 := q4_frm ci h6 h4 (f _ rfl)
  have q5 := q5_frm h6 h5 (f _ rfl)
  have q7 := q7_frm h6 h7 (f _ rfl)
  have e1 := d1_frm ci h6 d1 (f _ rfl)
  have e2 := d2_frm ci h6 d2 (f _ rfl)
  have e3 := d3_frm ci h6 d3 (f _ rfl)
  by_cases ho : iDay day = true
  · have o : 0 ≤ day ∧ day ≤ 40000 := of_decide_eq_true ho
    have hv : z = 1 ∧ a2 = day := by
      clear ho
      omega
    have ev : tAso t day = (tu t 9 0 day, 1) := if_pos ho
    rw [ev]
    exact ⟨rfl, ⟨g, rfl⟩, ⟨q6, (q0_mk (t := t) h6 (f _ rfl) ((fr1 (L := 130) (j := 0) f rfl (q6_accounts h6) (by decide)).trans c0) ((fr1 (L := 154) (j := 2) f rfl (q6_issues h6) (by decide)).trans c1) ((fr1 (L := 155) (j := 2) f rfl (q6_trades h6) (by decide)).trans c2) ((fr1 (L := 156) (j := 2) f rfl (q6_events h6) (by decide)).trans c3) ((fr1 (L := 157) (j := 2) f rfl (q6_picks h6) (by decide)).trans c4) ((fr1 (L := 158) (j := 2) f rfl (q6_options h6) (by decide)).trans c5) ((fr1 (L := 159) (j := 2) f rfl (q6_names h6) (by decide)).trans c6) ((fr1 (L := 128) (j := 1) f rfl h6.1 (by decide)).trans c7) ((fr1 (L := 131) (j := 0) f rfl (q6_reader h6) (by decide)).trans c8) (x1.symm.trans hv.2) ((fr1 (L := 131) (j := 1) f rfl (q6_reader h6) (by decide)).trans c10) ((fr1 (L := 131) (j := 2) f rfl (q6_reader h6) (by decide)).trans c11)), q1, q2, q3, q4, q5, q7, e1, e2, e3⟩, z, rfl, za, zb, hv.1⟩
  · have o : ¬ (0 ≤ day ∧ day ≤ 40000) := fun q => ho (decide_eq_true q)
    have hv : z = 0 ∧ a2 = t 9 0 := by
      clear ho
      omega
    have ev : tAso t day = (t, 0) := if_neg ho
    rw [ev]
    exact ⟨rfl, ⟨g, rfl⟩, ⟨q6, (q0_mk (t := t) h6 (f _ rfl) ((fr1 (L := 130) (j := 0) f rfl (q6_accounts h6) (by decide)).trans c0) ((fr1 (L := 154) (j := 2) f rfl (q6_issues h6) (by decide)).trans c1) ((fr1 (L := 155) (j := 2) f rfl (q6_trades h6) (by decide)).trans c2) ((fr1 (L := 156) (j := 2) f rfl (q6_events h6) (by decide)).trans c3) ((fr1 (L := 157) (j := 2) f rfl (q6_picks h6) (by decide)).trans c4) ((fr1 (L := 158) (j := 2) f rfl (q6_options h6) (by decide)).trans c5) ((fr1 (L := 159) (j := 2) f rfl (q6_names h6) (by decide)).trans c6) ((fr1 (L := 128) (j := 1) f rfl h6.1 (by decide)).trans c7) ((fr1 (L := 131) (j := 0) f rfl (q6_reader h6) (by decide)).trans c8) (x1.symm.trans hv.2) ((fr1 (L := 131) (j := 1) f rfl (q6_reader h6) (by decide)).trans c10) ((fr1 (L := 131) (j := 2) f rfl (q6_reader h6) (by decide)).trans c11)), q1, q2, q3, q4, q5, q7, e1, e2, e3⟩, z, rfl, za, zb, hv.1⟩
theorem k_account (E : En) (S : Sg) (G : Gh) (this under lead delay : Int) (hS : S this = 128) (under_a : -2147483648 ≤ under) (under_b : under ≤ 2147483647) (lead_a : -2147483648 ≤ lead) (lead_b : lead ≤ 2147483647) (delay_a : -2147483648 ≤ delay) (delay_b : delay ≤ 2147483647) (ci : CI E S G) (t : Tz) (h : RelC S G this t) : Calls E mX11_account [(2, this), (0, under), (0, lead), (0, delay)] S G 2 0 0 (fun r S' G' => S = S' ∧ (∃ G1, hw [(93, -1), (94, -1), (128, 0), (129, 1), (130, 0)] G G1 = G') ∧ RelC S' G' this (tAcc t under lead delay).1 ∧ ∃ z : Int, r = some (0, z) ∧ -1 ≤ z ∧ z ≤ 19 ∧ z = (tAcc t under lead delay).2) := by
  obtain ⟨h6, h0, h1, h2, h3, h4, h5, h7, d1, d2, d3⟩ := h
  obtain ⟨c0, c1, c2, c3, c4, c5, c6, c7, c8, c9, c10, c11⟩ := h0
  refine calls_mono (c_accountX E S G this under lead delay hS (G 128 this 5) rfl (q6_accounts h6) (G 130 (G 128 this 5) 0) rfl under_a under_b lead_a lead_b delay_a delay_b ci) ?_
  rintro r S' G' ⟨rfl, ⟨g, rfl⟩, z, rfl, c2_, x1, hz⟩
  have f : ∀ gs : List (Int × Int), djg [(93, -1), (94, -1), (128, 0), (129, 1), (130, 0)] gs = true → Frm gs S G S (hw [(93, -1), (94, -1), (128, 0), (129, 1), (130, 0)] G g) := fun gs c => frm_hw c
  have q6 := q6_frm h6 (f _ rfl)
  have q1 := q1_frm ci h6 h1 (f _ rfl)
  have q2 := q2_frm ci h6 h2 (f _ rfl)
  have q3 := q3_frm ci h6 h3 (f _ rfl)
  have q4 := q4_frm ci h6 h4 (f _ rfl)
  have q5 := q5_frm h6 h5 (f _ rfl)
  have q7 := q7_frm h6 h7 (f _ rfl)
  have e1 := d1_frm ci h6 d1 (f _ rfl)
  have e2 := d2_frm ci h6 d2 (f _ rfl)
  have e3 := d3_frm ci h6 d3 (f _ rfl)
  have io := oAcc_iff t under lead delay
  by_cases ho : oAcc t under lead delay = true
  · have hv : z = t 0 0 ∧ c2_ = t 0 0 + 1 ∧ -1 ≤ z ∧ z ≤ 19 := by
      have o := io.mp ho
      clear io ho
      omega
    have ev : tAcc t under lead delay = (tu t 0 0 (t 0 0 + 1), t 0 0) := if_pos ho
    rw [ev]
    exact ⟨rfl, ⟨g, rfl⟩, ⟨q6, (q0_mk (t := t) h6 (f _ rfl) (x1.symm.trans hv.2.1) ((fr1 (L := 154) (j := 2) f rfl (q6_issues h6) (by decide)).trans c1) ((fr1 (L := 155) (j := 2) f rfl (q6_trades h6) (by decide)).trans c2) ((fr1 (L := 156) (j := 2) f rfl (q6_events h6) (by decide)).trans c3) ((fr1 (L := 157) (j := 2) f rfl (q6_picks h6) (by decide)).trans c4) ((fr1 (L := 158) (j := 2) f rfl (q6_options h6) (by decide)).trans c5) ((fr1 (L := 159) (j := 2) f rfl (q6_names h6) (by decide)).trans c6) ((fr1 (L := 128) (j := 1) f rfl h6.1 (by decide)).trans c7) ((fr1 (L := 131) (j := 0) f rfl (q6_reader h6) (by decide)).trans c8) ((fr1 (L := 129) (j := 0) f rfl (q6_run h6) (by decide)).trans c9) ((fr1 (L := 131) (j := 1) f rfl (q6_reader h6) (by decide)).trans c10) ((fr1 (L := 131) (j := 2) f rfl (q6_reader h6) (by decide)).trans c11)), q1, q2, q3, q4, q5, q7, e1, e2, e3⟩, z, rfl, hv.2.2.1, hv.2.2.2, hv.1⟩
  · have hv : z = -1 ∧ c2_ = t 0 0 ∧ -1 ≤ z ∧ z ≤ 19 := by
      have o := mt io.mpr ho
      clear io ho
      omega
    have ev : tAcc t under lead delay = (t, -1) := if_neg ho
    rw [ev]
    exact ⟨rfl, ⟨g, rfl⟩, ⟨q6, (q0_mk (t := t) h6 (f _ rfl) (x1.symm.trans hv.2.1) ((fr1 (L := 154) (j := 2) f rfl (q6_issues h6) (by decide)).trans c1) ((fr1 (L := 155) (j := 2) f rfl (q6_trades h6) (by decide)).trans c2) ((fr1 (L := 156) (j := 2) f rfl (q6_events h6) (by decide)).trans c3) ((fr1 (L := 157) (j := 2) f rfl (q6_picks h6) (by decide)).trans c4) ((fr1 (L := 158) (j := 2) f rfl (q6_options h6) (by decide)).trans c5) ((fr1 (L := 159) (j := 2) f rfl (q6_names h6) (by decide)).trans c6) ((fr1 (L := 128) (j := 1) f rfl h6.1 (by decide)).trans c7) ((fr1 (L := 131) (j := 0) f rfl (q6_reader h6) (by decide)).trans c8) ((fr1 (L := 129) (j := 0) f rfl (q6_run h6) (by decide)).trans c9) ((fr1 (L := 131) (j := 1) f rfl (q6_reader h6) (by decide)).trans c10) ((fr1 (L := 131) (j := 2) f rfl (q6_reader h6) (by decide)).trans c11)), q1, q2, q3, q4, q5, q7, e1, e2, e3⟩, z, rfl, hv.2.2.1, hv.2.2.2, hv.1⟩
theorem k_fault (E : En) (S : Sg) (G : Gh) (this what : Int) (hS : S this = 128) (what_a : -2147483648 ≤ what) (what_b : what ≤ 2147483647) (ci : CI E S G) (t : Tz) (h : RelC S G this t) : Calls E mX11_fault [(2, this), (0, what)] S G 0 0 0 (fun r S' G' => S = S' ∧ G = G' ∧ RelC S' G' this ((t, tFau t what)).1 ∧ ∃ z : Int, r = some (0, z) ∧ (-2147483648) ≤ z ∧ z ≤ 2147483647 ∧ z = ((t, tFau t what)).2) := by
  obtain ⟨h6, h0, h1, h2, h3, h4, h5, h7, d1, d2, d3⟩ := h
  obtain ⟨c0, c1, c2, c3, c4, c5, c6, c7, c8, c9, c10, c11⟩ := h0
  refine calls_mono (c_X11_faultT E S G this what hS (G 128 this 16) rfl (q6_reader h6) (G 131 (G 128 this 16) 1) rfl (G 131 (G 128 this 16) 2) rfl what_a what_b) ?_
  rintro r S' G' ⟨rfl, rfl, z, rfl, za, zb, hz⟩
  have f : ∀ gs : List (Int × Int), djg [] gs = true → Frm gs S G S G := fun gs c => frm_refl gs S G
  have q6 := q6_frm h6 (f _ rfl)
  have q1 := q1_frm ci h6 h1 (f _ rfl)
  have q2 := q2_frm ci h6 h2 (f _ rfl)
  have q3 := q3_frm ci h6 h3 (f _ rfl)
  have q4 := q4_frm ci h6 h4 (f _ rfl)
  have q5 := q5_frm h6 h5 (f _ rfl)
  have q7 := q7_frm h6 h7 (f _ rfl)
  have e1 := d1_frm ci h6 d1 (f _ rfl)
  have e2 := d2_frm ci h6 d2 (f _ rfl)
  have e3 := d3_frm ci h6 d3 (f _ rfl)
  have hv : z = tFau t what := by
    unfold tFau
    rcases hz with ⟨w, hz⟩ | ⟨w, hz⟩ | ⟨w, w2, hz⟩
    · rw [if_pos w]
      exact hz.trans c10
    · rw [if_neg (by first | decide | omega), if_pos w]
      exact hz.trans c11
    · rw [if_neg w, if_neg w2]
      exact hz
  exact ⟨rfl, rfl, ⟨q6, (q0_mk (t := t) h6 (f _ rfl) ((fr1 (L := 130) (j := 0) f rfl (q6_accounts h6) (by decide)).trans c0) ((fr1 (L := 154) (j := 2) f rfl (q6_issues h6) (by decide)).trans c1) ((fr1 (L := 155) (j := 2) f rfl (q6_trades h6) (by decide)).trans c2) ((fr1 (L := 156) (j := 2) f rfl (q6_events h6) (by decide)).trans c3) ((fr1 (L := 157) (j := 2) f rfl (q6_picks h6) (by decide)).trans c4) ((fr1 (L := 158) (j := 2) f rfl (q6_options h6) (by decide)).trans c5) ((fr1 (L := 159) (j := 2) f rfl (q6_names h6) (by decide)).trans c6) ((fr1 (L := 128) (j := 1) f rfl h6.1 (by decide)).trans c7) ((fr1 (L := 131) (j := 0) f rfl (q6_reader h6) (by decide)).trans c8) ((fr1 (L := 129) (j := 0) f rfl (q6_run h6) (by decide)).trans c9) ((fr1 (L := 131) (j := 1) f rfl (q6_reader h6) (by decide)).trans c10) ((fr1 (L := 131) (j := 2) f rfl (q6_reader h6) (by decide)).trans c11)), q1, q2, q3, q4, q5, q7, e1, e2, e3⟩, z, rfl, za, zb, hv⟩
theorem k_choices (E : En) (S : Sg) (G : Gh) (this event : Int) (hS : S this = 128) (event_a : -2147483648 ≤ event) (event_b : event ≤ 2147483647) (ci : CI E S G) (t : Tz) (h : RelC S G this t) : Calls E mX11_choices [(2, this), (0, event)] S G 3 0 0 (fun r S' G' => S = S' ∧ (∃ G1, hw [(128, 0)] G G1 = G') ∧ RelC S' G' this ((t, tCho t event)).1 ∧ ∃ z : Int, r = some (0, z) ∧ (-2147483648) ≤ z ∧ z ≤ 2147483647 ∧ z = ((t, tCho t event)).2) := by
  obtain ⟨h6, h0, h1, h2, h3, h4, h5, h7, d1, d2, d3⟩ := h
  obtain ⟨c0, c1, c2, c3, c4, c5, c6, c7, c8, c9, c10, c11⟩ := h0
  refine calls_mono (c_X11_choicesT E S G this event hS (G 128 this 8) rfl (q6_events h6) (G 156 (G 128 this 8) 2) rfl event_a event_b ci) ?_
  rintro r S' G' ⟨rfl, ⟨g, rfl⟩, z, rfl, za, zb, hz⟩
  have f : ∀ gs : List (Int × Int), djg [(128, 0)] gs = true → Frm gs S G S (hw [(128, 0)] G g) := fun gs c => frm_hw c
  have q6 := q6_frm h6 (f _ rfl)
  have q1 := q1_frm ci h6 h1 (f _ rfl)
  have q2 := q2_frm ci h6 h2 (f _ rfl)
  have q3 := q3_frm ci h6 h3 (f _ rfl)
  have q4 := q4_frm ci h6 h4 (f _ rfl)
  have q5 := q5_frm h6 h5 (f _ rfl)
  have q7 := q7_frm h6 h7 (f _ rfl)
  have e1 := d1_frm ci h6 d1 (f _ rfl)
  have e2 := d2_frm ci h6 d2 (f _ rfl)
  have e3 := d3_frm ci h6 d3 (f _ rfl)
  have hv : z = tCho t event := by
    unfold tCho iIn
    rcases hz with ⟨w1, w2, hz⟩ | ⟨hz, w⟩
    · rw [if_pos (decide_eq_true ⟨w1, by omega⟩)]
      exact hz.trans (h2 event w1 w2).2.2.1
    · rw [if_neg (fun q => w (by have := of_decide_eq_true q; omega))]
      exact hz
  exact ⟨rfl, ⟨g, rfl⟩, ⟨q6, (q0_mk (t := t) h6 (f _ rfl) ((fr1 (L := 130) (j := 0) f rfl (q6_accounts h6) (by decide)).trans c0) ((fr1 (L := 154) (j := 2) f rfl (q6_issues h6) (by decide)).trans c1) ((fr1 (L := 155) (j := 2) f rfl (q6_trades h6) (by decide)).trans c2) ((fr1 (L := 156) (j := 2) f rfl (q6_events h6) (by decide)).trans c3) ((fr1 (L := 157) (j := 2) f rfl (q6_picks h6) (by decide)).trans c4) ((fr1 (L := 158) (j := 2) f rfl (q6_options h6) (by decide)).trans c5) ((fr1 (L := 159) (j := 2) f rfl (q6_names h6) (by decide)).trans c6) ((fr1 (L := 128) (j := 1) f rfl h6.1 (by decide)).trans c7) ((fr1 (L := 131) (j := 0) f rfl (q6_reader h6) (by decide)).trans c8) ((fr1 (L := 129) (j := 0) f rfl (q6_run h6) (by decide)).trans c9) ((fr1 (L := 131) (j := 1) f rfl (q6_reader h6) (by decide)).trans c10) ((fr1 (L := 131) (j := 2) f rfl (q6_reader h6) (by decide)).trans c11)), q1, q2, q3, q4, q5, q7, e1, e2, e3⟩, z, rfl, za, zb, hv⟩
theorem k_called (E : En) (S : Sg) (G : Gh) (this paper day : Int) (hS : S this = 128) (paper_a : -2147483648 ≤ paper) (paper_b : paper ≤ 2147483647) (day_a : -2147483648 ≤ day) (day_b : day ≤ 2147483647) (ci : CI E S G) (t : Tz) (h : RelC S G this t) : Calls E mX11_called [(2, this), (0, paper), (0, day)] S G 4 0 0 (fun r S' G' => S = S' ∧ (∃ G1, hw [(128, 0)] G G1 = G') ∧ RelC S' G' this ((t, tCld t paper day)).1 ∧ ∃ z : Int, r = some (0, z) ∧ (-2147483648) ≤ z ∧ z ≤ 2147483647 ∧ z = ((t, tCld t paper day)).2) := by
  obtain ⟨h6, h0, h1, h2, h3, h4, h5, h7, d1, d2, d3⟩ := h
  obtain ⟨c0, c1, c2, c3, c4, c5, c6, c7, c8, c9, c10, c11⟩ := h0
  refine calls_mono (c_X11_calledT E S G this paper day hS (G 128 this 11) rfl (q6_names h6) (G 159 (G 128 this 11) 2) rfl (G 128 this 17) rfl (q6_run h6) (G 129 (G 128 this 17) 0) rfl paper_a paper_b day_a day_b ci t h4 c6.symm c9) ?_
  rintro r S' G' ⟨rfl, ⟨g, rfl⟩, z, rfl, za, zb, hz⟩
  have f : ∀ gs : List (Int × Int), djg [(128, 0)] gs = true → Frm gs S G S (hw [(128, 0)] G g) := fun gs c => frm_hw c
  have q6 := q6_frm h6 (f _ rfl)
  have q1 := q1_frm ci h6 h1 (f _ rfl)
  have q2 := q2_frm ci h6 h2 (f _ rfl)
  have q3 := q3_frm ci h6 h3 (f _ rfl)
  have q4 := q4_frm ci h6 h4 (f _ rfl)
  have q5 := q5_frm h6 h5 (f _ rfl)
  have q7 := q7_frm h6 h7 (f _ rfl)
  have e1 := d1_frm ci h6 d1 (f _ rfl)
  have e2 := d2_frm ci h6 d2 (f _ rfl)
  have e3 := d3_frm ci h6 d3 (f _ rfl)
  exact ⟨rfl, ⟨g, rfl⟩, ⟨q6, (q0_mk (t := t) h6 (f _ rfl) ((fr1 (L := 130) (j := 0) f rfl (q6_accounts h6) (by decide)).trans c0) ((fr1 (L := 154) (j := 2) f rfl (q6_issues h6) (by decide)).trans c1) ((fr1 (L := 155) (j := 2) f rfl (q6_trades h6) (by decide)).trans c2) ((fr1 (L := 156) (j := 2) f rfl (q6_events h6) (by decide)).trans c3) ((fr1 (L := 157) (j := 2) f rfl (q6_picks h6) (by decide)).trans c4) ((fr1 (L := 158) (j := 2) f rfl (q6_options h6) (by decide)).trans c5) ((fr1 (L := 159) (j := 2) f rfl (q6_names h6) (by decide)).trans c6) ((fr1 (L := 128) (j := 1) f rfl h6.1 (by decide)).trans c7) ((fr1 (L := 131) (j := 0) f rfl (q6_reader h6) (by decide)).trans c8) ((fr1 (L := 129) (j := 0) f rfl (q6_run h6) (by decide)).trans c9) ((fr1 (L := 131) (j := 1) f rfl (q6_reader h6) (by decide)).trans c10) ((fr1 (L := 131) (j := 2) f rfl (q6_reader h6) (by decide)).trans c11)), q1, q2, q3, q4, q5, q7, e1, e2, e3⟩, z, rfl, za, zb, hz⟩
theorem k_find (E : En) (S : Sg) (G : Gh) (this name_ day k : Int) (hS : S this = 128) (name__a : -2147483648 ≤ name_) (name__b : name_ ≤ 2147483647) (day_a : -2147483648 ≤ day) (day_b : day ≤ 2147483647) (k_a : -2147483648 ≤ k) (k_b : k ≤ 2147483647) (ci : CI E S G) (t : Tz) (h : RelC S G this t) : Calls E mX11_find [(2, this), (0, name_), (0, day), (0, k)] S G 4 0 0 (fun r S' G' => S = S' ∧ (∃ G1, hw [(128, 0)] G G1 = G') ∧ RelC S' G' this ((t, tFnd t name_ day k)).1 ∧ ∃ z : Int, r = some (0, z) ∧ (-2147483648) ≤ z ∧ z ≤ 2147483647 ∧ z = ((t, tFnd t name_ day k)).2) := by
  obtain ⟨h6, h0, h1, h2, h3, h4, h5, h7, d1, d2, d3⟩ := h
  obtain ⟨c0, c1, c2, c3, c4, c5, c6, c7, c8, c9, c10, c11⟩ := h0
  refine calls_mono (c_X11_findT E S G this name_ day k hS (G 128 this 11) rfl (q6_names h6) (G 159 (G 128 this 11) 2) rfl (G 128 this 17) rfl (q6_run h6) (G 129 (G 128 this 17) 0) rfl name__a name__b day_a day_b k_a k_b ci t h4 c6.symm c9) ?_
  rintro r S' G' ⟨rfl, ⟨g, rfl⟩, z, rfl, za, zb, hz⟩
  have f : ∀ gs : List (Int × Int), djg [(128, 0)] gs = true → Frm gs S G S (hw [(128, 0)] G g) := fun gs c => frm_hw c
  have q6 := q6_frm h6 (f _ rfl)
  have q1 := q1_frm ci h6 h1 (f _ rfl)
  have q2 := q2_frm ci h6 h2 (f _ rfl)
  have q3 := q3_frm ci h6 h3 (f _ rfl)
  have q4 := q4_frm ci h6 h4 (f _ rfl)
  have q5 := q5_frm h6 h5 (f _ rfl)
  have q7 := q7_frm h6 h7 (f _ rfl)
  have e1 := d1_frm ci h6 d1 (f _ rfl)
  have e2 := d2_frm ci h6 d2 (f _ rfl)
  have e3 := d3_frm ci h6 d3 (f _ rfl)
  exact ⟨rfl, ⟨g, rfl⟩, ⟨q6, (q0_mk (t := t) h6 (f _ rfl) ((fr1 (L := 130) (j := 0) f rfl (q6_accounts h6) (by decide)).trans c0) ((fr1 (L := 154) (j := 2) f rfl (q6_issues h6) (by decide)).trans c1) ((fr1 (L := 155) (j := 2) f rfl (q6_trades h6) (by decide)).trans c2) ((fr1 (L := 156) (j := 2) f rfl (q6_events h6) (by decide)).trans c3) ((fr1 (L := 157) (j := 2) f rfl (q6_picks h6) (by decide)).trans c4) ((fr1 (L := 158) (j := 2) f rfl (q6_options h6) (by decide)).trans c5) ((fr1 (L := 159) (j := 2) f rfl (q6_names h6) (by decide)).trans c6) ((fr1 (L := 128) (j := 1) f rfl h6.1 (by decide)).trans c7) ((fr1 (L := 131) (j := 0) f rfl (q6_reader h6) (by decide)).trans c8) ((fr1 (L := 129) (j := 0) f rfl (q6_run h6) (by decide)).trans c9) ((fr1 (L := 131) (j := 1) f rfl (q6_reader h6) (by decide)).trans c10) ((fr1 (L := 131) (j := 2) f rfl (q6_reader h6) (by decide)).trans c11)), q1, q2, q3, q4, q5, q7, e1, e2, e3⟩, z, rfl, za, zb, hz⟩
theorem lay_st {T : Int → Int} {t : Tz} (h : ∀ i : Int, 0 ≤ i → i < t 8 0 → T i = t 40 i) {n : Int} (hn : n = t 8 0) (v : Int) : ∀ i : Int, 0 ≤ i → i < tLay t v 8 0 → layB T n v i = tLay t v 40 i := fun i i0 i1 => by
  rw [tLay_8] at i1
  rw [tLay_40, hn]
  exact layB_to h v i i0 i1
def tL5 (t : Tz) (a b c d e : Int) : Tz := tLay (tLay (tLay (tLay (tLay t a) b) c) d) e
theorem lay_5 {T : Int → Int} {t : Tz} (h : ∀ i : Int, 0 ≤ i → i < t 8 0 → T i = t 40 i) {n : Int} (hn : n = t 8 0) (a b c d e : Int) : (tL5 t a b c d e 8 0 = t 8 0 + 20) ∧ ∀ i : Int, 0 ≤ i → i < t 8 0 + 20 → layB (layB (layB (layB (layB T n a) (n + 4) b) (n + 8) c) (n + 12) d) (n + 16) e i = tL5 t a b c d e 40 i := by
  have p1 := tLay_8 t a
  have p2 := tLay_8 (tLay t a) b
  have p3 := tLay_8 (tLay (tLay t a) b) c
  have p4 := tLay_8 (tLay (tLay (tLay t a) b) c) d
  have p5 := tLay_8 (tLay (tLay (tLay (tLay t a) b) c) d) e
  have s1 := lay_st h hn a
  have s2 := lay_st s1 (n := n + 4) (by first | decide | omega) b
  have s3 := lay_st s2 (n := n + 8) (by first | decide | omega) c
  have s4 := lay_st s3 (n := n + 12) (by first | decide | omega) d
  have s5 := lay_st s4 (n := n + 16) (by first | decide | omega) e
  exact ⟨by show tLay (tLay (tLay (tLay (tLay t a) b) c) d) e 8 0 = _; omega, fun i i0 i1 => s5 i i0 (by first | decide | omega)⟩
theorem tFed_if (t : Tz) (a b c d e : Int) : tFed t a b c d e = if 400 < t 8 0 + 20 then (t, -1) else (tL5 t a b c d e, t 8 0 + 20) := rfl
theorem k_feed (E : En) (S : Sg) (G : Gh) (this a b c d e : Int) (hS : S this = 128) (a_a : -2147483648 ≤ a) (a_b : a ≤ 2147483647) (b_a : -2147483648 ≤ b) (b_b : b ≤ 2147483647) (c_a : -2147483648 ≤ c) (c_b : c ≤ 2147483647) (d_a : -2147483648 ≤ d) (d_b : d ≤ 2147483647) (e_a : -2147483648 ≤ e) (e_b : e ≤ 2147483647) (ci : CI E S G) (t : Tz) (h : RelC S G this t) : Calls E mX11_feed [(2, this), (0, a), (0, b), (0, c), (0, d), (0, e)] S G 1 0 0 (fun r S' G' => S = S' ∧ (∃ G1, hw [(105, -1), (131, 0)] G G1 = G') ∧ RelC S' G' this (tFed t a b c d e).1 ∧ ∃ z : Int, r = some (0, z) ∧ (-2147483648) ≤ z ∧ z ≤ 2147483647 ∧ z = (tFed t a b c d e).2) := by
  obtain ⟨h6, h0, h1, h2, h3, h4, h5, h7, d1, d2, d3⟩ := h
  obtain ⟨c0, c1, c2, c3, c4, c5, c6, c7, c8, c9, c10, c11⟩ := h0
  refine calls_mono (c_X11_feedT E S G this a b c d e hS (G 128 this 16) rfl (q6_reader h6) (G 131 (G 128 this 16) 0) rfl (G 131 (G 128 this 16) 3) rfl (q6_tape h6) a_a a_b b_a b_b c_a c_b d_a d_b e_a e_b) ?_
  rintro r S' G' ⟨rfl, ⟨g, rfl⟩, z, rfl, n2, x1, za, zb, hz, hy⟩
  have f : ∀ gs : List (Int × Int), djg [(105, -1), (131, 0)] gs = true → Frm gs S G S (hw [(105, -1), (131, 0)] G g) := fun gs c => frm_hw c
  have q6 := q6_frm h6 (f _ rfl)
  have q1 := q1_frm ci h6 h1 (f _ rfl)
  have q2 := q2_frm ci h6 h2 (f _ rfl)
  have q3 := q3_frm ci h6 h3 (f _ rfl)
  have q4 := q4_frm ci h6 h4 (f _ rfl)
  have q7 := q7_frm h6 h7 (f _ rfl)
  have e1 := d1_frm ci h6 d1 (f _ rfl)
  have e2 := d2_frm ci h6 d2 (f _ rfl)
  have e3 := d3_frm ci h6 d3 (f _ rfl)
  obtain ⟨l8, l40⟩ := lay_5 (T := fun j => G 105 (G 131 (G 128 this 16) 3) j) (t := t) (fun i i0 i1 => h5 i i0 (by first | decide | omega)) c8 a b c d e
  obtain ⟨-, -, -, -, -, -, -, eR, -, eT⟩ := q6_at h6 (f gs6 rfl)
  rw [tFed_if]
  by_cases ho : 400 < t 8 0 + 20
  · have hv : z = -1 ∧ n2 = t 8 0 := by omega
    rw [if_pos ho]
    have q5 : Q5 (hw [(105, -1), (131, 0)] G g) this t := by
      intro i i0 i1
      rw [eT]
      rw [eR, ← x1] at i1
      exact ((hy.resolve_right (fun q => by omega)).2 i).trans (h5 i i0 (by first | decide | omega))
    exact ⟨rfl, ⟨g, rfl⟩, ⟨q6, (q0_mk (t := t) h6 (f _ rfl) ((fr1 (L := 130) (j := 0) f rfl (q6_accounts h6) (by decide)).trans c0) ((fr1 (L := 154) (j := 2) f rfl (q6_issues h6) (by decide)).trans c1) ((fr1 (L := 155) (j := 2) f rfl (q6_trades h6) (by decide)).trans c2) ((fr1 (L := 156) (j := 2) f rfl (q6_events h6) (by decide)).trans c3) ((fr1 (L := 157) (j := 2) f rfl (q6_picks h6) (by decide)).trans c4) ((fr1 (L := 158) (j := 2) f rfl (q6_options h6) (by decide)).trans c5) ((fr1 (L := 159) (j := 2) f rfl (q6_names h6) (by decide)).trans c6) ((fr1 (L := 128) (j := 1) f rfl h6.1 (by decide)).trans c7) (x1.symm.trans hv.2) ((fr1 (L := 129) (j := 0) f rfl (q6_run h6) (by decide)).trans c9) ((fr1 (L := 131) (j := 1) f rfl (q6_reader h6) (by decide)).trans c10) ((fr1 (L := 131) (j := 2) f rfl (q6_reader h6) (by decide)).trans c11)), q1, q2, q3, q4, q5, q7, e1, e2, e3⟩, z, rfl, za, zb, hv.1⟩
  · have hv : z = t 8 0 + 20 ∧ n2 = t 8 0 + 20 := by omega
    rw [if_neg ho]
    have q5 : Q5 (hw [(105, -1), (131, 0)] G g) this (tL5 t a b c d e) := by
      intro i i0 i1
      rw [eT]
      rw [eR, ← x1] at i1
      exact ((hy.resolve_left (fun q => by omega)).2 i).trans (l40 i i0 (by first | decide | omega))
    exact ⟨rfl, ⟨g, rfl⟩, ⟨q6, (q0_mk (t := t) h6 (f _ rfl) ((fr1 (L := 130) (j := 0) f rfl (q6_accounts h6) (by decide)).trans c0) ((fr1 (L := 154) (j := 2) f rfl (q6_issues h6) (by decide)).trans c1) ((fr1 (L := 155) (j := 2) f rfl (q6_trades h6) (by decide)).trans c2) ((fr1 (L := 156) (j := 2) f rfl (q6_events h6) (by decide)).trans c3) ((fr1 (L := 157) (j := 2) f rfl (q6_picks h6) (by decide)).trans c4) ((fr1 (L := 158) (j := 2) f rfl (q6_options h6) (by decide)).trans c5) ((fr1 (L := 159) (j := 2) f rfl (q6_names h6) (by decide)).trans c6) ((fr1 (L := 128) (j := 1) f rfl h6.1 (by decide)).trans c7) (x1.symm.trans (hv.2.trans l8.symm)) ((fr1 (L := 129) (j := 0) f rfl (q6_run h6) (by decide)).trans c9) ((fr1 (L := 131) (j := 1) f rfl (q6_reader h6) (by decide)).trans c10) ((fr1 (L := 131) (j := 2) f rfl (q6_reader h6) (by decide)).trans c11)), q1, q2, q3, q4, q5, q7, e1, e2, e3⟩, z, rfl, za, zb, hv.1⟩
theorem k_strike (E : En) (S : Sg) (G : Gh) (this what which known : Int) (hS : S this = 128) (what_a : -2147483648 ≤ what) (what_b : what ≤ 2147483647) (which_a : -2147483648 ≤ which) (which_b : which ≤ 2147483647) (known_a : -2147483648 ≤ known) (known_b : known ≤ 2147483647) (ci : CI E S G) (t : Tz) (h : RelC S G this t) : Calls E mX11_strike [(2, this), (0, what), (0, which), (0, known)] S G 4 0 0 (fun r S' G' => S = S' ∧ (∃ G1, hw [(128, 0), (128, 1), (129, 1), (137, 1), (138, 1), (140, 1)] G G1 = G') ∧ RelC S' G' this (tStk t what which known).1 ∧ ∃ z : Int, r = some (0, z) ∧ 0 ≤ z ∧ z ≤ 1 ∧ z = (tStk t what which known).2) := by
  obtain ⟨h6, h0, h1, h2, h3, h4, h5, h7, d1, d2, d3⟩ := h
  obtain ⟨c0, c1, c2, c3, c4, c5, c6, c7, c8, c9, c10, c11⟩ := h0
  refine calls_mono (c_X11_strikeT E S G this what which known hS (G 128 this 7) rfl (q6_trades h6) (G 155 (G 128 this 7) 2) rfl (G 128 this 8) rfl (q6_events h6) (G 156 (G 128 this 8) 2) rfl (G 128 this 9) rfl (q6_picks h6) (G 157 (G 128 this 9) 2) rfl (G 128 this 1) rfl what_a what_b which_a which_b known_a known_b ci) ?_
  rintro r S' G' ⟨rfl, ⟨g, rfl⟩, z, rfl, l2, x1, za, zb, hz⟩
  have f : ∀ gs : List (Int × Int), djg [(128, 0), (128, 1), (129, 1), (137, 1), (138, 1), (140, 1)] gs = true → Frm gs S G S (hw [(128, 0), (128, 1), (129, 1), (137, 1), (138, 1), (140, 1)] G g) := fun gs c => frm_hw c
  have q6 := q6_frm h6 (f _ rfl)
  have q4 := q4_frm ci h6 h4 (f _ rfl)
  have q5 := q5_frm h6 h5 (f _ rfl)
  have q7 := q7_frm h6 h7 (f _ rfl)
  have kA : ∀ i : Int, 0 ≤ i → i < G 155 (G 128 this 7) 2 → elm S (hw [(128, 0), (128, 1), (129, 1), (137, 1), (138, 1), (140, 1)] G g) 155 (G 128 this 7) i = elm S G 155 (G 128 this 7) i := fun i i0 i1 => elk_155 ci (q6_trades h6) (f _ rfl) i0 i1
  have kB : ∀ i : Int, 0 ≤ i → i < G 156 (G 128 this 8) 2 → elm S (hw [(128, 0), (128, 1), (129, 1), (137, 1), (138, 1), (140, 1)] G g) 156 (G 128 this 8) i = elm S G 156 (G 128 this 8) i := fun i i0 i1 => elk_156 ci (q6_events h6) (f _ rfl) i0 i1
  have kC : ∀ i : Int, 0 ≤ i → i < G 157 (G 128 this 9) 2 → elm S (hw [(128, 0), (128, 1), (129, 1), (137, 1), (138, 1), (140, 1)] G g) 157 (G 128 this 9) i = elm S G 157 (G 128 this 9) i := fun i i0 i1 => elk_157 ci (q6_picks h6) (f _ rfl) i0 i1
  have e1 : D1 S (hw [(128, 0), (128, 1), (129, 1), (137, 1), (138, 1), (140, 1)] G g) this := by
    intro i j i0 ij j1
    have eF : (hw [(128, 0), (128, 1), (129, 1), (137, 1), (138, 1), (140, 1)] G g) 128 this 7 = G 128 this 7 := fr1 (L := 128) (j := 7) f rfl h6.1 (by decide)
    rw [eF] at j1 ⊢
    rw [fr1 (L := 155) (j := 2) f rfl (q6_trades h6) (by decide)] at j1
    rw [kA i i0 (by first | decide | omega), kA j (by first | decide | omega) j1]
    exact d1 i j i0 ij j1
  have e2 : D2 S (hw [(128, 0), (128, 1), (129, 1), (137, 1), (138, 1), (140, 1)] G g) this := by
    intro i j i0 ij j1
    have eF : (hw [(128, 0), (128, 1), (129, 1), (137, 1), (138, 1), (140, 1)] G g) 128 this 8 = G 128 this 8 := fr1 (L := 128) (j := 8) f rfl h6.1 (by decide)
    rw [eF] at j1 ⊢
    rw [fr1 (L := 156) (j := 2) f rfl (q6_events h6) (by decide)] at j1
    rw [kB i i0 (by first | decide | omega), kB j (by first | decide | omega) j1]
    exact d2 i j i0 ij j1
  have e3 : D3 S (hw [(128, 0), (128, 1), (129, 1), (137, 1), (138, 1), (140, 1)] G g) this := by
    intro i j i0 ij j1
    have eF : (hw [(128, 0), (128, 1), (129, 1), (137, 1), (138, 1), (140, 1)] G g) 128 this 9 = G 128 this 9 := fr1 (L := 128) (j := 9) f rfl h6.1 (by decide)
    rw [eF] at j1 ⊢
    rw [fr1 (L := 157) (j := 2) f rfl (q6_picks h6) (by decide)] at j1
    rw [kC i i0 (by first | decide | omega), kC j (by first | decide | omega) j1]
    exact d3 i j i0 ij j1
  have io := oStk_iff t what which known
  by_cases ho : oStk t what which known = true
  · have o := io.mp ho
    have ev : tStk t what which known = (tu (tu t (20 + what) which known) 7 0 known, 1) := if_pos ho
    rw [ev]
    clear io ho ev
    obtain ⟨o1, o2, o3, o4, o5, o6, o7, o8⟩ := o
    rcases hz with ⟨z1, z2, z3, z4, hz⟩ | ⟨-, -, -, hz⟩
    rotate_left
    · exfalso
      apply hz
      refine ⟨o5, o6, by omega, o1, o2, ?_⟩
      rcases (by omega : what = 0 ∨ what = 1 ∨ what = 2) with cw | cw | cw
      · subst cw
        rw [if_pos rfl] at o4
        exact Or.inl ⟨rfl, o3, by omega, (h1 which o3 (by first | decide | omega)).trans o8⟩
      · subst cw
        rw [if_neg (by decide), if_pos rfl] at o4
        exact Or.inr (Or.inl ⟨rfl, o3, by omega, (h2 which o3 (by first | decide | omega)).1.trans o8⟩)
      · subst cw
        rw [if_neg (by decide), if_neg (by decide)] at o4
        exact Or.inr (Or.inr ⟨rfl, o3, by omega, (h3 which o3 (by first | decide | omega)).trans o8⟩)
    rcases hz with ⟨v1, v2, v3, v4, v5, s1, s2, s3⟩ | ⟨v1, v2, v3, v4, v5, s1, s2, s3⟩ | ⟨v1, v2, v3, v4, v5, s1, s2, s3⟩
    · subst v2
      rw [show (20 : Int) + 0 = 20 from rfl]
      have q1 : Q1 S (hw [(128, 0), (128, 1), (129, 1), (137, 1), (138, 1), (140, 1)] G g) this (tu (tu t 20 which known) 7 0 known) := by
        intro i i0 i1
        have eF : (hw [(128, 0), (128, 1), (129, 1), (137, 1), (138, 1), (140, 1)] G g) 128 this 7 = G 128 this 7 := fr1 (L := 128) (j := 7) f rfl h6.1 (by decide)
        rw [eF] at i1 ⊢
        rw [(fr1 (L := 155) (j := 2) f rfl (q6_trades h6) (by decide))] at i1
        rw [kA i i0 i1]
        by_cases cc : i = which
        · skip
          exact (by rw [cc]; exact s1.trans (tu_at t 20 which known).symm)
        · skip
          have ne : elm S G 155 (G 128 this 7) i ≠ elm S G 155 (G 128 this 7) which := by
            rcases Int.lt_or_gt_of_ne cc with w | w
            · exact d1 i which i0 w (by first | decide | omega)
            · exact fun q => d1 which i (by first | decide | omega) w i1 q.symm
          exact ((s2 _ ne).trans ((h1 i i0 i1).trans (tu_ni (t := t) (c := 20) (v := known) (c' := 20) cc).symm))
      have q2 : Q2 S (hw [(128, 0), (128, 1), (129, 1), (137, 1), (138, 1), (140, 1)] G g) this (tu (tu t 20 which known) 7 0 known) := by
        intro i i0 i1
        have eF : (hw [(128, 0), (128, 1), (129, 1), (137, 1), (138, 1), (140, 1)] G g) 128 this 8 = G 128 this 8 := fr1 (L := 128) (j := 8) f rfl h6.1 (by decide)
        rw [eF] at i1 ⊢
        rw [(fr1 (L := 156) (j := 2) f rfl (q6_events h6) (by decide))] at i1
        rw [kB i i0 i1]
        obtain ⟨y1, y2, y3, y4, y5, y6⟩ := h2 i i0 i1
        have lb := ell_156 ci (q6_events h6) i0 i1
        have x3 : (hw [(128, 0), (128, 1), (129, 1), (137, 1), (138, 1), (140, 1)] G g) 137 (elm S G 156 (G 128 this 8) i) 3 = G 137 (elm S G 156 (G 128 this 8) i) 3 := fr1 (L := 137) (j := 3) f rfl lb (by decide)
        have eR : (hw [(128, 0), (128, 1), (129, 1), (137, 1), (138, 1), (140, 1)] G g) 128 this 16 = G 128 this 16 := fr1 (L := 128) (j := 16) f rfl h6.1 (by decide)
        rw [x3, eR, fr1 (L := 136) (j := 1) f rfl y2 (by decide), fr1 (L := 136) (j := 2) f rfl y2 (by decide), fr1 (L := 131) (j := 9) f rfl (q6_reader h6) (by decide)]
        exact ⟨(((s3 _).1).trans (y1)), y2, y3, y4, y5, y6⟩
      have q3 : Q3 S (hw [(128, 0), (128, 1), (129, 1), (137, 1), (138, 1), (140, 1)] G g) this (tu (tu t 20 which known) 7 0 known) := by
        intro i i0 i1
        have eF : (hw [(128, 0), (128, 1), (129, 1), (137, 1), (138, 1), (140, 1)] G g) 128 this 9 = G 128 this 9 := fr1 (L := 128) (j := 9) f rfl h6.1 (by decide)
        rw [eF] at i1 ⊢
        rw [(fr1 (L := 157) (j := 2) f rfl (q6_picks h6) (by decide))] at i1
        rw [kC i i0 i1]
        exact (((s3 _).2).trans (h3 i i0 i1))
      exact ⟨rfl, ⟨g, rfl⟩, ⟨q6, (q0_mk (t := t) h6 (f _ rfl) ((fr1 (L := 130) (j := 0) f rfl (q6_accounts h6) (by decide)).trans c0) ((fr1 (L := 154) (j := 2) f rfl (q6_issues h6) (by decide)).trans c1) ((fr1 (L := 155) (j := 2) f rfl (q6_trades h6) (by decide)).trans c2) ((fr1 (L := 156) (j := 2) f rfl (q6_events h6) (by decide)).trans c3) ((fr1 (L := 157) (j := 2) f rfl (q6_picks h6) (by decide)).trans c4) ((fr1 (L := 158) (j := 2) f rfl (q6_options h6) (by decide)).trans c5) ((fr1 (L := 159) (j := 2) f rfl (q6_names h6) (by decide)).trans c6) (x1.symm.trans z4) ((fr1 (L := 131) (j := 0) f rfl (q6_reader h6) (by decide)).trans c8) ((fr1 (L := 129) (j := 0) f rfl (q6_run h6) (by decide)).trans c9) ((fr1 (L := 131) (j := 1) f rfl (q6_reader h6) (by decide)).trans c10) ((fr1 (L := 131) (j := 2) f rfl (q6_reader h6) (by decide)).trans c11)), q1, q2, q3, q4, q5, q7, e1, e2, e3⟩, z, rfl, za, zb, v1⟩
    · subst v2
      rw [show (20 : Int) + 1 = 21 from rfl]
      have q1 : Q1 S (hw [(128, 0), (128, 1), (129, 1), (137, 1), (138, 1), (140, 1)] G g) this (tu (tu t 21 which known) 7 0 known) := by
        intro i i0 i1
        have eF : (hw [(128, 0), (128, 1), (129, 1), (137, 1), (138, 1), (140, 1)] G g) 128 this 7 = G 128 this 7 := fr1 (L := 128) (j := 7) f rfl h6.1 (by decide)
        rw [eF] at i1 ⊢
        rw [(fr1 (L := 155) (j := 2) f rfl (q6_trades h6) (by decide))] at i1
        rw [kA i i0 i1]
        exact (((s3 _).1).trans (h1 i i0 i1))
      have q2 : Q2 S (hw [(128, 0), (128, 1), (129, 1), (137, 1), (138, 1), (140, 1)] G g) this (tu (tu t 21 which known) 7 0 known) := by
        intro i i0 i1
        have eF : (hw [(128, 0), (128, 1), (129, 1), (137, 1), (138, 1), (140, 1)] G g) 128 this 8 = G 128 this 8 := fr1 (L := 128) (j := 8) f rfl h6.1 (by decide)
        rw [eF] at i1 ⊢
        rw [(fr1 (L := 156) (j := 2) f rfl (q6_events h6) (by decide))] at i1
        rw [kB i i0 i1]
        obtain ⟨y1, y2, y3, y4, y5, y6⟩ := h2 i i0 i1
        have lb := ell_156 ci (q6_events h6) i0 i1
        have x3 : (hw [(128, 0), (128, 1), (129, 1), (137, 1), (138, 1), (140, 1)] G g) 137 (elm S G 156 (G 128 this 8) i) 3 = G 137 (elm S G 156 (G 128 this 8) i) 3 := fr1 (L := 137) (j := 3) f rfl lb (by decide)
        have eR : (hw [(128, 0), (128, 1), (129, 1), (137, 1), (138, 1), (140, 1)] G g) 128 this 16 = G 128 this 16 := fr1 (L := 128) (j := 16) f rfl h6.1 (by decide)
        rw [x3, eR, fr1 (L := 136) (j := 1) f rfl y2 (by decide), fr1 (L := 136) (j := 2) f rfl y2 (by decide), fr1 (L := 131) (j := 9) f rfl (q6_reader h6) (by decide)]
        by_cases cc : i = which
        · skip
          exact ⟨(by rw [cc]; exact s1.trans (tu_at t 21 which known).symm), y2, y3, y4, y5, y6⟩
        · skip
          have ne : elm S G 156 (G 128 this 8) i ≠ elm S G 156 (G 128 this 8) which := by
            rcases Int.lt_or_gt_of_ne cc with w | w
            · exact d2 i which i0 w (by first | decide | omega)
            · exact fun q => d2 which i (by first | decide | omega) w i1 q.symm
          exact ⟨((s2 _ ne).trans ((y1).trans (tu_ni (t := t) (c := 21) (v := known) (c' := 21) cc).symm)), y2, y3, y4, y5, y6⟩
      have q3 : Q3 S (hw [(128, 0), (128, 1), (129, 1), (137, 1), (138, 1), (140, 1)] G g) this (tu (tu t 21 which known) 7 0 known) := by
        intro i i0 i1
        have eF : (hw [(128, 0), (128, 1), (129, 1), (137, 1), (138, 1), (140, 1)] G g) 128 this 9 = G 128 this 9 := fr1 (L := 128) (j := 9) f rfl h6.1 (by decide)
        rw [eF] at i1 ⊢
        rw [(fr1 (L := 157) (j := 2) f rfl (q6_picks h6) (by decide))] at i1
        rw [kC i i0 i1]
        exact (((s3 _).2).trans (h3 i i0 i1))
      exact ⟨rfl, ⟨g, rfl⟩, ⟨q6, (q0_mk (t := t) h6 (f _ rfl) ((fr1 (L := 130) (j := 0) f rfl (q6_accounts h6) (by decide)).trans c0) ((fr1 (L := 154) (j := 2) f rfl (q6_issues h6) (by decide)).trans c1) ((fr1 (L := 155) (j := 2) f rfl (q6_trades h6) (by decide)).trans c2) ((fr1 (L := 156) (j := 2) f rfl (q6_events h6) (by decide)).trans c3) ((fr1 (L := 157) (j := 2) f rfl (q6_picks h6) (by decide)).trans c4) ((fr1 (L := 158) (j := 2) f rfl (q6_options h6) (by decide)).trans c5) ((fr1 (L := 159) (j := 2) f rfl (q6_names h6) (by decide)).trans c6) (x1.symm.trans z4) ((fr1 (L := 131) (j := 0) f rfl (q6_reader h6) (by decide)).trans c8) ((fr1 (L := 129) (j := 0) f rfl (q6_run h6) (by decide)).trans c9) ((fr1 (L := 131) (j := 1) f rfl (q6_reader h6) (by decide)).trans c10) ((fr1 (L := 131) (j := 2) f rfl (q6_reader h6) (by decide)).trans c11)), q1, q2, q3, q4, q5, q7, e1, e2, e3⟩, z, rfl, za, zb, v1⟩
    · subst v2
      rw [show (20 : Int) + 2 = 22 from rfl]
      have q1 : Q1 S (hw [(128, 0), (128, 1), (129, 1), (137, 1), (138, 1), (140, 1)] G g) this (tu (tu t 22 which known) 7 0 known) := by
        intro i i0 i1
        have eF : (hw [(128, 0), (128, 1), (129, 1), (137, 1), (138, 1), (140, 1)] G g) 128 this 7 = G 128 this 7 := fr1 (L := 128) (j := 7) f rfl h6.1 (by decide)
        rw [eF] at i1 ⊢
        rw [(fr1 (L := 155) (j := 2) f rfl (q6_trades h6) (by decide))] at i1
        rw [kA i i0 i1]
        exact (((s3 _).1).trans (h1 i i0 i1))
      have q2 : Q2 S (hw [(128, 0), (128, 1), (129, 1), (137, 1), (138, 1), (140, 1)] G g) this (tu (tu t 22 which known) 7 0 known) := by
        intro i i0 i1
        have eF : (hw [(128, 0), (128, 1), (129, 1), (137, 1), (138, 1), (140, 1)] G g) 128 this 8 = G 128 this 8 := fr1 (L := 128) (j := 8) f rfl h6.1 (by decide)
        rw [eF] at i1 ⊢
        rw [(fr1 (L := 156) (j := 2) f rfl (q6_events h6) (by decide))] at i1
        rw [kB i i0 i1]
        obtain ⟨y1, y2, y3, y4, y5, y6⟩ := h2 i i0 i1
        have lb := ell_156 ci (q6_events h6) i0 i1
        have x3 : (hw [(128, 0), (128, 1), (129, 1), (137, 1), (138, 1), (140, 1)] G g) 137 (elm S G 156 (G 128 this 8) i) 3 = G 137 (elm S G 156 (G 128 this 8) i) 3 := fr1 (L := 137) (j := 3) f rfl lb (by decide)
        have eR : (hw [(128, 0), (128, 1), (129, 1), (137, 1), (138, 1), (140, 1)] G g) 128 this 16 = G 128 this 16 := fr1 (L := 128) (j := 16) f rfl h6.1 (by decide)
        rw [x3, eR, fr1 (L := 136) (j := 1) f rfl y2 (by decide), fr1 (L := 136) (j := 2) f rfl y2 (by decide), fr1 (L := 131) (j := 9) f rfl (q6_reader h6) (by decide)]
        exact ⟨(((s3 _).2).trans (y1)), y2, y3, y4, y5, y6⟩
      have q3 : Q3 S (hw [(128, 0), (128, 1), (129, 1), (137, 1), (138, 1), (140, 1)] G g) this (tu (tu t 22 which known) 7 0 known) := by
        intro i i0 i1
        have eF : (hw [(128, 0), (128, 1), (129, 1), (137, 1), (138, 1), (140, 1)] G g) 128 this 9 = G 128 this 9 := fr1 (L := 128) (j := 9) f rfl h6.1 (by decide)
        rw [eF] at i1 ⊢
        rw [(fr1 (L := 157) (j := 2) f rfl (q6_picks h6) (by decide))] at i1
        rw [kC i i0 i1]
        by_cases cc : i = which
        · skip
          exact (by rw [cc]; exact s1.trans (tu_at t 22 which known).symm)
        · skip
          have ne : elm S G 157 (G 128 this 9) i ≠ elm S G 157 (G 128 this 9) which := by
            rcases Int.lt_or_gt_of_ne cc with w | w
            · exact d3 i which i0 w (by first | decide | omega)
            · exact fun q => d3 which i (by first | decide | omega) w i1 q.symm
          exact ((s2 _ ne).trans ((h3 i i0 i1).trans (tu_ni (t := t) (c := 22) (v := known) (c' := 22) cc).symm))
      exact ⟨rfl, ⟨g, rfl⟩, ⟨q6, (q0_mk (t := t) h6 (f _ rfl) ((fr1 (L := 130) (j := 0) f rfl (q6_accounts h6) (by decide)).trans c0) ((fr1 (L := 154) (j := 2) f rfl (q6_issues h6) (by decide)).trans c1) ((fr1 (L := 155) (j := 2) f rfl (q6_trades h6) (by decide)).trans c2) ((fr1 (L := 156) (j := 2) f rfl (q6_events h6) (by decide)).trans c3) ((fr1 (L := 157) (j := 2) f rfl (q6_picks h6) (by decide)).trans c4) ((fr1 (L := 158) (j := 2) f rfl (q6_options h6) (by decide)).trans c5) ((fr1 (L := 159) (j := 2) f rfl (q6_names h6) (by decide)).trans c6) (x1.symm.trans z4) ((fr1 (L := 131) (j := 0) f rfl (q6_reader h6) (by decide)).trans c8) ((fr1 (L := 129) (j := 0) f rfl (q6_run h6) (by decide)).trans c9) ((fr1 (L := 131) (j := 1) f rfl (q6_reader h6) (by decide)).trans c10) ((fr1 (L := 131) (j := 2) f rfl (q6_reader h6) (by decide)).trans c11)), q1, q2, q3, q4, q5, q7, e1, e2, e3⟩, z, rfl, za, zb, v1⟩
  · have ev : tStk t what which known = (t, 0) := if_neg ho
    rw [ev]
    rcases hz with ⟨z1, z2, z3, z4, hz⟩ | ⟨z1, z2, sm, -⟩
    · exfalso
      apply ho
      apply io.mpr
      rcases hz with ⟨v1, v2, v3, v4, v5, -⟩ | ⟨v1, v2, v3, v4, v5, -⟩ | ⟨v1, v2, v3, v4, v5, -⟩
      · subst v2
        exact ⟨by decide, by decide, v3, by rw [if_pos rfl]; omega, z1, z2, by omega, (h1 which v3 v4).symm.trans v5⟩
      · subst v2
        exact ⟨by decide, by decide, v3, by rw [if_neg (by decide), if_pos rfl]; omega, z1, z2, by omega, (h2 which v3 v4).1.symm.trans v5⟩
      · subst v2
        exact ⟨by decide, by decide, v3, by rw [if_neg (by decide), if_neg (by decide)]; omega, z1, z2, by omega, (h3 which v3 v4).symm.trans v5⟩
    have q1 : Q1 S (hw [(128, 0), (128, 1), (129, 1), (137, 1), (138, 1), (140, 1)] G g) this (t) := by
      intro i i0 i1
      have eF : (hw [(128, 0), (128, 1), (129, 1), (137, 1), (138, 1), (140, 1)] G g) 128 this 7 = G 128 this 7 := fr1 (L := 128) (j := 7) f rfl h6.1 (by decide)
      rw [eF] at i1 ⊢
      rw [(fr1 (L := 155) (j := 2) f rfl (q6_trades h6) (by decide))] at i1
      rw [kA i i0 i1]
      exact (((sm _).1).trans (h1 i i0 i1))
    have q2 : Q2 S (hw [(128, 0), (128, 1), (129, 1), (137, 1), (138, 1), (140, 1)] G g) this (t) := by
      intro i i0 i1
      have eF : (hw [(128, 0), (128, 1), (129, 1), (137, 1), (138, 1), (140, 1)] G g) 128 this 8 = G 128 this 8 := fr1 (L := 128) (j := 8) f rfl h6.1 (by decide)
      rw [eF] at i1 ⊢
      rw [(fr1 (L := 156) (j := 2) f rfl (q6_events h6) (by decide))] at i1
      rw [kB i i0 i1]
      obtain ⟨y1, y2, y3, y4, y5, y6⟩ := h2 i i0 i1
      have lb := ell_156 ci (q6_events h6) i0 i1
      have x3 : (hw [(128, 0), (128, 1), (129, 1), (137, 1), (138, 1), (140, 1)] G g) 137 (elm S G 156 (G 128 this 8) i) 3 = G 137 (elm S G 156 (G 128 this 8) i) 3 := fr1 (L := 137) (j := 3) f rfl lb (by decide)
      have eR : (hw [(128, 0), (128, 1), (129, 1), (137, 1), (138, 1), (140, 1)] G g) 128 this 16 = G 128 this 16 := fr1 (L := 128) (j := 16) f rfl h6.1 (by decide)
      rw [x3, eR, fr1 (L := 136) (j := 1) f rfl y2 (by decide), fr1 (L := 136) (j := 2) f rfl y2 (by decide), fr1 (L := 131) (j := 9) f rfl (q6_reader h6) (by decide)]
      exact ⟨(((sm _).2.1).trans (y1)), y2, y3, y4, y5, y6⟩
    have q3 : Q3 S (hw [(128, 0), (128, 1), (129, 1), (137, 1), (138, 1), (140, 1)] G g) this (t) := by
      intro i i0 i1
      have eF : (hw [(128, 0), (128, 1), (129, 1), (137, 1), (138, 1), (140, 1)] G g) 128 this 9 = G 128 this 9 := fr1 (L := 128) (j := 9) f rfl h6.1 (by decide)
      rw [eF] at i1 ⊢
      rw [(fr1 (L := 157) (j := 2) f rfl (q6_picks h6) (by decide))] at i1
      rw [kC i i0 i1]
      exact (((sm _).2.2).trans (h3 i i0 i1))
    exact ⟨rfl, ⟨g, rfl⟩, ⟨q6, (q0_mk (t := t) h6 (f _ rfl) ((fr1 (L := 130) (j := 0) f rfl (q6_accounts h6) (by decide)).trans c0) ((fr1 (L := 154) (j := 2) f rfl (q6_issues h6) (by decide)).trans c1) ((fr1 (L := 155) (j := 2) f rfl (q6_trades h6) (by decide)).trans c2) ((fr1 (L := 156) (j := 2) f rfl (q6_events h6) (by decide)).trans c3) ((fr1 (L := 157) (j := 2) f rfl (q6_picks h6) (by decide)).trans c4) ((fr1 (L := 158) (j := 2) f rfl (q6_options h6) (by decide)).trans c5) ((fr1 (L := 159) (j := 2) f rfl (q6_names h6) (by decide)).trans c6) (x1.symm.trans (z2.trans c7)) ((fr1 (L := 131) (j := 0) f rfl (q6_reader h6) (by decide)).trans c8) ((fr1 (L := 129) (j := 0) f rfl (q6_run h6) (by decide)).trans c9) ((fr1 (L := 131) (j := 1) f rfl (q6_reader h6) (by decide)).trans c10) ((fr1 (L := 131) (j := 2) f rfl (q6_reader h6) (by decide)).trans c11)), q1, q2, q3, q4, q5, q7, e1, e2, e3⟩, z, rfl, za, zb, z1⟩
